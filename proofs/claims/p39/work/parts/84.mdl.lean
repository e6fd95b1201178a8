/-! ===== printed by mdl2.py: contracts of the model ===== -/
noncomputable def wl_m_tray : List (Nat × Nat) := [(69, 2), (72, 9999), (73, 9999), (74, 9999)]
theorem c_m_tray {X : x_Ext} {d : Nat} {sh : List (Nat ⊕ (Nat × Nat))} {gi : Nat → Nat → Int32} {gl : Nat → Nat → Int64} {gr : Nat → Nat → Value} (hI : t_I sh gi gr) (ar1 : Int32) (ar2 : Int32) (ar3 : Int32) : x_Me X (d + 2) n_X12_tray [.ref 69, .int ar1, .int ar2, .int ar3] (sh, gi, gl, gr) (t_P wl_m_tray sh gi gl gr (t_Ri 0 1)) := by
  have hX : t_X wl_m_tray sh gi gl gr gi gl gr := t_X.rf
  refine me_i f_X12_tray (hI.wf.s rfl) rfl rfl rfl ?_
  refine ev_loc f_X12_tray (nx := 1) rfl rfl rfl rfl ?_
  refine ev_inS1 f_X12_tray (nx := 4) (lo2 := [(0, .int ar1)]) rfl rfl rfl rfl f_X12_isTray rfl rfl rfl rfl ?_
  refine ev_loc f_X12_isTray (nx := 1) rfl rfl rfl rfl ?_
  refine ev_if f_X12_isTray (t1 := 13) (t2 := 4) rfl rfl rfl (fun h1 => ?_) (fun h1 => ?_)
  · have u2 : ar1.toInt ≤ (-1) := t_ltu h1 (by decide : (0:Int32).toInt ≤ (0:Int)) rfl
    refine ev_ic f_X12_isTray (nx := 14) (v := 0) rfl (by decide) rfl ?_
    refine ev_retK1 f_X12_isTray rfl rfl rfl ?_
    refine ev_t f_X12_tray (t1 := 26) (t2 := 7) rfl rfl rfl (by decide) ?_
    refine ev_loc f_X12_tray (nx := 27) rfl rfl rfl rfl ?_
    refine ev_ic f_X12_tray (nx := 28) (v := 1) rfl (by decide) rfl ?_
    refine ev_inV2 f_X12_tray (nx := 31) (lo2 := [(0, .ref 69), (1, .int 1)]) rfl rfl rfl rfl f_X12_is (hI.wf.s rfl) rfl rfl rfl rfl rfl ?_
    refine ev_loc f_X12_is (nx := 1) rfl rfl rfl rfl ?_
    refine ev_loc f_X12_is (nx := 2) rfl rfl rfl rfl ?_
    refine ev_putIT f_X12_is (nx := 5) rfl (hI.wf.s rfl) rfl rfl rfl (hI.put0 (hI.wf.s rfl) rfl rfl) (hX.upI rfl) (fun g3 e3 hI hX => ?_)
    refine ev_loc f_X12_is (nx := 6) rfl rfl rfl rfl ?_
    refine ev_f f_X12_is (t1 := 9) (t2 := 13) rfl rfl rfl (by decide) ?_
    refine ev_ic f_X12_is (nx := 14) (v := 0) rfl (by decide) rfl ?_
    refine ev_retK1 f_X12_is rfl rfl rfl ?_
    exact ev_ret f_X12_tray rfl rfl rfl ⟨_, _, _, rfl, hI, hX, ⟨_, rfl, (by decide : (0:Int) ≤ (0:Int32).toInt), (Int.le_trans (by decide : (0:Int32).toInt ≤ (0:Int)) (by decide : (0:Int) ≤ 1))⟩⟩
  · have l4 : 0 ≤ ar1.toInt := t_lel (t_nlt h1) (by decide : (0:Int) ≤ (0:Int32).toInt)
    refine ev_loc f_X12_isTray (nx := 5) rfl rfl rfl rfl ?_
    refine ev_ic f_X12_isTray (nx := 6) (v := 4) rfl (by decide) rfl ?_
    refine ev_if f_X12_isTray (t1 := 13) (t2 := 9) rfl rfl rfl (fun h5 => ?_) (fun h5 => ?_)
    · have l6 : 4 ≤ ar1.toInt := t_lel h5 (by decide : (4:Int) ≤ (4:Int32).toInt)
      refine ev_ic f_X12_isTray (nx := 14) (v := 0) rfl (by decide) rfl ?_
      refine ev_retK1 f_X12_isTray rfl rfl rfl ?_
      refine ev_t f_X12_tray (t1 := 26) (t2 := 7) rfl rfl rfl (by decide) ?_
      refine ev_loc f_X12_tray (nx := 27) rfl rfl rfl rfl ?_
      refine ev_ic f_X12_tray (nx := 28) (v := 1) rfl (by decide) rfl ?_
      refine ev_inV2 f_X12_tray (nx := 31) (lo2 := [(0, .ref 69), (1, .int 1)]) rfl rfl rfl rfl f_X12_is (hI.wf.s rfl) rfl rfl rfl rfl rfl ?_
      refine ev_loc f_X12_is (nx := 1) rfl rfl rfl rfl ?_
      refine ev_loc f_X12_is (nx := 2) rfl rfl rfl rfl ?_
      refine ev_putIT f_X12_is (nx := 5) rfl (hI.wf.s rfl) rfl rfl rfl (hI.put0 (hI.wf.s rfl) rfl rfl) (hX.upI rfl) (fun g7 e7 hI hX => ?_)
      refine ev_loc f_X12_is (nx := 6) rfl rfl rfl rfl ?_
      refine ev_f f_X12_is (t1 := 9) (t2 := 13) rfl rfl rfl (by decide) ?_
      refine ev_ic f_X12_is (nx := 14) (v := 0) rfl (by decide) rfl ?_
      refine ev_retK1 f_X12_is rfl rfl rfl ?_
      exact ev_ret f_X12_tray rfl rfl rfl ⟨_, _, _, rfl, hI, hX, ⟨_, rfl, (by decide : (0:Int) ≤ (0:Int32).toInt), (Int.le_trans (by decide : (0:Int32).toInt ≤ (0:Int)) (by decide : (0:Int) ≤ 1))⟩⟩
    · have u8 : ar1.toInt ≤ 3 := t_ltu (t_nle h5) (by decide : (4:Int32).toInt ≤ (4:Int)) rfl
      refine ev_ic f_X12_isTray (nx := 10) (v := 1) rfl (by decide) rfl ?_
      refine ev_jmp f_X12_isTray (nx := 14) rfl rfl rfl ?_
      refine ev_retK1 f_X12_isTray rfl rfl rfl ?_
      refine ev_f f_X12_tray (t1 := 26) (t2 := 7) rfl rfl rfl (by decide) ?_
      refine ev_loc f_X12_tray (nx := 8) rfl rfl rfl rfl ?_
      refine ev_if f_X12_tray (t1 := 26) (t2 := 11) rfl rfl rfl (fun h9 => ?_) (fun h9 => ?_)
      · have u10 : ar2.toInt ≤ (-1) := t_ltu h9 (by decide : (0:Int32).toInt ≤ (0:Int)) rfl
        refine ev_loc f_X12_tray (nx := 27) rfl rfl rfl rfl ?_
        refine ev_ic f_X12_tray (nx := 28) (v := 1) rfl (by decide) rfl ?_
        refine ev_inV2 f_X12_tray (nx := 31) (lo2 := [(0, .ref 69), (1, .int 1)]) rfl rfl rfl rfl f_X12_is (hI.wf.s rfl) rfl rfl rfl rfl rfl ?_
        refine ev_loc f_X12_is (nx := 1) rfl rfl rfl rfl ?_
        refine ev_loc f_X12_is (nx := 2) rfl rfl rfl rfl ?_
        refine ev_putIT f_X12_is (nx := 5) rfl (hI.wf.s rfl) rfl rfl rfl (hI.put0 (hI.wf.s rfl) rfl rfl) (hX.upI rfl) (fun g11 e11 hI hX => ?_)
        refine ev_loc f_X12_is (nx := 6) rfl rfl rfl rfl ?_
        refine ev_f f_X12_is (t1 := 9) (t2 := 13) rfl rfl rfl (by decide) ?_
        refine ev_ic f_X12_is (nx := 14) (v := 0) rfl (by decide) rfl ?_
        refine ev_retK1 f_X12_is rfl rfl rfl ?_
        exact ev_ret f_X12_tray rfl rfl rfl ⟨_, _, _, rfl, hI, hX, ⟨_, rfl, (by decide : (0:Int) ≤ (0:Int32).toInt), (Int.le_trans (by decide : (0:Int32).toInt ≤ (0:Int)) (by decide : (0:Int) ≤ 1))⟩⟩
      · have l12 : 0 ≤ ar2.toInt := t_lel (t_nlt h9) (by decide : (0:Int) ≤ (0:Int32).toInt)
        refine ev_loc f_X12_tray (nx := 12) rfl rfl rfl rfl ?_
        refine ev_ic f_X12_tray (nx := 13) (v := 3) rfl (by decide) rfl ?_
        refine ev_if f_X12_tray (t1 := 26) (t2 := 16) rfl rfl rfl (fun h13 => ?_) (fun h13 => ?_)
        · have l14 : 4 ≤ ar2.toInt := t_ltl h13 (by decide : (3:Int) ≤ (3:Int32).toInt) rfl
          refine ev_loc f_X12_tray (nx := 27) rfl rfl rfl rfl ?_
          refine ev_ic f_X12_tray (nx := 28) (v := 1) rfl (by decide) rfl ?_
          refine ev_inV2 f_X12_tray (nx := 31) (lo2 := [(0, .ref 69), (1, .int 1)]) rfl rfl rfl rfl f_X12_is (hI.wf.s rfl) rfl rfl rfl rfl rfl ?_
          refine ev_loc f_X12_is (nx := 1) rfl rfl rfl rfl ?_
          refine ev_loc f_X12_is (nx := 2) rfl rfl rfl rfl ?_
          refine ev_putIT f_X12_is (nx := 5) rfl (hI.wf.s rfl) rfl rfl rfl (hI.put0 (hI.wf.s rfl) rfl rfl) (hX.upI rfl) (fun g15 e15 hI hX => ?_)
          refine ev_loc f_X12_is (nx := 6) rfl rfl rfl rfl ?_
          refine ev_f f_X12_is (t1 := 9) (t2 := 13) rfl rfl rfl (by decide) ?_
          refine ev_ic f_X12_is (nx := 14) (v := 0) rfl (by decide) rfl ?_
          refine ev_retK1 f_X12_is rfl rfl rfl ?_
          exact ev_ret f_X12_tray rfl rfl rfl ⟨_, _, _, rfl, hI, hX, ⟨_, rfl, (by decide : (0:Int) ≤ (0:Int32).toInt), (Int.le_trans (by decide : (0:Int32).toInt ≤ (0:Int)) (by decide : (0:Int) ≤ 1))⟩⟩
        · have u16 : ar2.toInt ≤ 3 := t_leu (t_nlt h13) (by decide : (3:Int32).toInt ≤ (3:Int))
          refine ev_loc f_X12_tray (nx := 17) rfl rfl rfl rfl ?_
          refine ev_if f_X12_tray (t1 := 26) (t2 := 20) rfl rfl rfl (fun h17 => ?_) (fun h17 => ?_)
          · have u18 : ar3.toInt ≤ (-1) := t_ltu h17 (by decide : (0:Int32).toInt ≤ (0:Int)) rfl
            refine ev_loc f_X12_tray (nx := 27) rfl rfl rfl rfl ?_
            refine ev_ic f_X12_tray (nx := 28) (v := 1) rfl (by decide) rfl ?_
            refine ev_inV2 f_X12_tray (nx := 31) (lo2 := [(0, .ref 69), (1, .int 1)]) rfl rfl rfl rfl f_X12_is (hI.wf.s rfl) rfl rfl rfl rfl rfl ?_
            refine ev_loc f_X12_is (nx := 1) rfl rfl rfl rfl ?_
            refine ev_loc f_X12_is (nx := 2) rfl rfl rfl rfl ?_
            refine ev_putIT f_X12_is (nx := 5) rfl (hI.wf.s rfl) rfl rfl rfl (hI.put0 (hI.wf.s rfl) rfl rfl) (hX.upI rfl) (fun g19 e19 hI hX => ?_)
            refine ev_loc f_X12_is (nx := 6) rfl rfl rfl rfl ?_
            refine ev_f f_X12_is (t1 := 9) (t2 := 13) rfl rfl rfl (by decide) ?_
            refine ev_ic f_X12_is (nx := 14) (v := 0) rfl (by decide) rfl ?_
            refine ev_retK1 f_X12_is rfl rfl rfl ?_
            exact ev_ret f_X12_tray rfl rfl rfl ⟨_, _, _, rfl, hI, hX, ⟨_, rfl, (by decide : (0:Int) ≤ (0:Int32).toInt), (Int.le_trans (by decide : (0:Int32).toInt ≤ (0:Int)) (by decide : (0:Int) ≤ 1))⟩⟩
          · have l20 : 0 ≤ ar3.toInt := t_lel (t_nlt h17) (by decide : (0:Int) ≤ (0:Int32).toInt)
            refine ev_loc f_X12_tray (nx := 21) rfl rfl rfl rfl ?_
            refine ev_bp f_X12_tray (nx := 23) (v := 60) rfl (by decide) rfl ?_
            refine ev_if f_X12_tray (t1 := 32) (t2 := 26) rfl rfl rfl (fun h21 => ?_) (fun h21 => ?_)
            · have u22 : ar3.toInt ≤ 60 := t_leu h21 (by decide : (60:Int32).toInt ≤ (60:Int))
              refine ev_loc f_X12_tray (nx := 33) rfl rfl rfl rfl ?_
              refine ev_getR f_X12_tray (nx := 36) rfl (hI.wf.s rfl) rfl rfl (hI.wf.r rfl) rfl rfl ?_
              refine ev_loc f_X12_tray (nx := 37) rfl rfl rfl rfl ?_
              refine ev_loc f_X12_tray (nx := 38) rfl rfl rfl rfl ?_
              refine ev_iastT f_X12_tray (nx := 39) rfl (hI.wf.s rfl) l4 (by decide) u8 (by decide) rfl (hI.astL (hI.wf.s rfl) (by decide +kernel : t_abw 72 0 3 0 3 = true) (t_cl1 l4 (by decide)) (t_cl2 l4 u8 (by decide) (by decide)) l12 u16 rfl) (hX.upI (t_inA_ok rfl)) (fun g23 e23 hI hX => ?_)
              refine ev_loc f_X12_tray (nx := 40) rfl rfl rfl rfl ?_
              refine ev_getR f_X12_tray (nx := 43) rfl (hI.wf.s rfl) rfl rfl (hI.wf.r rfl) rfl rfl ?_
              refine ev_loc f_X12_tray (nx := 44) rfl rfl rfl rfl ?_
              refine ev_loc f_X12_tray (nx := 45) rfl rfl rfl rfl ?_
              refine ev_iastT f_X12_tray (nx := 46) rfl (hI.wf.s rfl) l4 (by decide) u8 (by decide) rfl (hI.astL (hI.wf.s rfl) (by decide +kernel : t_abw 73 0 3 0 60 = true) (t_cl1 l4 (by decide)) (t_cl2 l4 u8 (by decide) (by decide)) l20 u22 rfl) (hX.upI (t_inA_ok rfl)) (fun g24 e24 hI hX => ?_)
              refine ev_ic f_X12_tray (nx := 47) (v := 0) rfl (by decide) rfl ?_
              refine ev_loc f_X12_tray (nx := 49) (lo' := [(4, .int 0), (0, .ref 69), (1, .int ar1), (2, .int ar2), (3, .int ar3)]) rfl rfl rfl rfl ?_
              have L25 : ∀ (m25 : Nat) (gi25 : Nat → Nat → Int32) (gl25 : Nat → Nat → Int64) (gr25 : Nat → Nat → Value) (y25_4 : Int32), t_I sh gi25 gr25 → t_X wl_m_tray sh gi gl gr gi25 gl25 gr25 → 0 ≤ y25_4.toInt → y25_4.toInt ≤ 60 → (60 - y25_4.toInt).toNat = m25 → x_Ev X (d + 2) n_X12_tray 49 [(4, .int y25_4), (0, .ref 69), (1, .int ar1), (2, .int ar2), (3, .int ar3)] [] (sh, gi25, gl25, gr25) (t_P wl_m_tray sh gi gl gr (t_Ri 0 1)) := by
                intro m25
                induction m25 using Nat.strongRecOn with
                | _ m25 ih25 =>
                intro gi25 gl25 gr25 y25_4 hI hX l25_4 u25_4 hm25
                refine ev_loc f_X12_tray (nx := 51) rfl rfl rfl rfl ?_
                refine ev_loc f_X12_tray (nx := 52) rfl rfl rfl rfl ?_
                refine ev_if f_X12_tray (t1 := 74) (t2 := 55) rfl rfl rfl (fun h26 => ?_) (fun h26 => ?_)
                · refine ev_loc f_X12_tray (nx := 75) rfl rfl rfl rfl ?_
                  refine ev_ic f_X12_tray (nx := 76) (v := 0) rfl (by decide) rfl ?_
                  refine ev_inV2 f_X12_tray (nx := 79) (lo2 := [(0, .ref 69), (1, .int 0)]) rfl rfl rfl rfl f_X12_is (hI.wf.s rfl) rfl rfl rfl rfl rfl ?_
                  refine ev_loc f_X12_is (nx := 1) rfl rfl rfl rfl ?_
                  refine ev_loc f_X12_is (nx := 2) rfl rfl rfl rfl ?_
                  refine ev_putIT f_X12_is (nx := 5) rfl (hI.wf.s rfl) rfl rfl rfl (hI.put0 (hI.wf.s rfl) rfl rfl) (hX.upI rfl) (fun g27 e27 hI hX => ?_)
                  refine ev_loc f_X12_is (nx := 6) rfl rfl rfl rfl ?_
                  refine ev_t f_X12_is (t1 := 9) (t2 := 13) rfl rfl rfl (by decide) ?_
                  refine ev_ic f_X12_is (nx := 10) (v := 1) rfl (by decide) rfl ?_
                  refine ev_jmp f_X12_is (nx := 14) rfl rfl rfl ?_
                  refine ev_retK1 f_X12_is rfl rfl rfl ?_
                  exact ev_ret f_X12_tray rfl rfl rfl ⟨_, _, _, rfl, hI, hX, ⟨_, rfl, (Int.le_trans (by decide : (0:Int) ≤ 1) (by decide : (1:Int) ≤ (1:Int32).toInt)), (by decide : (1:Int32).toInt ≤ (1:Int))⟩⟩
                · have u28 : y25_4.toInt ≤ 59 := t_ltu (t_nle h26) u22 rfl
                  have l29 : 1 ≤ ar3.toInt := t_ltl (t_nle h26) l25_4 rfl
                  refine ev_loc f_X12_tray (nx := 56) rfl rfl rfl rfl ?_
                  refine ev_getR f_X12_tray (nx := 59) rfl (hI.wf.s rfl) rfl rfl (hI.wf.r rfl) rfl rfl ?_
                  refine ev_bp f_X12_tray (nx := 61) (v := 60) rfl (by decide) rfl ?_
                  refine ev_loc f_X12_tray (nx := 62) rfl rfl rfl rfl ?_
                  refine ev_mulL f_X12_tray (nx := 63) (c := 60) (l := 0) (u := 180) rfl (by decide) (by decide) l4 u8 rfl rfl (by decide) (by decide) rfl (fun z30 e30 l30 u30 => ?_)
                  refine ev_loc f_X12_tray (nx := 65) rfl rfl rfl rfl ?_
                  refine ev_addR f_X12_tray (nx := 66) (l := 0) (u := 239) rfl l30 u30 l25_4 u28 rfl rfl (by decide) (by decide) rfl (fun z31 e31 l31 u31 => ?_)
                  refine ev_lc f_X12_tray (nx := 67) (v := 0) rfl (by decide) rfl ?_
                  refine ev_lastT f_X12_tray (nx := 68) rfl (hI.wf.s rfl) l31 (by decide) u31 (by decide) rfl (hX.upL (t_inA_ok rfl)) (fun g32 e32 hX => ?_)
                  refine ev_incR f_X12_tray (nx := 71) (c := 1) (l := 1) (u := 60) rfl rfl (by decide) (by decide) l25_4 u28 rfl rfl (by decide) (by decide) rfl (fun z33 e33 l33 u33 => ?_)
                  refine ev_jmp f_X12_tray (nx := 49) rfl rfl rfl ?_
                  refine ev_sub (lo := [(4, .int z33), (0, .ref 69), (1, .int ar1), (2, .int ar2), (3, .int ar3)]) rfl (t_sc rfl (t_sc rfl (t_sc rfl (t_sc rfl (t_sc rfl t_sn))))) ?_
                  exact ih25 _ (by omega) gi25 g32 gr25 (z33) hI hX  (Int.le_trans (by decide : (0:Int) ≤ 1) l33) u33 rfl
              refine ev_sub (lo := [(4, .int 0), (0, .ref 69), (1, .int ar1), (2, .int ar2), (3, .int ar3)]) rfl (t_sc rfl (t_sc rfl (t_sc rfl (t_sc rfl (t_sc rfl t_sn))))) ?_
              exact L25 _ g24 gl gr (0) hI hX  (by decide : (0:Int) ≤ (0:Int32).toInt) (Int.le_trans (by decide : (0:Int32).toInt ≤ (0:Int)) (by decide : (0:Int) ≤ 60)) rfl
            · have l34 : 61 ≤ ar3.toInt := t_ltl (t_nle h21) (by decide : (60:Int) ≤ (60:Int32).toInt) rfl
              refine ev_loc f_X12_tray (nx := 27) rfl rfl rfl rfl ?_
              refine ev_ic f_X12_tray (nx := 28) (v := 1) rfl (by decide) rfl ?_
              refine ev_inV2 f_X12_tray (nx := 31) (lo2 := [(0, .ref 69), (1, .int 1)]) rfl rfl rfl rfl f_X12_is (hI.wf.s rfl) rfl rfl rfl rfl rfl ?_
              refine ev_loc f_X12_is (nx := 1) rfl rfl rfl rfl ?_
              refine ev_loc f_X12_is (nx := 2) rfl rfl rfl rfl ?_
              refine ev_putIT f_X12_is (nx := 5) rfl (hI.wf.s rfl) rfl rfl rfl (hI.put0 (hI.wf.s rfl) rfl rfl) (hX.upI rfl) (fun g35 e35 hI hX => ?_)
              refine ev_loc f_X12_is (nx := 6) rfl rfl rfl rfl ?_
              refine ev_f f_X12_is (t1 := 9) (t2 := 13) rfl rfl rfl (by decide) ?_
              refine ev_ic f_X12_is (nx := 14) (v := 0) rfl (by decide) rfl ?_
              refine ev_retK1 f_X12_is rfl rfl rfl ?_
              exact ev_ret f_X12_tray rfl rfl rfl ⟨_, _, _, rfl, hI, hX, ⟨_, rfl, (by decide : (0:Int) ≤ (0:Int32).toInt), (Int.le_trans (by decide : (0:Int32).toInt ≤ (0:Int)) (by decide : (0:Int) ≤ 1))⟩⟩
noncomputable def wl_m_write : List (Nat × Nat) := [(69, 2), (74, 9999)]
theorem c_m_write {X : x_Ext} {d : Nat} {sh : List (Nat ⊕ (Nat × Nat))} {gi : Nat → Nat → Int32} {gl : Nat → Nat → Int64} {gr : Nat → Nat → Value} (hI : t_I sh gi gr) (ar1 : Int32) (ar2 : Int32) (ar3 : Int64) : x_Me X (d + 3) n_X12_write [.ref 69, .int ar1, .int ar2, .long ar3] (sh, gi, gl, gr) (t_P wl_m_write sh gi gl gr (t_Ri 0 1)) := by
  have hX : t_X wl_m_write sh gi gl gr gi gl gr := t_X.rf
  refine me_i f_X12_write (hI.wf.s rfl) rfl rfl rfl ?_
  refine ev_loc f_X12_write (nx := 1) rfl rfl rfl rfl ?_
  refine ev_loc f_X12_write (nx := 2) rfl rfl rfl rfl ?_
  refine ev_loc f_X12_write (nx := 3) rfl rfl rfl rfl ?_
  refine ev_inV3 f_X12_write (nx := 6) (lo2 := [(0, .ref 69), (1, .int ar1), (2, .int ar2)]) rfl rfl rfl rfl f_X12_wrongPlace (hI.wf.s rfl) rfl rfl rfl rfl rfl ?_
  refine ev_loc f_X12_wrongPlace (nx := 1) rfl rfl rfl rfl ?_
  refine ev_inS1 f_X12_wrongPlace (nx := 4) (lo2 := [(0, .int ar1)]) rfl rfl rfl rfl f_X12_isTray rfl rfl rfl rfl ?_
  refine ev_loc f_X12_isTray (nx := 1) rfl rfl rfl rfl ?_
  refine ev_if f_X12_isTray (t1 := 13) (t2 := 4) rfl rfl rfl (fun h1 => ?_) (fun h1 => ?_)
  · have u2 : ar1.toInt ≤ (-1) := t_ltu h1 (by decide : (0:Int32).toInt ≤ (0:Int)) rfl
    refine ev_ic f_X12_isTray (nx := 14) (v := 0) rfl (by decide) rfl ?_
    refine ev_retK1 f_X12_isTray rfl rfl rfl ?_
    refine ev_t f_X12_wrongPlace (t1 := 7) (t2 := 11) rfl rfl rfl (by decide) ?_
    refine ev_ic f_X12_wrongPlace (nx := 8) (v := 1) rfl (by decide) rfl ?_
    refine ev_jmp f_X12_wrongPlace (nx := 44) rfl rfl rfl ?_
    refine ev_retK1 f_X12_wrongPlace rfl rfl rfl ?_
    refine ev_loc f_X12_write (nx := 8) (lo' := [(5, .int 1), (0, .ref 69), (1, .int ar1), (2, .int ar2), (3, .long ar3)]) rfl rfl rfl rfl ?_
    refine ev_loc f_X12_write (nx := 10) rfl rfl rfl rfl ?_
    refine ev_f f_X12_write (t1 := 13) (t2 := 34) rfl rfl rfl (by decide) ?_
    refine ev_loc f_X12_write (nx := 35) rfl rfl rfl rfl ?_
    refine ev_loc f_X12_write (nx := 37) rfl rfl rfl rfl ?_
    refine ev_inV2 f_X12_write (nx := 40) (lo2 := [(0, .ref 69), (1, .int 1)]) rfl rfl rfl rfl f_X12_is (hI.wf.s rfl) rfl rfl rfl rfl rfl ?_
    refine ev_loc f_X12_is (nx := 1) rfl rfl rfl rfl ?_
    refine ev_loc f_X12_is (nx := 2) rfl rfl rfl rfl ?_
    refine ev_putIT f_X12_is (nx := 5) rfl (hI.wf.s rfl) rfl rfl rfl (hI.put0 (hI.wf.s rfl) rfl rfl) (hX.upI rfl) (fun g3 e3 hI hX => ?_)
    refine ev_loc f_X12_is (nx := 6) rfl rfl rfl rfl ?_
    refine ev_f f_X12_is (t1 := 9) (t2 := 13) rfl rfl rfl (by decide) ?_
    refine ev_ic f_X12_is (nx := 14) (v := 0) rfl (by decide) rfl ?_
    refine ev_retK1 f_X12_is rfl rfl rfl ?_
    exact ev_ret f_X12_write rfl rfl rfl ⟨_, _, _, rfl, hI, hX, ⟨_, rfl, (by decide : (0:Int) ≤ (0:Int32).toInt), (Int.le_trans (by decide : (0:Int32).toInt ≤ (0:Int)) (by decide : (0:Int) ≤ 1))⟩⟩
  · have l4 : 0 ≤ ar1.toInt := t_lel (t_nlt h1) (by decide : (0:Int) ≤ (0:Int32).toInt)
    refine ev_loc f_X12_isTray (nx := 5) rfl rfl rfl rfl ?_
    refine ev_ic f_X12_isTray (nx := 6) (v := 4) rfl (by decide) rfl ?_
    refine ev_if f_X12_isTray (t1 := 13) (t2 := 9) rfl rfl rfl (fun h5 => ?_) (fun h5 => ?_)
    · have l6 : 4 ≤ ar1.toInt := t_lel h5 (by decide : (4:Int) ≤ (4:Int32).toInt)
      refine ev_ic f_X12_isTray (nx := 14) (v := 0) rfl (by decide) rfl ?_
      refine ev_retK1 f_X12_isTray rfl rfl rfl ?_
      refine ev_t f_X12_wrongPlace (t1 := 7) (t2 := 11) rfl rfl rfl (by decide) ?_
      refine ev_ic f_X12_wrongPlace (nx := 8) (v := 1) rfl (by decide) rfl ?_
      refine ev_jmp f_X12_wrongPlace (nx := 44) rfl rfl rfl ?_
      refine ev_retK1 f_X12_wrongPlace rfl rfl rfl ?_
      refine ev_loc f_X12_write (nx := 8) (lo' := [(5, .int 1), (0, .ref 69), (1, .int ar1), (2, .int ar2), (3, .long ar3)]) rfl rfl rfl rfl ?_
      refine ev_loc f_X12_write (nx := 10) rfl rfl rfl rfl ?_
      refine ev_f f_X12_write (t1 := 13) (t2 := 34) rfl rfl rfl (by decide) ?_
      refine ev_loc f_X12_write (nx := 35) rfl rfl rfl rfl ?_
      refine ev_loc f_X12_write (nx := 37) rfl rfl rfl rfl ?_
      refine ev_inV2 f_X12_write (nx := 40) (lo2 := [(0, .ref 69), (1, .int 1)]) rfl rfl rfl rfl f_X12_is (hI.wf.s rfl) rfl rfl rfl rfl rfl ?_
      refine ev_loc f_X12_is (nx := 1) rfl rfl rfl rfl ?_
      refine ev_loc f_X12_is (nx := 2) rfl rfl rfl rfl ?_
      refine ev_putIT f_X12_is (nx := 5) rfl (hI.wf.s rfl) rfl rfl rfl (hI.put0 (hI.wf.s rfl) rfl rfl) (hX.upI rfl) (fun g7 e7 hI hX => ?_)
      refine ev_loc f_X12_is (nx := 6) rfl rfl rfl rfl ?_
      refine ev_f f_X12_is (t1 := 9) (t2 := 13) rfl rfl rfl (by decide) ?_
      refine ev_ic f_X12_is (nx := 14) (v := 0) rfl (by decide) rfl ?_
      refine ev_retK1 f_X12_is rfl rfl rfl ?_
      exact ev_ret f_X12_write rfl rfl rfl ⟨_, _, _, rfl, hI, hX, ⟨_, rfl, (by decide : (0:Int) ≤ (0:Int32).toInt), (Int.le_trans (by decide : (0:Int32).toInt ≤ (0:Int)) (by decide : (0:Int) ≤ 1))⟩⟩
    · have u8 : ar1.toInt ≤ 3 := t_ltu (t_nle h5) (by decide : (4:Int32).toInt ≤ (4:Int)) rfl
      refine ev_ic f_X12_isTray (nx := 10) (v := 1) rfl (by decide) rfl ?_
      refine ev_jmp f_X12_isTray (nx := 14) rfl rfl rfl ?_
      refine ev_retK1 f_X12_isTray rfl rfl rfl ?_
      refine ev_f f_X12_wrongPlace (t1 := 7) (t2 := 11) rfl rfl rfl (by decide) ?_
      refine ev_loc f_X12_wrongPlace (nx := 12) rfl rfl rfl rfl ?_
      refine ev_getR f_X12_wrongPlace (nx := 15) rfl (hI.wf.s rfl) rfl rfl (hI.wf.r rfl) rfl rfl ?_
      refine ev_loc f_X12_wrongPlace (nx := 16) rfl rfl rfl rfl ?_
      refine ev_ialdT f_X12_wrongPlace (nx := 17) rfl (hI.wf.s rfl) l4 (by decide) u8 (by decide) rfl (fun w9 e9 => ?_)
      obtain ⟨l9, u9⟩ := hI.abi e9 (by decide +kernel : t_abr 73 0 3 (-1) 60 = true) l4 (by decide) u8 (by decide)
      refine ev_ic f_X12_wrongPlace (nx := 18) (v := -1) rfl (by decide) rfl ?_
      refine ev_if f_X12_wrongPlace (t1 := 21) (t2 := 25) rfl rfl rfl (fun h10 => ?_) (fun h10 => ?_)
      · have u11 : w9.toInt ≤ (-1) := t_equ h10 (by decide : ((-1):Int32).toInt ≤ ((-1):Int))
        refine ev_ic f_X12_wrongPlace (nx := 22) (v := 2) rfl (by decide) rfl ?_
        refine ev_jmp f_X12_wrongPlace (nx := 44) rfl rfl rfl ?_
        refine ev_retK1 f_X12_wrongPlace rfl rfl rfl ?_
        refine ev_loc f_X12_write (nx := 8) (lo' := [(5, .int 2), (0, .ref 69), (1, .int ar1), (2, .int ar2), (3, .long ar3)]) rfl rfl rfl rfl ?_
        refine ev_loc f_X12_write (nx := 10) rfl rfl rfl rfl ?_
        refine ev_f f_X12_write (t1 := 13) (t2 := 34) rfl rfl rfl (by decide) ?_
        refine ev_loc f_X12_write (nx := 35) rfl rfl rfl rfl ?_
        refine ev_loc f_X12_write (nx := 37) rfl rfl rfl rfl ?_
        refine ev_inV2 f_X12_write (nx := 40) (lo2 := [(0, .ref 69), (1, .int 2)]) rfl rfl rfl rfl f_X12_is (hI.wf.s rfl) rfl rfl rfl rfl rfl ?_
        refine ev_loc f_X12_is (nx := 1) rfl rfl rfl rfl ?_
        refine ev_loc f_X12_is (nx := 2) rfl rfl rfl rfl ?_
        refine ev_putIT f_X12_is (nx := 5) rfl (hI.wf.s rfl) rfl rfl rfl (hI.put0 (hI.wf.s rfl) rfl rfl) (hX.upI rfl) (fun g12 e12 hI hX => ?_)
        refine ev_loc f_X12_is (nx := 6) rfl rfl rfl rfl ?_
        refine ev_f f_X12_is (t1 := 9) (t2 := 13) rfl rfl rfl (by decide) ?_
        refine ev_ic f_X12_is (nx := 14) (v := 0) rfl (by decide) rfl ?_
        refine ev_retK1 f_X12_is rfl rfl rfl ?_
        exact ev_ret f_X12_write rfl rfl rfl ⟨_, _, _, rfl, hI, hX, ⟨_, rfl, (by decide : (0:Int) ≤ (0:Int32).toInt), (Int.le_trans (by decide : (0:Int32).toInt ≤ (0:Int)) (by decide : (0:Int) ≤ 1))⟩⟩
      · have l13 : 0 ≤ w9.toInt := t_nel h10 l9 rfl rfl
        refine ev_loc f_X12_wrongPlace (nx := 26) rfl rfl rfl rfl ?_
        refine ev_if f_X12_wrongPlace (t1 := 39) (t2 := 29) rfl rfl rfl (fun h14 => ?_) (fun h14 => ?_)
        · have u15 : ar2.toInt ≤ (-1) := t_ltu h14 (by decide : (0:Int32).toInt ≤ (0:Int)) rfl
          refine ev_ic f_X12_wrongPlace (nx := 40) (v := 3) rfl (by decide) rfl ?_
          refine ev_jmp f_X12_wrongPlace (nx := 44) rfl rfl rfl ?_
          refine ev_retK1 f_X12_wrongPlace rfl rfl rfl ?_
          refine ev_loc f_X12_write (nx := 8) (lo' := [(5, .int 3), (0, .ref 69), (1, .int ar1), (2, .int ar2), (3, .long ar3)]) rfl rfl rfl rfl ?_
          refine ev_loc f_X12_write (nx := 10) rfl rfl rfl rfl ?_
          refine ev_f f_X12_write (t1 := 13) (t2 := 34) rfl rfl rfl (by decide) ?_
          refine ev_loc f_X12_write (nx := 35) rfl rfl rfl rfl ?_
          refine ev_loc f_X12_write (nx := 37) rfl rfl rfl rfl ?_
          refine ev_inV2 f_X12_write (nx := 40) (lo2 := [(0, .ref 69), (1, .int 3)]) rfl rfl rfl rfl f_X12_is (hI.wf.s rfl) rfl rfl rfl rfl rfl ?_
          refine ev_loc f_X12_is (nx := 1) rfl rfl rfl rfl ?_
          refine ev_loc f_X12_is (nx := 2) rfl rfl rfl rfl ?_
          refine ev_putIT f_X12_is (nx := 5) rfl (hI.wf.s rfl) rfl rfl rfl (hI.put0 (hI.wf.s rfl) rfl rfl) (hX.upI rfl) (fun g16 e16 hI hX => ?_)
          refine ev_loc f_X12_is (nx := 6) rfl rfl rfl rfl ?_
          refine ev_f f_X12_is (t1 := 9) (t2 := 13) rfl rfl rfl (by decide) ?_
          refine ev_ic f_X12_is (nx := 14) (v := 0) rfl (by decide) rfl ?_
          refine ev_retK1 f_X12_is rfl rfl rfl ?_
          exact ev_ret f_X12_write rfl rfl rfl ⟨_, _, _, rfl, hI, hX, ⟨_, rfl, (by decide : (0:Int) ≤ (0:Int32).toInt), (Int.le_trans (by decide : (0:Int32).toInt ≤ (0:Int)) (by decide : (0:Int) ≤ 1))⟩⟩
        · have l17 : 0 ≤ ar2.toInt := t_lel (t_nlt h14) (by decide : (0:Int) ≤ (0:Int32).toInt)
          refine ev_loc f_X12_wrongPlace (nx := 30) rfl rfl rfl rfl ?_
          refine ev_loc f_X12_wrongPlace (nx := 31) rfl rfl rfl rfl ?_
          refine ev_getR f_X12_wrongPlace (nx := 34) rfl (hI.wf.s rfl) rfl rfl (hI.wf.r rfl) rfl rfl ?_
          refine ev_loc f_X12_wrongPlace (nx := 35) rfl rfl rfl rfl ?_
          refine ev_ialdT f_X12_wrongPlace (nx := 36) rfl (hI.wf.s rfl) l4 (by decide) u8 (by decide) rfl (fun w18 e18 => ?_)
          obtain ⟨l18, u18⟩ := hI.abi e18 (by decide +kernel : t_abr 73 0 3 (-1) 60 = true) l4 (by decide) u8 (by decide)
          refine ev_if f_X12_wrongPlace (t1 := 43) (t2 := 39) rfl rfl rfl (fun h19 => ?_) (fun h19 => ?_)
          · have u20 : ar2.toInt ≤ 59 := t_ltu h19 u18 rfl
            have l21 : 1 ≤ w18.toInt := t_ltl h19 l17 rfl
            refine ev_ic f_X12_wrongPlace (nx := 44) (v := 0) rfl (by decide) rfl ?_
            refine ev_retK1 f_X12_wrongPlace rfl rfl rfl ?_
            refine ev_loc f_X12_write (nx := 8) (lo' := [(5, .int 0), (0, .ref 69), (1, .int ar1), (2, .int ar2), (3, .long ar3)]) rfl rfl rfl rfl ?_
            refine ev_loc f_X12_write (nx := 10) rfl rfl rfl rfl ?_
            refine ev_t f_X12_write (t1 := 13) (t2 := 34) rfl rfl rfl (by decide) ?_
            refine ev_loc f_X12_write (nx := 14) rfl rfl rfl rfl ?_
            refine ev_getR f_X12_write (nx := 17) rfl (hI.wf.s rfl) rfl rfl (hI.wf.r rfl) rfl rfl ?_
            refine ev_bp f_X12_write (nx := 19) (v := 60) rfl (by decide) rfl ?_
            refine ev_loc f_X12_write (nx := 20) rfl rfl rfl rfl ?_
            refine ev_mulL f_X12_write (nx := 21) (c := 60) (l := 0) (u := 180) rfl (by decide) (by decide) l4 u8 rfl rfl (by decide) (by decide) rfl (fun z22 e22 l22 u22 => ?_)
            refine ev_loc f_X12_write (nx := 22) rfl rfl rfl rfl ?_
            refine ev_addR f_X12_write (nx := 23) (l := 0) (u := 239) rfl l22 u22 l17 u20 rfl rfl (by decide) (by decide) rfl (fun z23 e23 l23 u23 => ?_)
            refine ev_loc f_X12_write (nx := 24) rfl rfl rfl rfl ?_
            refine ev_loc f_X12_write (nx := 25) rfl rfl rfl rfl ?_
            refine ev_getR f_X12_write (nx := 28) rfl (hI.wf.s rfl) rfl rfl (hI.wf.r rfl) rfl rfl ?_
            refine ev_loc f_X12_write (nx := 29) rfl rfl rfl rfl ?_
            refine ev_ialdT f_X12_write (nx := 30) rfl (hI.wf.s rfl) l4 (by decide) u8 (by decide) rfl (fun w24 e24 => ?_)
            obtain ⟨l24, u24⟩ := hI.abi e24 (by decide +kernel : t_abr 72 0 3 0 3 = true) l4 (by decide) u8 (by decide)
            refine ev_inS2 f_X12_write (nx := 33) (lo2 := [(0, .long ar3), (2, .int w24)]) rfl rfl rfl rfl f_X12_cut rfl rfl rfl rfl ?_
            refine ev_loc f_X12_cut (nx := 1) rfl rfl rfl rfl ?_
            refine ev_if f_X12_cut (t1 := 4) (t2 := 11) rfl rfl rfl (fun h25 => ?_) (fun h25 => ?_)
            · have u26 : w24.toInt ≤ 0 := t_equ h25 (by decide : (0:Int32).toInt ≤ (0:Int))
              refine ev_loc f_X12_cut (nx := 5) rfl rfl rfl rfl ?_
              refine ev_anyI f_X12_cut (nx := 6) rfl rfl rfl rfl (fun z27 => ?_)
              refine ev_anyI f_X12_cut (nx := 7) rfl rfl rfl rfl (fun z28 => ?_)
              refine ev_anyL f_X12_cut (nx := 8) rfl rfl rfl rfl (fun z29 => ?_)
              refine ev_jmp f_X12_cut (nx := 35) rfl rfl rfl ?_
              refine ev_retK1 f_X12_cut rfl rfl rfl ?_
              refine ev_lastT f_X12_write (nx := 34) rfl (hI.wf.s rfl) l23 (by decide) u23 (by decide) rfl (hX.upL (t_inA_ok rfl)) (fun g30 e30 hX => ?_)
              refine ev_loc f_X12_write (nx := 35) rfl rfl rfl rfl ?_
              refine ev_loc f_X12_write (nx := 37) rfl rfl rfl rfl ?_
              refine ev_inV2 f_X12_write (nx := 40) (lo2 := [(0, .ref 69), (1, .int 0)]) rfl rfl rfl rfl f_X12_is (hI.wf.s rfl) rfl rfl rfl rfl rfl ?_
              refine ev_loc f_X12_is (nx := 1) rfl rfl rfl rfl ?_
              refine ev_loc f_X12_is (nx := 2) rfl rfl rfl rfl ?_
              refine ev_putIT f_X12_is (nx := 5) rfl (hI.wf.s rfl) rfl rfl rfl (hI.put0 (hI.wf.s rfl) rfl rfl) (hX.upI rfl) (fun g31 e31 hI hX => ?_)
              refine ev_loc f_X12_is (nx := 6) rfl rfl rfl rfl ?_
              refine ev_t f_X12_is (t1 := 9) (t2 := 13) rfl rfl rfl (by decide) ?_
              refine ev_ic f_X12_is (nx := 10) (v := 1) rfl (by decide) rfl ?_
              refine ev_jmp f_X12_is (nx := 14) rfl rfl rfl ?_
              refine ev_retK1 f_X12_is rfl rfl rfl ?_
              exact ev_ret f_X12_write rfl rfl rfl ⟨_, _, _, rfl, hI, hX, ⟨_, rfl, (Int.le_trans (by decide : (0:Int) ≤ 1) (by decide : (1:Int) ≤ (1:Int32).toInt)), (by decide : (1:Int32).toInt ≤ (1:Int))⟩⟩
            · have l32 : 1 ≤ w24.toInt := t_nel h25 l24 rfl rfl
              refine ev_loc f_X12_cut (nx := 12) rfl rfl rfl rfl ?_
              refine ev_ic f_X12_cut (nx := 13) (v := 1) rfl (by decide) rfl ?_
              refine ev_if f_X12_cut (t1 := 16) (t2 := 23) rfl rfl rfl (fun h33 => ?_) (fun h33 => ?_)
              · have u34 : w24.toInt ≤ 1 := t_equ h33 (by decide : (1:Int32).toInt ≤ (1:Int))
                refine ev_loc f_X12_cut (nx := 17) rfl rfl rfl rfl ?_
                refine ev_anyI f_X12_cut (nx := 18) rfl rfl rfl rfl (fun z35 => ?_)
                refine ev_anyI f_X12_cut (nx := 19) rfl rfl rfl rfl (fun z36 => ?_)
                refine ev_anyL f_X12_cut (nx := 20) rfl rfl rfl rfl (fun z37 => ?_)
                refine ev_jmp f_X12_cut (nx := 35) rfl rfl rfl ?_
                refine ev_retK1 f_X12_cut rfl rfl rfl ?_
                refine ev_lastT f_X12_write (nx := 34) rfl (hI.wf.s rfl) l23 (by decide) u23 (by decide) rfl (hX.upL (t_inA_ok rfl)) (fun g38 e38 hX => ?_)
                refine ev_loc f_X12_write (nx := 35) rfl rfl rfl rfl ?_
                refine ev_loc f_X12_write (nx := 37) rfl rfl rfl rfl ?_
                refine ev_inV2 f_X12_write (nx := 40) (lo2 := [(0, .ref 69), (1, .int 0)]) rfl rfl rfl rfl f_X12_is (hI.wf.s rfl) rfl rfl rfl rfl rfl ?_
                refine ev_loc f_X12_is (nx := 1) rfl rfl rfl rfl ?_
                refine ev_loc f_X12_is (nx := 2) rfl rfl rfl rfl ?_
                refine ev_putIT f_X12_is (nx := 5) rfl (hI.wf.s rfl) rfl rfl rfl (hI.put0 (hI.wf.s rfl) rfl rfl) (hX.upI rfl) (fun g39 e39 hI hX => ?_)
                refine ev_loc f_X12_is (nx := 6) rfl rfl rfl rfl ?_
                refine ev_t f_X12_is (t1 := 9) (t2 := 13) rfl rfl rfl (by decide) ?_
                refine ev_ic f_X12_is (nx := 10) (v := 1) rfl (by decide) rfl ?_
                refine ev_jmp f_X12_is (nx := 14) rfl rfl rfl ?_
                refine ev_retK1 f_X12_is rfl rfl rfl ?_
                exact ev_ret f_X12_write rfl rfl rfl ⟨_, _, _, rfl, hI, hX, ⟨_, rfl, (Int.le_trans (by decide : (0:Int) ≤ 1) (by decide : (1:Int) ≤ (1:Int32).toInt)), (by decide : (1:Int32).toInt ≤ (1:Int))⟩⟩
              · have l40 : 2 ≤ w24.toInt := t_nel h33 l32 rfl rfl
                refine ev_loc f_X12_cut (nx := 24) rfl rfl rfl rfl ?_
                refine ev_ic f_X12_cut (nx := 25) (v := 2) rfl (by decide) rfl ?_
                refine ev_if f_X12_cut (t1 := 28) (t2 := 34) rfl rfl rfl (fun h41 => ?_) (fun h41 => ?_)
                · have u42 : w24.toInt ≤ 2 := t_equ h41 (by decide : (2:Int32).toInt ≤ (2:Int))
                  refine ev_loc f_X12_cut (nx := 29) rfl rfl rfl rfl ?_
                  refine ev_anyI f_X12_cut (nx := 30) rfl rfl rfl rfl (fun z43 => ?_)
                  refine ev_anyL f_X12_cut (nx := 31) rfl rfl rfl rfl (fun z44 => ?_)
                  refine ev_jmp f_X12_cut (nx := 35) rfl rfl rfl ?_
                  refine ev_retK1 f_X12_cut rfl rfl rfl ?_
                  refine ev_lastT f_X12_write (nx := 34) rfl (hI.wf.s rfl) l23 (by decide) u23 (by decide) rfl (hX.upL (t_inA_ok rfl)) (fun g45 e45 hX => ?_)
                  refine ev_loc f_X12_write (nx := 35) rfl rfl rfl rfl ?_
                  refine ev_loc f_X12_write (nx := 37) rfl rfl rfl rfl ?_
                  refine ev_inV2 f_X12_write (nx := 40) (lo2 := [(0, .ref 69), (1, .int 0)]) rfl rfl rfl rfl f_X12_is (hI.wf.s rfl) rfl rfl rfl rfl rfl ?_
                  refine ev_loc f_X12_is (nx := 1) rfl rfl rfl rfl ?_
                  refine ev_loc f_X12_is (nx := 2) rfl rfl rfl rfl ?_
                  refine ev_putIT f_X12_is (nx := 5) rfl (hI.wf.s rfl) rfl rfl rfl (hI.put0 (hI.wf.s rfl) rfl rfl) (hX.upI rfl) (fun g46 e46 hI hX => ?_)
                  refine ev_loc f_X12_is (nx := 6) rfl rfl rfl rfl ?_
                  refine ev_t f_X12_is (t1 := 9) (t2 := 13) rfl rfl rfl (by decide) ?_
                  refine ev_ic f_X12_is (nx := 10) (v := 1) rfl (by decide) rfl ?_
                  refine ev_jmp f_X12_is (nx := 14) rfl rfl rfl ?_
                  refine ev_retK1 f_X12_is rfl rfl rfl ?_
                  exact ev_ret f_X12_write rfl rfl rfl ⟨_, _, _, rfl, hI, hX, ⟨_, rfl, (Int.le_trans (by decide : (0:Int) ≤ 1) (by decide : (1:Int) ≤ (1:Int32).toInt)), (by decide : (1:Int32).toInt ≤ (1:Int))⟩⟩
                · have l47 : 3 ≤ w24.toInt := t_nel h41 l40 rfl rfl
                  refine ev_loc f_X12_cut (nx := 35) rfl rfl rfl rfl ?_
                  refine ev_retK1 f_X12_cut rfl rfl rfl ?_
                  refine ev_lastT f_X12_write (nx := 34) rfl (hI.wf.s rfl) l23 (by decide) u23 (by decide) rfl (hX.upL (t_inA_ok rfl)) (fun g48 e48 hX => ?_)
                  refine ev_loc f_X12_write (nx := 35) rfl rfl rfl rfl ?_
                  refine ev_loc f_X12_write (nx := 37) rfl rfl rfl rfl ?_
                  refine ev_inV2 f_X12_write (nx := 40) (lo2 := [(0, .ref 69), (1, .int 0)]) rfl rfl rfl rfl f_X12_is (hI.wf.s rfl) rfl rfl rfl rfl rfl ?_
                  refine ev_loc f_X12_is (nx := 1) rfl rfl rfl rfl ?_
                  refine ev_loc f_X12_is (nx := 2) rfl rfl rfl rfl ?_
                  refine ev_putIT f_X12_is (nx := 5) rfl (hI.wf.s rfl) rfl rfl rfl (hI.put0 (hI.wf.s rfl) rfl rfl) (hX.upI rfl) (fun g49 e49 hI hX => ?_)
                  refine ev_loc f_X12_is (nx := 6) rfl rfl rfl rfl ?_
                  refine ev_t f_X12_is (t1 := 9) (t2 := 13) rfl rfl rfl (by decide) ?_
                  refine ev_ic f_X12_is (nx := 10) (v := 1) rfl (by decide) rfl ?_
                  refine ev_jmp f_X12_is (nx := 14) rfl rfl rfl ?_
                  refine ev_retK1 f_X12_is rfl rfl rfl ?_
                  exact ev_ret f_X12_write rfl rfl rfl ⟨_, _, _, rfl, hI, hX, ⟨_, rfl, (Int.le_trans (by decide : (0:Int) ≤ 1) (by decide : (1:Int) ≤ (1:Int32).toInt)), (by decide : (1:Int32).toInt ≤ (1:Int))⟩⟩
          · refine ev_ic f_X12_wrongPlace (nx := 40) (v := 3) rfl (by decide) rfl ?_
            refine ev_jmp f_X12_wrongPlace (nx := 44) rfl rfl rfl ?_
            refine ev_retK1 f_X12_wrongPlace rfl rfl rfl ?_
            refine ev_loc f_X12_write (nx := 8) (lo' := [(5, .int 3), (0, .ref 69), (1, .int ar1), (2, .int ar2), (3, .long ar3)]) rfl rfl rfl rfl ?_
            refine ev_loc f_X12_write (nx := 10) rfl rfl rfl rfl ?_
            refine ev_f f_X12_write (t1 := 13) (t2 := 34) rfl rfl rfl (by decide) ?_
            refine ev_loc f_X12_write (nx := 35) rfl rfl rfl rfl ?_
            refine ev_loc f_X12_write (nx := 37) rfl rfl rfl rfl ?_
            refine ev_inV2 f_X12_write (nx := 40) (lo2 := [(0, .ref 69), (1, .int 3)]) rfl rfl rfl rfl f_X12_is (hI.wf.s rfl) rfl rfl rfl rfl rfl ?_
            refine ev_loc f_X12_is (nx := 1) rfl rfl rfl rfl ?_
            refine ev_loc f_X12_is (nx := 2) rfl rfl rfl rfl ?_
            refine ev_putIT f_X12_is (nx := 5) rfl (hI.wf.s rfl) rfl rfl rfl (hI.put0 (hI.wf.s rfl) rfl rfl) (hX.upI rfl) (fun g50 e50 hI hX => ?_)
            refine ev_loc f_X12_is (nx := 6) rfl rfl rfl rfl ?_
            refine ev_f f_X12_is (t1 := 9) (t2 := 13) rfl rfl rfl (by decide) ?_
            refine ev_ic f_X12_is (nx := 14) (v := 0) rfl (by decide) rfl ?_
            refine ev_retK1 f_X12_is rfl rfl rfl ?_
            exact ev_ret f_X12_write rfl rfl rfl ⟨_, _, _, rfl, hI, hX, ⟨_, rfl, (by decide : (0:Int) ≤ (0:Int32).toInt), (Int.le_trans (by decide : (0:Int32).toInt ≤ (0:Int)) (by decide : (0:Int) ≤ 1))⟩⟩
noncomputable def wl_m_read : List (Nat × Nat) := [(69, 2)]
theorem c_m_read {X : x_Ext} {d : Nat} {sh : List (Nat ⊕ (Nat × Nat))} {gi : Nat → Nat → Int32} {gl : Nat → Nat → Int64} {gr : Nat → Nat → Value} (hI : t_I sh gi gr) (ar1 : Int32) (ar2 : Int32) : x_Me X (d + 3) n_X12_read [.ref 69, .int ar1, .int ar2] (sh, gi, gl, gr) (t_P wl_m_read sh gi gl gr t_Rl) := by
  have hX : t_X wl_m_read sh gi gl gr gi gl gr := t_X.rf
  refine me_i f_X12_read (hI.wf.s rfl) rfl rfl rfl ?_
  refine ev_loc f_X12_read (nx := 1) rfl rfl rfl rfl ?_
  refine ev_loc f_X12_read (nx := 2) rfl rfl rfl rfl ?_
  refine ev_loc f_X12_read (nx := 3) rfl rfl rfl rfl ?_
  refine ev_loc f_X12_read (nx := 4) rfl rfl rfl rfl ?_
  refine ev_inV3 f_X12_read (nx := 7) (lo2 := [(0, .ref 69), (1, .int ar1), (2, .int ar2)]) rfl rfl rfl rfl f_X12_wrongPlace (hI.wf.s rfl) rfl rfl rfl rfl rfl ?_
  refine ev_loc f_X12_wrongPlace (nx := 1) rfl rfl rfl rfl ?_
  refine ev_inS1 f_X12_wrongPlace (nx := 4) (lo2 := [(0, .int ar1)]) rfl rfl rfl rfl f_X12_isTray rfl rfl rfl rfl ?_
  refine ev_loc f_X12_isTray (nx := 1) rfl rfl rfl rfl ?_
  refine ev_if f_X12_isTray (t1 := 13) (t2 := 4) rfl rfl rfl (fun h1 => ?_) (fun h1 => ?_)
  · have u2 : ar1.toInt ≤ (-1) := t_ltu h1 (by decide : (0:Int32).toInt ≤ (0:Int)) rfl
    refine ev_ic f_X12_isTray (nx := 14) (v := 0) rfl (by decide) rfl ?_
    refine ev_retK1 f_X12_isTray rfl rfl rfl ?_
    refine ev_t f_X12_wrongPlace (t1 := 7) (t2 := 11) rfl rfl rfl (by decide) ?_
    refine ev_ic f_X12_wrongPlace (nx := 8) (v := 1) rfl (by decide) rfl ?_
    refine ev_jmp f_X12_wrongPlace (nx := 44) rfl rfl rfl ?_
    refine ev_retK1 f_X12_wrongPlace rfl rfl rfl ?_
    refine ev_putIT f_X12_read (nx := 10) rfl (hI.wf.s rfl) rfl rfl rfl (hI.put0 (hI.wf.s rfl) rfl rfl) (hX.upI rfl) (fun g3 e3 hI hX => ?_)
    refine ev_loc f_X12_read (nx := 11) rfl rfl rfl rfl ?_
    refine ev_gvI f_X12_read (nx := 14) (w := 1) rfl (hI.wf.s rfl) rfl rfl (by rw [e3]; exact x_up2_at _ _ _ _ : g3 69 2 = 1) rfl ?_
    refine ev_f f_X12_read (t1 := 23) (t2 := 17) rfl rfl rfl (by decide) ?_
    refine ev_ldL f_X12_read (nx := 20) (v := -1) rfl (by decide) rfl ?_
    refine ev_jmp f_X12_read (nx := 34) rfl rfl rfl ?_
    exact ev_ret f_X12_read rfl rfl rfl ⟨_, _, _, rfl, hI, hX, ⟨_, rfl⟩⟩
  · have l4 : 0 ≤ ar1.toInt := t_lel (t_nlt h1) (by decide : (0:Int) ≤ (0:Int32).toInt)
    refine ev_loc f_X12_isTray (nx := 5) rfl rfl rfl rfl ?_
    refine ev_ic f_X12_isTray (nx := 6) (v := 4) rfl (by decide) rfl ?_
    refine ev_if f_X12_isTray (t1 := 13) (t2 := 9) rfl rfl rfl (fun h5 => ?_) (fun h5 => ?_)
    · have l6 : 4 ≤ ar1.toInt := t_lel h5 (by decide : (4:Int) ≤ (4:Int32).toInt)
      refine ev_ic f_X12_isTray (nx := 14) (v := 0) rfl (by decide) rfl ?_
      refine ev_retK1 f_X12_isTray rfl rfl rfl ?_
      refine ev_t f_X12_wrongPlace (t1 := 7) (t2 := 11) rfl rfl rfl (by decide) ?_
      refine ev_ic f_X12_wrongPlace (nx := 8) (v := 1) rfl (by decide) rfl ?_
      refine ev_jmp f_X12_wrongPlace (nx := 44) rfl rfl rfl ?_
      refine ev_retK1 f_X12_wrongPlace rfl rfl rfl ?_
      refine ev_putIT f_X12_read (nx := 10) rfl (hI.wf.s rfl) rfl rfl rfl (hI.put0 (hI.wf.s rfl) rfl rfl) (hX.upI rfl) (fun g7 e7 hI hX => ?_)
      refine ev_loc f_X12_read (nx := 11) rfl rfl rfl rfl ?_
      refine ev_gvI f_X12_read (nx := 14) (w := 1) rfl (hI.wf.s rfl) rfl rfl (by rw [e7]; exact x_up2_at _ _ _ _ : g7 69 2 = 1) rfl ?_
      refine ev_f f_X12_read (t1 := 23) (t2 := 17) rfl rfl rfl (by decide) ?_
      refine ev_ldL f_X12_read (nx := 20) (v := -1) rfl (by decide) rfl ?_
      refine ev_jmp f_X12_read (nx := 34) rfl rfl rfl ?_
      exact ev_ret f_X12_read rfl rfl rfl ⟨_, _, _, rfl, hI, hX, ⟨_, rfl⟩⟩
    · have u8 : ar1.toInt ≤ 3 := t_ltu (t_nle h5) (by decide : (4:Int32).toInt ≤ (4:Int)) rfl
      refine ev_ic f_X12_isTray (nx := 10) (v := 1) rfl (by decide) rfl ?_
      refine ev_jmp f_X12_isTray (nx := 14) rfl rfl rfl ?_
      refine ev_retK1 f_X12_isTray rfl rfl rfl ?_
      refine ev_f f_X12_wrongPlace (t1 := 7) (t2 := 11) rfl rfl rfl (by decide) ?_
      refine ev_loc f_X12_wrongPlace (nx := 12) rfl rfl rfl rfl ?_
      refine ev_getR f_X12_wrongPlace (nx := 15) rfl (hI.wf.s rfl) rfl rfl (hI.wf.r rfl) rfl rfl ?_
      refine ev_loc f_X12_wrongPlace (nx := 16) rfl rfl rfl rfl ?_
      refine ev_ialdT f_X12_wrongPlace (nx := 17) rfl (hI.wf.s rfl) l4 (by decide) u8 (by decide) rfl (fun w9 e9 => ?_)
      obtain ⟨l9, u9⟩ := hI.abi e9 (by decide +kernel : t_abr 73 0 3 (-1) 60 = true) l4 (by decide) u8 (by decide)
      refine ev_ic f_X12_wrongPlace (nx := 18) (v := -1) rfl (by decide) rfl ?_
      refine ev_if f_X12_wrongPlace (t1 := 21) (t2 := 25) rfl rfl rfl (fun h10 => ?_) (fun h10 => ?_)
      · have u11 : w9.toInt ≤ (-1) := t_equ h10 (by decide : ((-1):Int32).toInt ≤ ((-1):Int))
        refine ev_ic f_X12_wrongPlace (nx := 22) (v := 2) rfl (by decide) rfl ?_
        refine ev_jmp f_X12_wrongPlace (nx := 44) rfl rfl rfl ?_
        refine ev_retK1 f_X12_wrongPlace rfl rfl rfl ?_
        refine ev_putIT f_X12_read (nx := 10) rfl (hI.wf.s rfl) rfl rfl rfl (hI.put0 (hI.wf.s rfl) rfl rfl) (hX.upI rfl) (fun g12 e12 hI hX => ?_)
        refine ev_loc f_X12_read (nx := 11) rfl rfl rfl rfl ?_
        refine ev_gvI f_X12_read (nx := 14) (w := 2) rfl (hI.wf.s rfl) rfl rfl (by rw [e12]; exact x_up2_at _ _ _ _ : g12 69 2 = 2) rfl ?_
        refine ev_f f_X12_read (t1 := 23) (t2 := 17) rfl rfl rfl (by decide) ?_
        refine ev_ldL f_X12_read (nx := 20) (v := -1) rfl (by decide) rfl ?_
        refine ev_jmp f_X12_read (nx := 34) rfl rfl rfl ?_
        exact ev_ret f_X12_read rfl rfl rfl ⟨_, _, _, rfl, hI, hX, ⟨_, rfl⟩⟩
      · have l13 : 0 ≤ w9.toInt := t_nel h10 l9 rfl rfl
        refine ev_loc f_X12_wrongPlace (nx := 26) rfl rfl rfl rfl ?_
        refine ev_if f_X12_wrongPlace (t1 := 39) (t2 := 29) rfl rfl rfl (fun h14 => ?_) (fun h14 => ?_)
        · have u15 : ar2.toInt ≤ (-1) := t_ltu h14 (by decide : (0:Int32).toInt ≤ (0:Int)) rfl
          refine ev_ic f_X12_wrongPlace (nx := 40) (v := 3) rfl (by decide) rfl ?_
          refine ev_jmp f_X12_wrongPlace (nx := 44) rfl rfl rfl ?_
          refine ev_retK1 f_X12_wrongPlace rfl rfl rfl ?_
          refine ev_putIT f_X12_read (nx := 10) rfl (hI.wf.s rfl) rfl rfl rfl (hI.put0 (hI.wf.s rfl) rfl rfl) (hX.upI rfl) (fun g16 e16 hI hX => ?_)
          refine ev_loc f_X12_read (nx := 11) rfl rfl rfl rfl ?_
          refine ev_gvI f_X12_read (nx := 14) (w := 3) rfl (hI.wf.s rfl) rfl rfl (by rw [e16]; exact x_up2_at _ _ _ _ : g16 69 2 = 3) rfl ?_
          refine ev_f f_X12_read (t1 := 23) (t2 := 17) rfl rfl rfl (by decide) ?_
          refine ev_ldL f_X12_read (nx := 20) (v := -1) rfl (by decide) rfl ?_
          refine ev_jmp f_X12_read (nx := 34) rfl rfl rfl ?_
          exact ev_ret f_X12_read rfl rfl rfl ⟨_, _, _, rfl, hI, hX, ⟨_, rfl⟩⟩
        · have l17 : 0 ≤ ar2.toInt := t_lel (t_nlt h14) (by decide : (0:Int) ≤ (0:Int32).toInt)
          refine ev_loc f_X12_wrongPlace (nx := 30) rfl rfl rfl rfl ?_
          refine ev_loc f_X12_wrongPlace (nx := 31) rfl rfl rfl rfl ?_
          refine ev_getR f_X12_wrongPlace (nx := 34) rfl (hI.wf.s rfl) rfl rfl (hI.wf.r rfl) rfl rfl ?_
          refine ev_loc f_X12_wrongPlace (nx := 35) rfl rfl rfl rfl ?_
          refine ev_ialdT f_X12_wrongPlace (nx := 36) rfl (hI.wf.s rfl) l4 (by decide) u8 (by decide) rfl (fun w18 e18 => ?_)
          obtain ⟨l18, u18⟩ := hI.abi e18 (by decide +kernel : t_abr 73 0 3 (-1) 60 = true) l4 (by decide) u8 (by decide)
          refine ev_if f_X12_wrongPlace (t1 := 43) (t2 := 39) rfl rfl rfl (fun h19 => ?_) (fun h19 => ?_)
          · have u20 : ar2.toInt ≤ 59 := t_ltu h19 u18 rfl
            have l21 : 1 ≤ w18.toInt := t_ltl h19 l17 rfl
            refine ev_ic f_X12_wrongPlace (nx := 44) (v := 0) rfl (by decide) rfl ?_
            refine ev_retK1 f_X12_wrongPlace rfl rfl rfl ?_
            refine ev_putIT f_X12_read (nx := 10) rfl (hI.wf.s rfl) rfl rfl rfl (hI.put0 (hI.wf.s rfl) rfl rfl) (hX.upI rfl) (fun g22 e22 hI hX => ?_)
            refine ev_loc f_X12_read (nx := 11) rfl rfl rfl rfl ?_
            refine ev_gvI f_X12_read (nx := 14) (w := 0) rfl (hI.wf.s rfl) rfl rfl (by rw [e22]; exact x_up2_at _ _ _ _ : g22 69 2 = 0) rfl ?_
            refine ev_t f_X12_read (t1 := 23) (t2 := 17) rfl rfl rfl (by decide) ?_
            refine ev_loc f_X12_read (nx := 24) rfl rfl rfl rfl ?_
            refine ev_getR f_X12_read (nx := 27) rfl (hI.wf.s rfl) rfl rfl (hI.wf.r rfl) rfl rfl ?_
            refine ev_bp f_X12_read (nx := 29) (v := 60) rfl (by decide) rfl ?_
            refine ev_loc f_X12_read (nx := 30) rfl rfl rfl rfl ?_
            refine ev_mulL f_X12_read (nx := 31) (c := 60) (l := 0) (u := 180) rfl (by decide) (by decide) l4 u8 rfl rfl (by decide) (by decide) rfl (fun z23 e23 l23 u23 => ?_)
            refine ev_loc f_X12_read (nx := 32) rfl rfl rfl rfl ?_
            refine ev_addR f_X12_read (nx := 33) (l := 0) (u := 239) rfl l23 u23 l17 u20 rfl rfl (by decide) (by decide) rfl (fun z24 e24 l24 u24 => ?_)
            refine ev_laldT f_X12_read (nx := 34) rfl (hI.wf.s rfl) l24 (by decide) u24 (by decide) rfl (fun w25 e25 => ?_)
            exact ev_ret f_X12_read rfl rfl rfl ⟨_, _, _, rfl, hI, hX, ⟨_, rfl⟩⟩
          · refine ev_ic f_X12_wrongPlace (nx := 40) (v := 3) rfl (by decide) rfl ?_
            refine ev_jmp f_X12_wrongPlace (nx := 44) rfl rfl rfl ?_
            refine ev_retK1 f_X12_wrongPlace rfl rfl rfl ?_
            refine ev_putIT f_X12_read (nx := 10) rfl (hI.wf.s rfl) rfl rfl rfl (hI.put0 (hI.wf.s rfl) rfl rfl) (hX.upI rfl) (fun g26 e26 hI hX => ?_)
            refine ev_loc f_X12_read (nx := 11) rfl rfl rfl rfl ?_
            refine ev_gvI f_X12_read (nx := 14) (w := 3) rfl (hI.wf.s rfl) rfl rfl (by rw [e26]; exact x_up2_at _ _ _ _ : g26 69 2 = 3) rfl ?_
            refine ev_f f_X12_read (t1 := 23) (t2 := 17) rfl rfl rfl (by decide) ?_
            refine ev_ldL f_X12_read (nx := 20) (v := -1) rfl (by decide) rfl ?_
            refine ev_jmp f_X12_read (nx := 34) rfl rfl rfl ?_
            exact ev_ret f_X12_read rfl rfl rfl ⟨_, _, _, rfl, hI, hX, ⟨_, rfl⟩⟩
noncomputable def wl_m_pour : List (Nat × Nat) := [(69, 2), (74, 9999)]
theorem c_m_pour {X : x_Ext} {d : Nat} {sh : List (Nat ⊕ (Nat × Nat))} {gi : Nat → Nat → Int32} {gl : Nat → Nat → Int64} {gr : Nat → Nat → Value} (hI : t_I sh gi gr) (ar1 : Int32) (ar2 : Int32) (ar3 : Int32) (ar4 : Int32) (ar5 : Int32) : x_Me X (d + 2) n_X12_pour [.ref 69, .int ar1, .int ar2, .int ar3, .int ar4, .int ar5] (sh, gi, gl, gr) (t_P wl_m_pour sh gi gl gr (t_Ri 0 1)) := by
  have hX : t_X wl_m_pour sh gi gl gr gi gl gr := t_X.rf
  refine me_i f_X12_pour (hI.wf.s rfl) rfl rfl rfl ?_
  refine ev_loc f_X12_pour (nx := 1) rfl rfl rfl rfl ?_
  refine ev_inS1 f_X12_pour (nx := 4) (lo2 := [(0, .int ar1)]) rfl rfl rfl rfl f_X12_isTray rfl rfl rfl rfl ?_
  refine ev_loc f_X12_isTray (nx := 1) rfl rfl rfl rfl ?_
  refine ev_if f_X12_isTray (t1 := 13) (t2 := 4) rfl rfl rfl (fun h1 => ?_) (fun h1 => ?_)
  · have u2 : ar1.toInt ≤ (-1) := t_ltu h1 (by decide : (0:Int32).toInt ≤ (0:Int)) rfl
    refine ev_ic f_X12_isTray (nx := 14) (v := 0) rfl (by decide) rfl ?_
    refine ev_retK1 f_X12_isTray rfl rfl rfl ?_
    refine ev_t f_X12_pour (t1 := 28) (t2 := 7) rfl rfl rfl (by decide) ?_
    refine ev_loc f_X12_pour (nx := 29) rfl rfl rfl rfl ?_
    refine ev_ic f_X12_pour (nx := 30) (v := 1) rfl (by decide) rfl ?_
    refine ev_inV2 f_X12_pour (nx := 33) (lo2 := [(0, .ref 69), (1, .int 1)]) rfl rfl rfl rfl f_X12_is (hI.wf.s rfl) rfl rfl rfl rfl rfl ?_
    refine ev_loc f_X12_is (nx := 1) rfl rfl rfl rfl ?_
    refine ev_loc f_X12_is (nx := 2) rfl rfl rfl rfl ?_
    refine ev_putIT f_X12_is (nx := 5) rfl (hI.wf.s rfl) rfl rfl rfl (hI.put0 (hI.wf.s rfl) rfl rfl) (hX.upI rfl) (fun g3 e3 hI hX => ?_)
    refine ev_loc f_X12_is (nx := 6) rfl rfl rfl rfl ?_
    refine ev_f f_X12_is (t1 := 9) (t2 := 13) rfl rfl rfl (by decide) ?_
    refine ev_ic f_X12_is (nx := 14) (v := 0) rfl (by decide) rfl ?_
    refine ev_retK1 f_X12_is rfl rfl rfl ?_
    exact ev_ret f_X12_pour rfl rfl rfl ⟨_, _, _, rfl, hI, hX, ⟨_, rfl, (by decide : (0:Int) ≤ (0:Int32).toInt), (Int.le_trans (by decide : (0:Int32).toInt ≤ (0:Int)) (by decide : (0:Int) ≤ 1))⟩⟩
  · have l4 : 0 ≤ ar1.toInt := t_lel (t_nlt h1) (by decide : (0:Int) ≤ (0:Int32).toInt)
    refine ev_loc f_X12_isTray (nx := 5) rfl rfl rfl rfl ?_
    refine ev_ic f_X12_isTray (nx := 6) (v := 4) rfl (by decide) rfl ?_
    refine ev_if f_X12_isTray (t1 := 13) (t2 := 9) rfl rfl rfl (fun h5 => ?_) (fun h5 => ?_)
    · have l6 : 4 ≤ ar1.toInt := t_lel h5 (by decide : (4:Int) ≤ (4:Int32).toInt)
      refine ev_ic f_X12_isTray (nx := 14) (v := 0) rfl (by decide) rfl ?_
      refine ev_retK1 f_X12_isTray rfl rfl rfl ?_
      refine ev_t f_X12_pour (t1 := 28) (t2 := 7) rfl rfl rfl (by decide) ?_
      refine ev_loc f_X12_pour (nx := 29) rfl rfl rfl rfl ?_
      refine ev_ic f_X12_pour (nx := 30) (v := 1) rfl (by decide) rfl ?_
      refine ev_inV2 f_X12_pour (nx := 33) (lo2 := [(0, .ref 69), (1, .int 1)]) rfl rfl rfl rfl f_X12_is (hI.wf.s rfl) rfl rfl rfl rfl rfl ?_
      refine ev_loc f_X12_is (nx := 1) rfl rfl rfl rfl ?_
      refine ev_loc f_X12_is (nx := 2) rfl rfl rfl rfl ?_
      refine ev_putIT f_X12_is (nx := 5) rfl (hI.wf.s rfl) rfl rfl rfl (hI.put0 (hI.wf.s rfl) rfl rfl) (hX.upI rfl) (fun g7 e7 hI hX => ?_)
      refine ev_loc f_X12_is (nx := 6) rfl rfl rfl rfl ?_
      refine ev_f f_X12_is (t1 := 9) (t2 := 13) rfl rfl rfl (by decide) ?_
      refine ev_ic f_X12_is (nx := 14) (v := 0) rfl (by decide) rfl ?_
      refine ev_retK1 f_X12_is rfl rfl rfl ?_
      exact ev_ret f_X12_pour rfl rfl rfl ⟨_, _, _, rfl, hI, hX, ⟨_, rfl, (by decide : (0:Int) ≤ (0:Int32).toInt), (Int.le_trans (by decide : (0:Int32).toInt ≤ (0:Int)) (by decide : (0:Int) ≤ 1))⟩⟩
    · have u8 : ar1.toInt ≤ 3 := t_ltu (t_nle h5) (by decide : (4:Int32).toInt ≤ (4:Int)) rfl
      refine ev_ic f_X12_isTray (nx := 10) (v := 1) rfl (by decide) rfl ?_
      refine ev_jmp f_X12_isTray (nx := 14) rfl rfl rfl ?_
      refine ev_retK1 f_X12_isTray rfl rfl rfl ?_
      refine ev_f f_X12_pour (t1 := 28) (t2 := 7) rfl rfl rfl (by decide) ?_
      refine ev_loc f_X12_pour (nx := 8) rfl rfl rfl rfl ?_
      refine ev_inS1 f_X12_pour (nx := 11) (lo2 := [(0, .int ar3)]) rfl rfl rfl rfl f_X12_isTray rfl rfl rfl rfl ?_
      refine ev_loc f_X12_isTray (nx := 1) rfl rfl rfl rfl ?_
      refine ev_if f_X12_isTray (t1 := 13) (t2 := 4) rfl rfl rfl (fun h9 => ?_) (fun h9 => ?_)
      · have u10 : ar3.toInt ≤ (-1) := t_ltu h9 (by decide : (0:Int32).toInt ≤ (0:Int)) rfl
        refine ev_ic f_X12_isTray (nx := 14) (v := 0) rfl (by decide) rfl ?_
        refine ev_retK1 f_X12_isTray rfl rfl rfl ?_
        refine ev_t f_X12_pour (t1 := 28) (t2 := 14) rfl rfl rfl (by decide) ?_
        refine ev_loc f_X12_pour (nx := 29) rfl rfl rfl rfl ?_
        refine ev_ic f_X12_pour (nx := 30) (v := 1) rfl (by decide) rfl ?_
        refine ev_inV2 f_X12_pour (nx := 33) (lo2 := [(0, .ref 69), (1, .int 1)]) rfl rfl rfl rfl f_X12_is (hI.wf.s rfl) rfl rfl rfl rfl rfl ?_
        refine ev_loc f_X12_is (nx := 1) rfl rfl rfl rfl ?_
        refine ev_loc f_X12_is (nx := 2) rfl rfl rfl rfl ?_
        refine ev_putIT f_X12_is (nx := 5) rfl (hI.wf.s rfl) rfl rfl rfl (hI.put0 (hI.wf.s rfl) rfl rfl) (hX.upI rfl) (fun g11 e11 hI hX => ?_)
        refine ev_loc f_X12_is (nx := 6) rfl rfl rfl rfl ?_
        refine ev_f f_X12_is (t1 := 9) (t2 := 13) rfl rfl rfl (by decide) ?_
        refine ev_ic f_X12_is (nx := 14) (v := 0) rfl (by decide) rfl ?_
        refine ev_retK1 f_X12_is rfl rfl rfl ?_
        exact ev_ret f_X12_pour rfl rfl rfl ⟨_, _, _, rfl, hI, hX, ⟨_, rfl, (by decide : (0:Int) ≤ (0:Int32).toInt), (Int.le_trans (by decide : (0:Int32).toInt ≤ (0:Int)) (by decide : (0:Int) ≤ 1))⟩⟩
      · have l12 : 0 ≤ ar3.toInt := t_lel (t_nlt h9) (by decide : (0:Int) ≤ (0:Int32).toInt)
        refine ev_loc f_X12_isTray (nx := 5) rfl rfl rfl rfl ?_
        refine ev_ic f_X12_isTray (nx := 6) (v := 4) rfl (by decide) rfl ?_
        refine ev_if f_X12_isTray (t1 := 13) (t2 := 9) rfl rfl rfl (fun h13 => ?_) (fun h13 => ?_)
        · have l14 : 4 ≤ ar3.toInt := t_lel h13 (by decide : (4:Int) ≤ (4:Int32).toInt)
          refine ev_ic f_X12_isTray (nx := 14) (v := 0) rfl (by decide) rfl ?_
          refine ev_retK1 f_X12_isTray rfl rfl rfl ?_
          refine ev_t f_X12_pour (t1 := 28) (t2 := 14) rfl rfl rfl (by decide) ?_
          refine ev_loc f_X12_pour (nx := 29) rfl rfl rfl rfl ?_
          refine ev_ic f_X12_pour (nx := 30) (v := 1) rfl (by decide) rfl ?_
          refine ev_inV2 f_X12_pour (nx := 33) (lo2 := [(0, .ref 69), (1, .int 1)]) rfl rfl rfl rfl f_X12_is (hI.wf.s rfl) rfl rfl rfl rfl rfl ?_
          refine ev_loc f_X12_is (nx := 1) rfl rfl rfl rfl ?_
          refine ev_loc f_X12_is (nx := 2) rfl rfl rfl rfl ?_
          refine ev_putIT f_X12_is (nx := 5) rfl (hI.wf.s rfl) rfl rfl rfl (hI.put0 (hI.wf.s rfl) rfl rfl) (hX.upI rfl) (fun g15 e15 hI hX => ?_)
          refine ev_loc f_X12_is (nx := 6) rfl rfl rfl rfl ?_
          refine ev_f f_X12_is (t1 := 9) (t2 := 13) rfl rfl rfl (by decide) ?_
          refine ev_ic f_X12_is (nx := 14) (v := 0) rfl (by decide) rfl ?_
          refine ev_retK1 f_X12_is rfl rfl rfl ?_
          exact ev_ret f_X12_pour rfl rfl rfl ⟨_, _, _, rfl, hI, hX, ⟨_, rfl, (by decide : (0:Int) ≤ (0:Int32).toInt), (Int.le_trans (by decide : (0:Int32).toInt ≤ (0:Int)) (by decide : (0:Int) ≤ 1))⟩⟩
        · have u16 : ar3.toInt ≤ 3 := t_ltu (t_nle h13) (by decide : (4:Int32).toInt ≤ (4:Int)) rfl
          refine ev_ic f_X12_isTray (nx := 10) (v := 1) rfl (by decide) rfl ?_
          refine ev_jmp f_X12_isTray (nx := 14) rfl rfl rfl ?_
          refine ev_retK1 f_X12_isTray rfl rfl rfl ?_
          refine ev_f f_X12_pour (t1 := 28) (t2 := 14) rfl rfl rfl (by decide) ?_
          refine ev_loc f_X12_pour (nx := 15) rfl rfl rfl rfl ?_
          refine ev_if f_X12_pour (t1 := 28) (t2 := 18) rfl rfl rfl (fun h17 => ?_) (fun h17 => ?_)
          · have u18 : ar2.toInt ≤ (-1) := t_ltu h17 (by decide : (0:Int32).toInt ≤ (0:Int)) rfl
            refine ev_loc f_X12_pour (nx := 29) rfl rfl rfl rfl ?_
            refine ev_ic f_X12_pour (nx := 30) (v := 1) rfl (by decide) rfl ?_
            refine ev_inV2 f_X12_pour (nx := 33) (lo2 := [(0, .ref 69), (1, .int 1)]) rfl rfl rfl rfl f_X12_is (hI.wf.s rfl) rfl rfl rfl rfl rfl ?_
            refine ev_loc f_X12_is (nx := 1) rfl rfl rfl rfl ?_
            refine ev_loc f_X12_is (nx := 2) rfl rfl rfl rfl ?_
            refine ev_putIT f_X12_is (nx := 5) rfl (hI.wf.s rfl) rfl rfl rfl (hI.put0 (hI.wf.s rfl) rfl rfl) (hX.upI rfl) (fun g19 e19 hI hX => ?_)
            refine ev_loc f_X12_is (nx := 6) rfl rfl rfl rfl ?_
            refine ev_f f_X12_is (t1 := 9) (t2 := 13) rfl rfl rfl (by decide) ?_
            refine ev_ic f_X12_is (nx := 14) (v := 0) rfl (by decide) rfl ?_
            refine ev_retK1 f_X12_is rfl rfl rfl ?_
            exact ev_ret f_X12_pour rfl rfl rfl ⟨_, _, _, rfl, hI, hX, ⟨_, rfl, (by decide : (0:Int) ≤ (0:Int32).toInt), (Int.le_trans (by decide : (0:Int32).toInt ≤ (0:Int)) (by decide : (0:Int) ≤ 1))⟩⟩
          · have l20 : 0 ≤ ar2.toInt := t_lel (t_nlt h17) (by decide : (0:Int) ≤ (0:Int32).toInt)
            refine ev_loc f_X12_pour (nx := 20) rfl rfl rfl rfl ?_
            refine ev_if f_X12_pour (t1 := 28) (t2 := 23) rfl rfl rfl (fun h21 => ?_) (fun h21 => ?_)
            · have u22 : ar4.toInt ≤ (-1) := t_ltu h21 (by decide : (0:Int32).toInt ≤ (0:Int)) rfl
              refine ev_loc f_X12_pour (nx := 29) rfl rfl rfl rfl ?_
              refine ev_ic f_X12_pour (nx := 30) (v := 1) rfl (by decide) rfl ?_
              refine ev_inV2 f_X12_pour (nx := 33) (lo2 := [(0, .ref 69), (1, .int 1)]) rfl rfl rfl rfl f_X12_is (hI.wf.s rfl) rfl rfl rfl rfl rfl ?_
              refine ev_loc f_X12_is (nx := 1) rfl rfl rfl rfl ?_
              refine ev_loc f_X12_is (nx := 2) rfl rfl rfl rfl ?_
              refine ev_putIT f_X12_is (nx := 5) rfl (hI.wf.s rfl) rfl rfl rfl (hI.put0 (hI.wf.s rfl) rfl rfl) (hX.upI rfl) (fun g23 e23 hI hX => ?_)
              refine ev_loc f_X12_is (nx := 6) rfl rfl rfl rfl ?_
              refine ev_f f_X12_is (t1 := 9) (t2 := 13) rfl rfl rfl (by decide) ?_
              refine ev_ic f_X12_is (nx := 14) (v := 0) rfl (by decide) rfl ?_
              refine ev_retK1 f_X12_is rfl rfl rfl ?_
              exact ev_ret f_X12_pour rfl rfl rfl ⟨_, _, _, rfl, hI, hX, ⟨_, rfl, (by decide : (0:Int) ≤ (0:Int32).toInt), (Int.le_trans (by decide : (0:Int32).toInt ≤ (0:Int)) (by decide : (0:Int) ≤ 1))⟩⟩
            · have l24 : 0 ≤ ar4.toInt := t_lel (t_nlt h21) (by decide : (0:Int) ≤ (0:Int32).toInt)
              refine ev_loc f_X12_pour (nx := 25) rfl rfl rfl rfl ?_
              refine ev_if f_X12_pour (t1 := 34) (t2 := 28) rfl rfl rfl (fun h25 => ?_) (fun h25 => ?_)
              · have l26 : 0 ≤ ar5.toInt := t_lel h25 (by decide : (0:Int) ≤ (0:Int32).toInt)
                refine ev_loc f_X12_pour (nx := 35) rfl rfl rfl rfl ?_
                refine ev_getR f_X12_pour (nx := 38) rfl (hI.wf.s rfl) rfl rfl (hI.wf.r rfl) rfl rfl ?_
                refine ev_loc f_X12_pour (nx := 39) rfl rfl rfl rfl ?_
                refine ev_ialdT f_X12_pour (nx := 40) rfl (hI.wf.s rfl) l4 (by decide) u8 (by decide) rfl (fun w27 e27 => ?_)
                obtain ⟨l27, u27⟩ := hI.abi e27 (by decide +kernel : t_abr 73 0 3 (-1) 60 = true) l4 (by decide) u8 (by decide)
                refine ev_ic f_X12_pour (nx := 41) (v := -1) rfl (by decide) rfl ?_
                refine ev_if f_X12_pour (t1 := 54) (t2 := 44) rfl rfl rfl (fun h28 => ?_) (fun h28 => ?_)
                · have u29 : w27.toInt ≤ (-1) := t_equ h28 (by decide : ((-1):Int32).toInt ≤ ((-1):Int))
                  refine ev_loc f_X12_pour (nx := 55) rfl rfl rfl rfl ?_
                  refine ev_ic f_X12_pour (nx := 56) (v := 2) rfl (by decide) rfl ?_
                  refine ev_inV2 f_X12_pour (nx := 59) (lo2 := [(0, .ref 69), (1, .int 2)]) rfl rfl rfl rfl f_X12_is (hI.wf.s rfl) rfl rfl rfl rfl rfl ?_
                  refine ev_loc f_X12_is (nx := 1) rfl rfl rfl rfl ?_
                  refine ev_loc f_X12_is (nx := 2) rfl rfl rfl rfl ?_
                  refine ev_putIT f_X12_is (nx := 5) rfl (hI.wf.s rfl) rfl rfl rfl (hI.put0 (hI.wf.s rfl) rfl rfl) (hX.upI rfl) (fun g30 e30 hI hX => ?_)
                  refine ev_loc f_X12_is (nx := 6) rfl rfl rfl rfl ?_
                  refine ev_f f_X12_is (t1 := 9) (t2 := 13) rfl rfl rfl (by decide) ?_
                  refine ev_ic f_X12_is (nx := 14) (v := 0) rfl (by decide) rfl ?_
                  refine ev_retK1 f_X12_is rfl rfl rfl ?_
                  exact ev_ret f_X12_pour rfl rfl rfl ⟨_, _, _, rfl, hI, hX, ⟨_, rfl, (by decide : (0:Int) ≤ (0:Int32).toInt), (Int.le_trans (by decide : (0:Int32).toInt ≤ (0:Int)) (by decide : (0:Int) ≤ 1))⟩⟩
                · have r31 : w27.toInt ≠ (-1) := fun e => h28 (Int32.toInt_inj.mp (e.trans (by decide : ((-1):Int) = ((-1) : Int32).toInt)))
                  have l32 : 0 ≤ w27.toInt := t_nel h28 l27 rfl rfl
                  refine ev_loc f_X12_pour (nx := 45) rfl rfl rfl rfl ?_
                  refine ev_getR f_X12_pour (nx := 48) rfl (hI.wf.s rfl) rfl rfl (hI.wf.r rfl) rfl rfl ?_
                  refine ev_loc f_X12_pour (nx := 49) rfl rfl rfl rfl ?_
                  refine ev_ialdT f_X12_pour (nx := 50) rfl (hI.wf.s rfl) l12 (by decide) u16 (by decide) rfl (fun w33 e33 => ?_)
                  obtain ⟨l33, u33⟩ := hI.abi e33 (by decide +kernel : t_abr 73 0 3 (-1) 60 = true) l12 (by decide) u16 (by decide)
                  refine ev_ic f_X12_pour (nx := 51) (v := -1) rfl (by decide) rfl ?_
                  refine ev_if f_X12_pour (t1 := 54) (t2 := 60) rfl rfl rfl (fun h34 => ?_) (fun h34 => ?_)
                  · have u35 : w33.toInt ≤ (-1) := t_equ h34 (by decide : ((-1):Int32).toInt ≤ ((-1):Int))
                    refine ev_loc f_X12_pour (nx := 55) rfl rfl rfl rfl ?_
                    refine ev_ic f_X12_pour (nx := 56) (v := 2) rfl (by decide) rfl ?_
                    refine ev_inV2 f_X12_pour (nx := 59) (lo2 := [(0, .ref 69), (1, .int 2)]) rfl rfl rfl rfl f_X12_is (hI.wf.s rfl) rfl rfl rfl rfl rfl ?_
                    refine ev_loc f_X12_is (nx := 1) rfl rfl rfl rfl ?_
                    refine ev_loc f_X12_is (nx := 2) rfl rfl rfl rfl ?_
                    refine ev_putIT f_X12_is (nx := 5) rfl (hI.wf.s rfl) rfl rfl rfl (hI.put0 (hI.wf.s rfl) rfl rfl) (hX.upI rfl) (fun g36 e36 hI hX => ?_)
                    refine ev_loc f_X12_is (nx := 6) rfl rfl rfl rfl ?_
                    refine ev_f f_X12_is (t1 := 9) (t2 := 13) rfl rfl rfl (by decide) ?_
                    refine ev_ic f_X12_is (nx := 14) (v := 0) rfl (by decide) rfl ?_
                    refine ev_retK1 f_X12_is rfl rfl rfl ?_
                    exact ev_ret f_X12_pour rfl rfl rfl ⟨_, _, _, rfl, hI, hX, ⟨_, rfl, (by decide : (0:Int) ≤ (0:Int32).toInt), (Int.le_trans (by decide : (0:Int32).toInt ≤ (0:Int)) (by decide : (0:Int) ≤ 1))⟩⟩
                  · have r37 : w33.toInt ≠ (-1) := fun e => h34 (Int32.toInt_inj.mp (e.trans (by decide : ((-1):Int) = ((-1) : Int32).toInt)))
                    have l38 : 0 ≤ w33.toInt := t_nel h34 l33 rfl rfl
                    refine ev_loc f_X12_pour (nx := 61) rfl rfl rfl rfl ?_
                    refine ev_getR f_X12_pour (nx := 64) rfl (hI.wf.s rfl) rfl rfl (hI.wf.r rfl) rfl rfl ?_
                    refine ev_loc f_X12_pour (nx := 65) rfl rfl rfl rfl ?_
                    refine ev_ialdT f_X12_pour (nx := 66) rfl (hI.wf.s rfl) l4 (by decide) u8 (by decide) rfl (fun w39 e39 => ?_)
                    obtain ⟨l39, u39⟩ := hI.abi e39 (by decide +kernel : t_abr 72 0 3 0 3 = true) l4 (by decide) u8 (by decide)
                    refine ev_loc f_X12_pour (nx := 67) rfl rfl rfl rfl ?_
                    refine ev_getR f_X12_pour (nx := 70) rfl (hI.wf.s rfl) rfl rfl (hI.wf.r rfl) rfl rfl ?_
                    refine ev_loc f_X12_pour (nx := 71) rfl rfl rfl rfl ?_
                    refine ev_ialdT f_X12_pour (nx := 72) rfl (hI.wf.s rfl) l12 (by decide) u16 (by decide) rfl (fun w40 e40 => ?_)
                    obtain ⟨l40, u40⟩ := hI.abi e40 (by decide +kernel : t_abr 72 0 3 0 3 = true) l12 (by decide) u16 (by decide)
                    refine ev_if f_X12_pour (t1 := 82) (t2 := 75) rfl rfl rfl (fun h41 => ?_) (fun h41 => ?_)
                    · have r42 : w39.toInt = w40.toInt := t_eqi h41
                      refine ev_loc f_X12_pour (nx := 84) rfl rfl rfl rfl ?_
                      refine ev_loc f_X12_pour (nx := 85) rfl rfl rfl rfl ?_
                      refine ev_getR f_X12_pour (nx := 88) rfl (hI.wf.s rfl) rfl rfl (hI.wf.r rfl) rfl rfl ?_
                      refine ev_loc f_X12_pour (nx := 89) rfl rfl rfl rfl ?_
                      refine ev_ialdT f_X12_pour (nx := 90) rfl (hI.wf.s rfl) l4 (by decide) u8 (by decide) rfl (fun w43 e43 => ?_)
                      rw [e43.trans e27.symm]
                      refine ev_loc f_X12_pour (nx := 91) rfl rfl rfl rfl ?_
                      refine ev_subR f_X12_pour (nx := 92) (l := (-2147483647)) (u := 60) rfl l32 u27 l20 (t_hi ar2) rfl rfl (by decide) (by decide) rfl (fun z44 e44 l44 u44 => ?_)
                      refine ev_if f_X12_pour (t1 := 109) (t2 := 95) rfl rfl rfl (fun h45 => ?_) (fun h45 => ?_)
                      · have r46 : z44.toInt < ar5.toInt := Int32.lt_iff_toInt_lt.mp h45
                        refine ev_loc f_X12_pour (nx := 110) rfl rfl rfl rfl ?_
                        refine ev_ic f_X12_pour (nx := 111) (v := 3) rfl (by decide) rfl ?_
                        refine ev_inV2 f_X12_pour (nx := 114) (lo2 := [(0, .ref 69), (1, .int 3)]) rfl rfl rfl rfl f_X12_is (hI.wf.s rfl) rfl rfl rfl rfl rfl ?_
                        refine ev_loc f_X12_is (nx := 1) rfl rfl rfl rfl ?_
                        refine ev_loc f_X12_is (nx := 2) rfl rfl rfl rfl ?_
                        refine ev_putIT f_X12_is (nx := 5) rfl (hI.wf.s rfl) rfl rfl rfl (hI.put0 (hI.wf.s rfl) rfl rfl) (hX.upI rfl) (fun g47 e47 hI hX => ?_)
                        refine ev_loc f_X12_is (nx := 6) rfl rfl rfl rfl ?_
                        refine ev_f f_X12_is (t1 := 9) (t2 := 13) rfl rfl rfl (by decide) ?_
                        refine ev_ic f_X12_is (nx := 14) (v := 0) rfl (by decide) rfl ?_
                        refine ev_retK1 f_X12_is rfl rfl rfl ?_
                        exact ev_ret f_X12_pour rfl rfl rfl ⟨_, _, _, rfl, hI, hX, ⟨_, rfl, (by decide : (0:Int) ≤ (0:Int32).toInt), (Int.le_trans (by decide : (0:Int32).toInt ≤ (0:Int)) (by decide : (0:Int) ≤ 1))⟩⟩
                      · have r48 : ar5.toInt ≤ z44.toInt := Int32.le_iff_toInt_le.mp (t_nlt h45)
                        have u49 : ar5.toInt ≤ 60 := t_leu (t_nlt h45) u44
                        have l50 : 0 ≤ z44.toInt := t_lel (t_nlt h45) l26
                        have u51 : ar2.toInt ≤ 60 := by have := u27; omega
                        refine ev_loc f_X12_pour (nx := 97) rfl rfl rfl rfl ?_
                        refine ev_loc f_X12_pour (nx := 98) rfl rfl rfl rfl ?_
                        refine ev_getR f_X12_pour (nx := 101) rfl (hI.wf.s rfl) rfl rfl (hI.wf.r rfl) rfl rfl ?_
                        refine ev_loc f_X12_pour (nx := 102) rfl rfl rfl rfl ?_
                        refine ev_ialdT f_X12_pour (nx := 103) rfl (hI.wf.s rfl) l12 (by decide) u16 (by decide) rfl (fun w52 e52 => ?_)
                        rw [e52.trans e33.symm]
                        refine ev_loc f_X12_pour (nx := 105) rfl rfl rfl rfl ?_
                        refine ev_subR f_X12_pour (nx := 106) (l := (-2147483647)) (u := 60) rfl l38 u33 l24 (t_hi ar4) rfl rfl (by decide) (by decide) rfl (fun z53 e53 l53 u53 => ?_)
                        refine ev_if f_X12_pour (t1 := 115) (t2 := 109) rfl rfl rfl (fun h54 => ?_) (fun h54 => ?_)
                        · have r55 : ar5.toInt ≤ z53.toInt := Int32.le_iff_toInt_le.mp h54
                          have l56 : 0 ≤ z53.toInt := t_lel h54 l26
                          have u57 : ar4.toInt ≤ 60 := by have := u33; omega
                          refine ev_ic f_X12_pour (nx := 116) (v := 0) rfl (by decide) rfl ?_
                          refine ev_loc f_X12_pour (nx := 118) (lo' := [(6, .int 0), (0, .ref 69), (1, .int ar1), (2, .int ar2), (3, .int ar3), (4, .int ar4), (5, .int ar5)]) rfl rfl rfl rfl ?_
                          have L58 : ∀ (m58 : Nat) (gi58 : Nat → Nat → Int32) (gl58 : Nat → Nat → Int64) (gr58 : Nat → Nat → Value) (y58_6 : Int32), t_I sh gi58 gr58 → t_X wl_m_pour sh gi gl gr gi58 gl58 gr58 → 0 ≤ y58_6.toInt → y58_6.toInt ≤ 60 → gi58 72 ar1.toNatClampNeg = w39 → gi58 72 ar3.toNatClampNeg = w40 → gi58 73 ar1.toNatClampNeg = w27 → gi58 73 ar3.toNatClampNeg = w33 → (60 - y58_6.toInt).toNat = m58 → x_Ev X (d + 2) n_X12_pour 118 [(6, .int y58_6), (0, .ref 69), (1, .int ar1), (2, .int ar2), (3, .int ar3), (4, .int ar4), (5, .int ar5)] [] (sh, gi58, gl58, gr58) (t_P wl_m_pour sh gi gl gr (t_Ri 0 1)) := by
                            intro m58
                            induction m58 using Nat.strongRecOn with
                            | _ m58 ih58 =>
                            intro gi58 gl58 gr58 y58_6 hI hX l58_6 u58_6 c58_0 c58_1 c58_2 c58_3 hm58
                            refine ev_loc f_X12_pour (nx := 120) rfl rfl rfl rfl ?_
                            refine ev_loc f_X12_pour (nx := 122) rfl rfl rfl rfl ?_
                            refine ev_if f_X12_pour (t1 := 180) (t2 := 125) rfl rfl rfl (fun h59 => ?_) (fun h59 => ?_)
                            · have r60 : ar5.toInt ≤ y58_6.toInt := Int32.le_iff_toInt_le.mp h59
                              refine ev_loc f_X12_pour (nx := 181) rfl rfl rfl rfl ?_
                              refine ev_ic f_X12_pour (nx := 182) (v := 0) rfl (by decide) rfl ?_
                              refine ev_inV2 f_X12_pour (nx := 185) (lo2 := [(0, .ref 69), (1, .int 0)]) rfl rfl rfl rfl f_X12_is (hI.wf.s rfl) rfl rfl rfl rfl rfl ?_
                              refine ev_loc f_X12_is (nx := 1) rfl rfl rfl rfl ?_
                              refine ev_loc f_X12_is (nx := 2) rfl rfl rfl rfl ?_
                              refine ev_putIT f_X12_is (nx := 5) rfl (hI.wf.s rfl) rfl rfl rfl (hI.put0 (hI.wf.s rfl) rfl rfl) (hX.upI rfl) (fun g61 e61 hI hX => ?_)
                              refine ev_loc f_X12_is (nx := 6) rfl rfl rfl rfl ?_
                              refine ev_t f_X12_is (t1 := 9) (t2 := 13) rfl rfl rfl (by decide) ?_
                              refine ev_ic f_X12_is (nx := 10) (v := 1) rfl (by decide) rfl ?_
                              refine ev_jmp f_X12_is (nx := 14) rfl rfl rfl ?_
                              refine ev_retK1 f_X12_is rfl rfl rfl ?_
                              exact ev_ret f_X12_pour rfl rfl rfl ⟨_, _, _, rfl, hI, hX, ⟨_, rfl, (Int.le_trans (by decide : (0:Int) ≤ 1) (by decide : (1:Int) ≤ (1:Int32).toInt)), (by decide : (1:Int32).toInt ≤ (1:Int))⟩⟩
                            · have r62 : y58_6.toInt < ar5.toInt := Int32.lt_iff_toInt_lt.mp (t_nle h59)
                              have u63 : y58_6.toInt ≤ 59 := t_ltu (t_nle h59) u49 rfl
                              have l64 : 1 ≤ ar5.toInt := t_ltl (t_nle h59) l58_6 rfl
                              refine ev_loc f_X12_pour (nx := 126) rfl rfl rfl rfl ?_
                              refine ev_loc f_X12_pour (nx := 128) rfl rfl rfl rfl ?_
                              refine ev_if f_X12_pour (t1 := 141) (t2 := 131) rfl rfl rfl (fun h65 => ?_) (fun h65 => ?_)
                              · have r66 : ar4.toInt ≤ ar2.toInt := Int32.le_iff_toInt_le.mp h65
                                refine ev_loc f_X12_pour (nx := 143) rfl rfl rfl rfl ?_
                                refine ev_loc f_X12_pour (nx := 145) (lo' := [(7, .int y58_6), (6, .int y58_6), (0, .ref 69), (1, .int ar1), (2, .int ar2), (3, .int ar3), (4, .int ar4), (5, .int ar5)]) rfl rfl rfl rfl ?_
                                refine ev_loc f_X12_pour (nx := 146) rfl rfl rfl rfl ?_
                                refine ev_getR f_X12_pour (nx := 149) rfl (hI.wf.s rfl) rfl rfl (hI.wf.r rfl) rfl rfl ?_
                                refine ev_bp f_X12_pour (nx := 151) (v := 60) rfl (by decide) rfl ?_
                                refine ev_loc f_X12_pour (nx := 152) rfl rfl rfl rfl ?_
                                refine ev_mulL f_X12_pour (nx := 153) (c := 60) (l := 0) (u := 180) rfl (by decide) (by decide) l12 u16 rfl rfl (by decide) (by decide) rfl (fun z67 e67 l67 u67 => ?_)
                                refine ev_loc f_X12_pour (nx := 155) rfl rfl rfl rfl ?_
                                refine ev_addR f_X12_pour (nx := 156) (l := 0) (u := 240) rfl l67 u67 l24 u57 rfl rfl (by decide) (by decide) rfl (fun z68 e68 l68 u68 => ?_)
                                refine ev_loc f_X12_pour (nx := 158) rfl rfl rfl rfl ?_
                                refine ev_addR f_X12_pour (nx := 159) (l := 0) (u := 299) rfl l68 u68 l58_6 u63 rfl rfl (by decide) (by decide) rfl (fun z69 e69 l69 u69 => ?_)
                                refine ev_loc f_X12_pour (nx := 160) rfl rfl rfl rfl ?_
                                refine ev_getR f_X12_pour (nx := 163) rfl (hI.wf.s rfl) rfl rfl (hI.wf.r rfl) rfl rfl ?_
                                refine ev_bp f_X12_pour (nx := 165) (v := 60) rfl (by decide) rfl ?_
                                refine ev_loc f_X12_pour (nx := 166) rfl rfl rfl rfl ?_
                                refine ev_mulL f_X12_pour (nx := 167) (c := 60) (l := 0) (u := 180) rfl (by decide) (by decide) l4 u8 rfl rfl (by decide) (by decide) rfl (fun z70 e70 l70 u70 => ?_)
                                refine ev_loc f_X12_pour (nx := 168) rfl rfl rfl rfl ?_
                                refine ev_addR f_X12_pour (nx := 169) (l := 0) (u := 240) rfl l70 u70 l20 u51 rfl rfl (by decide) (by decide) rfl (fun z71 e71 l71 u71 => ?_)
                                refine ev_loc f_X12_pour (nx := 171) rfl rfl rfl rfl ?_
                                refine ev_addR f_X12_pour (nx := 172) (l := 0) (u := 299) rfl l71 u71 l58_6 u63 rfl rfl (by decide) (by decide) rfl (fun z72 e72 l72 u72 => ?_)
                                have u74 : z72.toInt ≤ (239:Int) := (by omega)
                                refine ev_laldT f_X12_pour (nx := 173) rfl (hI.wf.s rfl) l72 (by decide) u74 (by decide) rfl (fun w73 e73 => ?_)
                                have u76 : z69.toInt ≤ (239:Int) := (by omega)
                                refine ev_lastT f_X12_pour (nx := 174) rfl (hI.wf.s rfl) l69 (by decide) u76 (by decide) rfl (hX.upL (t_inA_ok rfl)) (fun g75 e75 hX => ?_)
                                refine ev_incR f_X12_pour (nx := 177) (c := 1) (l := 1) (u := 60) rfl rfl (by decide) (by decide) l58_6 u63 rfl rfl (by decide) (by decide) rfl (fun z77 e77 l77 u77 => ?_)
                                refine ev_jmp f_X12_pour (nx := 118) rfl rfl rfl ?_
                                refine ev_sub (lo := [(6, .int z77), (0, .ref 69), (1, .int ar1), (2, .int ar2), (3, .int ar3), (4, .int ar4), (5, .int ar5)]) rfl (t_sc rfl (t_sc rfl (t_sc rfl (t_sc rfl (t_sc rfl (t_sc rfl (t_sc rfl t_sn))))))) ?_
                                exact ih58 _ (by omega) gi58 g75 gr58 (z77) hI hX  (Int.le_trans (by decide : (0:Int) ≤ 1) l77) u77 c58_0 c58_1 c58_2 c58_3 rfl
                              · have r78 : ar2.toInt < ar4.toInt := Int32.lt_iff_toInt_lt.mp (t_nle h65)
                                have u79 : ar2.toInt ≤ 59 := t_ltu (t_nle h65) u57 rfl
                                have l80 : 1 ≤ ar4.toInt := t_ltl (t_nle h65) l20 rfl
                                refine ev_loc f_X12_pour (nx := 133) rfl rfl rfl rfl ?_
                                refine ev_ic f_X12_pour (nx := 134) (v := 1) rfl (by decide) rfl ?_
                                refine ev_subC f_X12_pour (nx := 135) (c := 1) (l := 0) (u := 59) rfl (by decide) l64 u49 rfl rfl (by decide) (by decide) rfl (fun z81 e81 l81 u81 => ?_)
                                refine ev_loc f_X12_pour (nx := 137) rfl rfl rfl rfl ?_
                                refine ev_subR f_X12_pour (nx := 138) (l := (-59)) (u := 59) rfl l81 u81 l58_6 u63 rfl rfl (by decide) (by decide) rfl (fun z82 e82 l82 u82 => ?_)
                                refine ev_jmp f_X12_pour (nx := 143) rfl rfl rfl ?_
                                refine ev_loc f_X12_pour (nx := 145) (lo' := [(7, .int z82), (6, .int y58_6), (0, .ref 69), (1, .int ar1), (2, .int ar2), (3, .int ar3), (4, .int ar4), (5, .int ar5)]) rfl rfl rfl rfl ?_
                                refine ev_loc f_X12_pour (nx := 146) rfl rfl rfl rfl ?_
                                refine ev_getR f_X12_pour (nx := 149) rfl (hI.wf.s rfl) rfl rfl (hI.wf.r rfl) rfl rfl ?_
                                refine ev_bp f_X12_pour (nx := 151) (v := 60) rfl (by decide) rfl ?_
                                refine ev_loc f_X12_pour (nx := 152) rfl rfl rfl rfl ?_
                                refine ev_mulL f_X12_pour (nx := 153) (c := 60) (l := 0) (u := 180) rfl (by decide) (by decide) l12 u16 rfl rfl (by decide) (by decide) rfl (fun z83 e83 l83 u83 => ?_)
                                refine ev_loc f_X12_pour (nx := 155) rfl rfl rfl rfl ?_
                                refine ev_addR f_X12_pour (nx := 156) (l := 1) (u := 240) rfl l83 u83 l80 u57 rfl rfl (by decide) (by decide) rfl (fun z84 e84 l84 u84 => ?_)
                                refine ev_loc f_X12_pour (nx := 158) rfl rfl rfl rfl ?_
                                refine ev_addR f_X12_pour (nx := 159) (l := (-58)) (u := 299) rfl l84 u84 l82 u82 rfl rfl (by decide) (by decide) rfl (fun z85 e85 l85 u85 => ?_)
                                refine ev_loc f_X12_pour (nx := 160) rfl rfl rfl rfl ?_
                                refine ev_getR f_X12_pour (nx := 163) rfl (hI.wf.s rfl) rfl rfl (hI.wf.r rfl) rfl rfl ?_
                                refine ev_bp f_X12_pour (nx := 165) (v := 60) rfl (by decide) rfl ?_
                                refine ev_loc f_X12_pour (nx := 166) rfl rfl rfl rfl ?_
                                refine ev_mulL f_X12_pour (nx := 167) (c := 60) (l := 0) (u := 180) rfl (by decide) (by decide) l4 u8 rfl rfl (by decide) (by decide) rfl (fun z86 e86 l86 u86 => ?_)
                                refine ev_loc f_X12_pour (nx := 168) rfl rfl rfl rfl ?_
                                refine ev_addR f_X12_pour (nx := 169) (l := 0) (u := 239) rfl l86 u86 l20 u79 rfl rfl (by decide) (by decide) rfl (fun z87 e87 l87 u87 => ?_)
                                refine ev_loc f_X12_pour (nx := 171) rfl rfl rfl rfl ?_
                                refine ev_addR f_X12_pour (nx := 172) (l := (-59)) (u := 298) rfl l87 u87 l82 u82 rfl rfl (by decide) (by decide) rfl (fun z88 e88 l88 u88 => ?_)
                                have l90 : (0:Int) ≤ z88.toInt := (by omega)
                                have u90 : z88.toInt ≤ (239:Int) := (by omega)
                                refine ev_laldT f_X12_pour (nx := 173) rfl (hI.wf.s rfl) l90 (by decide) u90 (by decide) rfl (fun w89 e89 => ?_)
                                have l92 : (0:Int) ≤ z85.toInt := (by omega)
                                have u92 : z85.toInt ≤ (239:Int) := (by omega)
                                refine ev_lastT f_X12_pour (nx := 174) rfl (hI.wf.s rfl) l92 (by decide) u92 (by decide) rfl (hX.upL (t_inA_ok rfl)) (fun g91 e91 hX => ?_)
                                refine ev_incR f_X12_pour (nx := 177) (c := 1) (l := 1) (u := 60) rfl rfl (by decide) (by decide) l58_6 u63 rfl rfl (by decide) (by decide) rfl (fun z93 e93 l93 u93 => ?_)
                                refine ev_jmp f_X12_pour (nx := 118) rfl rfl rfl ?_
                                refine ev_sub (lo := [(6, .int z93), (0, .ref 69), (1, .int ar1), (2, .int ar2), (3, .int ar3), (4, .int ar4), (5, .int ar5)]) rfl (t_sc rfl (t_sc rfl (t_sc rfl (t_sc rfl (t_sc rfl (t_sc rfl (t_sc rfl t_sn))))))) ?_
                                exact ih58 _ (by omega) gi58 g91 gr58 (z93) hI hX  (Int.le_trans (by decide : (0:Int) ≤ 1) l93) u93 c58_0 c58_1 c58_2 c58_3 rfl
                          refine ev_sub (lo := [(6, .int 0), (0, .ref 69), (1, .int ar1), (2, .int ar2), (3, .int ar3), (4, .int ar4), (5, .int ar5)]) rfl (t_sc rfl (t_sc rfl (t_sc rfl (t_sc rfl (t_sc rfl (t_sc rfl (t_sc rfl t_sn))))))) ?_
                          exact L58 _ gi gl gr (0) hI hX  (by decide : (0:Int) ≤ (0:Int32).toInt) (Int.le_trans (by decide : (0:Int32).toInt ≤ (0:Int)) (by decide : (0:Int) ≤ 60)) e39.symm e40.symm e27.symm e33.symm rfl
                        · have r94 : z53.toInt < ar5.toInt := Int32.lt_iff_toInt_lt.mp (t_nle h54)
                          have u95 : z53.toInt ≤ 59 := t_ltu (t_nle h54) u49 rfl
                          refine ev_loc f_X12_pour (nx := 110) rfl rfl rfl rfl ?_
                          refine ev_ic f_X12_pour (nx := 111) (v := 3) rfl (by decide) rfl ?_
                          refine ev_inV2 f_X12_pour (nx := 114) (lo2 := [(0, .ref 69), (1, .int 3)]) rfl rfl rfl rfl f_X12_is (hI.wf.s rfl) rfl rfl rfl rfl rfl ?_
                          refine ev_loc f_X12_is (nx := 1) rfl rfl rfl rfl ?_
                          refine ev_loc f_X12_is (nx := 2) rfl rfl rfl rfl ?_
                          refine ev_putIT f_X12_is (nx := 5) rfl (hI.wf.s rfl) rfl rfl rfl (hI.put0 (hI.wf.s rfl) rfl rfl) (hX.upI rfl) (fun g96 e96 hI hX => ?_)
                          refine ev_loc f_X12_is (nx := 6) rfl rfl rfl rfl ?_
                          refine ev_f f_X12_is (t1 := 9) (t2 := 13) rfl rfl rfl (by decide) ?_
                          refine ev_ic f_X12_is (nx := 14) (v := 0) rfl (by decide) rfl ?_
                          refine ev_retK1 f_X12_is rfl rfl rfl ?_
                          exact ev_ret f_X12_pour rfl rfl rfl ⟨_, _, _, rfl, hI, hX, ⟨_, rfl, (by decide : (0:Int) ≤ (0:Int32).toInt), (Int.le_trans (by decide : (0:Int32).toInt ≤ (0:Int)) (by decide : (0:Int) ≤ 1))⟩⟩
                    · have r97 : w39.toInt ≠ w40.toInt := t_nei h41
                      refine ev_loc f_X12_pour (nx := 76) rfl rfl rfl rfl ?_
                      refine ev_bp f_X12_pour (nx := 78) (v := 8) rfl (by decide) rfl ?_
                      refine ev_inV2 f_X12_pour (nx := 81) (lo2 := [(0, .ref 69), (1, .int 8)]) rfl rfl rfl rfl f_X12_is (hI.wf.s rfl) rfl rfl rfl rfl rfl ?_
                      refine ev_loc f_X12_is (nx := 1) rfl rfl rfl rfl ?_
                      refine ev_loc f_X12_is (nx := 2) rfl rfl rfl rfl ?_
                      refine ev_putIT f_X12_is (nx := 5) rfl (hI.wf.s rfl) rfl rfl rfl (hI.put0 (hI.wf.s rfl) rfl rfl) (hX.upI rfl) (fun g98 e98 hI hX => ?_)
                      refine ev_loc f_X12_is (nx := 6) rfl rfl rfl rfl ?_
                      refine ev_f f_X12_is (t1 := 9) (t2 := 13) rfl rfl rfl (by decide) ?_
                      refine ev_ic f_X12_is (nx := 14) (v := 0) rfl (by decide) rfl ?_
                      refine ev_retK1 f_X12_is rfl rfl rfl ?_
                      exact ev_ret f_X12_pour rfl rfl rfl ⟨_, _, _, rfl, hI, hX, ⟨_, rfl, (by decide : (0:Int) ≤ (0:Int32).toInt), (Int.le_trans (by decide : (0:Int32).toInt ≤ (0:Int)) (by decide : (0:Int) ≤ 1))⟩⟩
              · have u99 : ar5.toInt ≤ (-1) := t_ltu (t_nle h25) (by decide : (0:Int32).toInt ≤ (0:Int)) rfl
                refine ev_loc f_X12_pour (nx := 29) rfl rfl rfl rfl ?_
                refine ev_ic f_X12_pour (nx := 30) (v := 1) rfl (by decide) rfl ?_
                refine ev_inV2 f_X12_pour (nx := 33) (lo2 := [(0, .ref 69), (1, .int 1)]) rfl rfl rfl rfl f_X12_is (hI.wf.s rfl) rfl rfl rfl rfl rfl ?_
                refine ev_loc f_X12_is (nx := 1) rfl rfl rfl rfl ?_
                refine ev_loc f_X12_is (nx := 2) rfl rfl rfl rfl ?_
                refine ev_putIT f_X12_is (nx := 5) rfl (hI.wf.s rfl) rfl rfl rfl (hI.put0 (hI.wf.s rfl) rfl rfl) (hX.upI rfl) (fun g100 e100 hI hX => ?_)
                refine ev_loc f_X12_is (nx := 6) rfl rfl rfl rfl ?_
                refine ev_f f_X12_is (t1 := 9) (t2 := 13) rfl rfl rfl (by decide) ?_
                refine ev_ic f_X12_is (nx := 14) (v := 0) rfl (by decide) rfl ?_
                refine ev_retK1 f_X12_is rfl rfl rfl ?_
                exact ev_ret f_X12_pour rfl rfl rfl ⟨_, _, _, rfl, hI, hX, ⟨_, rfl, (by decide : (0:Int) ≤ (0:Int32).toInt), (Int.le_trans (by decide : (0:Int32).toInt ≤ (0:Int)) (by decide : (0:Int) ≤ 1))⟩⟩
noncomputable def wl_m_four : List (Nat × Nat) := [(69, 10), (75, 9999)]
noncomputable def Q_m_four (gi : Nat → Nat → Int32) (gl : Nat → Nat → Int64) (gr : Nat → Nat → Value) (ar1 : Int32) : (Nat → Nat → Int32) → (Nat → Nat → Int64) → (Nat → Nat → Value) → Prop := fun (gi2 : Nat → Nat → Int32) (gl2 : Nat → Nat → Int64) (gr2 : Nat → Nat → Value) => (gi2 69 10).toInt = (gi 69 10).toInt + 4
theorem c_m_four {X : x_Ext} {d : Nat} {sh : List (Nat ⊕ (Nat × Nat))} {gi : Nat → Nat → Int32} {gl : Nat → Nat → Int64} {gr : Nat → Nat → Value} (hI : t_I sh gi gr) (ar1 : Int32) (e_p0 : (gi 69 10).toInt + 4 ≤ 900) : x_Me X (d + 1) n_X12_four [.ref 69, .int ar1] (sh, gi, gl, gr) (t_PN wl_m_four sh gi gl gr (Q_m_four gi gl gr ar1)) := by
  have hX : t_X wl_m_four sh gi gl gr gi gl gr := t_X.rf
  refine me_i f_X12_four (hI.wf.s rfl) rfl rfl rfl ?_
  obtain ⟨l1, u1⟩ := hI.b (hI.wf.s (k := 69) rfl) (t_bdK rfl : t_bd 11 10 = some (0, 900))
  refine ev_bp f_X12_four (nx := 2) (v := 24) rfl (by decide) rfl ?_
  refine ev_loc f_X12_four (nx := 3) (lo' := [(2, .int 24), (0, .ref 69), (1, .int ar1)]) rfl rfl rfl rfl ?_
  have L2 : ∀ (m2 : Nat) (gi2 : Nat → Nat → Int32) (gl2 : Nat → Nat → Int64) (gr2 : Nat → Nat → Value) (y2_2 : Int32), t_I sh gi2 gr2 → t_X wl_m_four sh gi gl gr gi2 gl2 gr2 → (-8) ≤ y2_2.toInt → y2_2.toInt ≤ 24 → 8 * (gi2 69 10).toInt + y2_2.toInt = 8 * (gi 69 10).toInt + 24 → (y2_2.toInt - (-8)).toNat = m2 → x_Ev X (d + 1) n_X12_four 3 [(2, .int y2_2), (0, .ref 69), (1, .int ar1)] [] (sh, gi2, gl2, gr2) (t_PN wl_m_four sh gi gl gr (Q_m_four gi gl gr ar1)) := by
    intro m2
    induction m2 using Nat.strongRecOn with
    | _ m2 ih2 =>
    intro gi2 gl2 gr2 y2_2 hI hX l2_2 u2_2 j2_0 hm2
    obtain ⟨l3, u3⟩ := hI.b (hI.wf.s (k := 69) rfl) (t_bdK rfl : t_bd 11 10 = some (0, 900))
    refine ev_loc f_X12_four (nx := 4) rfl rfl rfl rfl ?_
    refine ev_if f_X12_four (t1 := 36) (t2 := 7) rfl rfl rfl (fun h4 => ?_) (fun h4 => ?_)
    · have u5 : y2_2.toInt ≤ (-1) := t_ltu h4 (by decide : (0:Int32).toInt ≤ (0:Int)) rfl
      exact ev_ret f_X12_four rfl rfl rfl ⟨_, _, _, rfl, hI, hX, ⟨rfl, (show (gi2 69 10).toInt = (gi 69 10).toInt + 4 from (by omega))⟩⟩
    · have l6 : 0 ≤ y2_2.toInt := t_lel (t_nlt h4) (by decide : (0:Int) ≤ (0:Int32).toInt)
      refine ev_loc f_X12_four (nx := 8) rfl rfl rfl rfl ?_
      refine ev_getR f_X12_four (nx := 11) rfl (hI.wf.s rfl) rfl rfl (hI.wf.r rfl) rfl rfl ?_
      refine ev_loc f_X12_four (nx := 12) rfl rfl rfl rfl ?_
      refine ev_gvI f_X12_four (nx := 15) (w := (gi2 69 10)) rfl (hI.wf.s rfl) rfl rfl rfl rfl ?_
      refine ev_loc f_X12_four (nx := 16) rfl rfl rfl rfl ?_
      refine ev_loc f_X12_four (nx := 17) rfl rfl rfl rfl ?_
      refine ev_anyI f_X12_four (nx := 18) rfl rfl rfl rfl (fun z7 => ?_)
      refine ev_anyI f_X12_four (nx := 19) rfl rfl rfl rfl (fun z8 => ?_)
      have u10 : (gi2 69 10).toInt ≤ (899:Int) := (by omega)
      refine ev_bastT f_X12_four (nx := 20) rfl (hI.wf.s rfl) l3 (by decide) u10 (by decide) rfl (fun x => (hI.astG (hI.wf.s rfl) (fun lo hi e => absurd e (t_nob (by decide +kernel) _)) (fun k hk e => by have := hk.2.1; omega))) (fun x => hX.upI (t_inA_ok rfl)) (fun g9 x9 e9 hI hX => ?_)
      refine ev_loc f_X12_four (nx := 21) rfl rfl rfl rfl ?_
      refine ev_alu f_X12_four (nx := 22) rfl rfl rfl rfl ?_
      refine ev_gvI f_X12_four (nx := 25) (w := (gi2 69 10)) rfl (hI.wf.s rfl) rfl rfl ((by rw [e9]; exact x_up2_off (Or.inl (by decide)) : g9 69 10 = gi2 69 10).trans rfl) rfl ?_
      refine ev_ic f_X12_four (nx := 26) (v := 1) rfl (by decide) rfl ?_
      refine ev_addC f_X12_four (nx := 27) (c := 1) (l := 1) (u := 900) rfl (by decide) l3 u10 rfl rfl (by decide) (by decide) rfl (fun z11 e11 l11 u11 => ?_)
      refine ev_putIT f_X12_four (nx := 30) rfl (hI.wf.s rfl) rfl rfl rfl (hI.putB (hI.wf.s rfl) rfl rfl l11 (by decide) u11 (by decide)) (hX.upI rfl) (fun g12 e12 hI hX => ?_)
      refine ev_incR f_X12_four (nx := 33) (c := (-8)) (l := (-8)) (u := 16) rfl rfl (by decide) (by decide) l6 u2_2 rfl rfl (by decide) (by decide) rfl (fun z13 e13 l13 u13 => ?_)
      refine ev_jmp f_X12_four (nx := 3) rfl rfl rfl ?_
      refine ev_sub (lo := [(2, .int z13), (0, .ref 69), (1, .int ar1)]) rfl (t_sc rfl (t_sc rfl (t_sc rfl t_sn))) ?_
      exact ih2 _ (by omega) g12 gl2 gr2 (z13) hI hX  l13 (Int.le_trans u13 (by decide : (16:Int) ≤ 24)) (by have ff14 : (g12 69 10).toInt = z11.toInt := congrArg Int32.toInt (by rw [e12]; exact x_up2_at _ _ _ _ : g12 69 10 = z11); omega) rfl
  refine ev_sub (lo := [(2, .int 24), (0, .ref 69), (1, .int ar1)]) rfl (t_sc rfl (t_sc rfl (t_sc rfl t_sn))) ?_
  exact L2 _ gi gl gr (24) hI hX  (Int.le_trans (by decide : ((-8):Int) ≤ 24) (by decide : (24:Int) ≤ (24:Int32).toInt)) (by decide : (24:Int32).toInt ≤ (24:Int)) (by have kf15 : (24 : Int32).toInt = 24 := (by decide); omega) rfl
noncomputable def wl_m_feed : List (Nat × Nat) := [(69, 10), (75, 9999)]
noncomputable def Q_m_feed (gi : Nat → Nat → Int32) (gl : Nat → Nat → Int64) (gr : Nat → Nat → Value) (ar1 : Int32) (ar2 : Int32) (ar3 : Int32) (ar4 : Int32) (ar5 : Int32) : Int32 → (Nat → Nat → Int32) → (Nat → Nat → Int64) → (Nat → Nat → Value) → Prop := fun (v : Int32) (gi2 : Nat → Nat → Int32) (gl2 : Nat → Nat → Int64) (gr2 : Nat → Nat → Value) => ((gi 69 10).toInt + 20 ≤ 900 → v.toInt = (gi 69 10).toInt + 20 ∧ (gi2 69 10).toInt = (gi 69 10).toInt + 20) ∧ (900 < (gi 69 10).toInt + 20 → v.toInt = -1 ∧ (gi2 69 10).toInt = (gi 69 10).toInt)
theorem c_m_feed {X : x_Ext} {d : Nat} {sh : List (Nat ⊕ (Nat × Nat))} {gi : Nat → Nat → Int32} {gl : Nat → Nat → Int64} {gr : Nat → Nat → Value} (hI : t_I sh gi gr) (ar1 : Int32) (ar2 : Int32) (ar3 : Int32) (ar4 : Int32) (ar5 : Int32) : x_Me X (d + 2) n_X12_feed [.ref 69, .int ar1, .int ar2, .int ar3, .int ar4, .int ar5] (sh, gi, gl, gr) (t_PI wl_m_feed sh gi gl gr (-1) 900 (Q_m_feed gi gl gr ar1 ar2 ar3 ar4 ar5)) := by
  have hX : t_X wl_m_feed sh gi gl gr gi gl gr := t_X.rf
  refine me_i f_X12_feed (hI.wf.s rfl) rfl rfl rfl ?_
  obtain ⟨l1, u1⟩ := hI.b (hI.wf.s (k := 69) rfl) (t_bdK rfl : t_bd 11 10 = some (0, 900))
  refine ev_loc f_X12_feed (nx := 1) rfl rfl rfl rfl ?_
  refine ev_gvI f_X12_feed (nx := 4) (w := (gi 69 10)) rfl (hI.wf.s rfl) rfl rfl rfl rfl ?_
  refine ev_bp f_X12_feed (nx := 6) (v := 20) rfl (by decide) rfl ?_
  refine ev_addC f_X12_feed (nx := 7) (c := 20) (l := 20) (u := 920) rfl (by decide) l1 u1 rfl rfl (by decide) (by decide) rfl (fun z2 e2 l2 u2 => ?_)
  refine ev_sp f_X12_feed (nx := 10) (v := 900) rfl (by decide) rfl ?_
  refine ev_if f_X12_feed (t1 := 15) (t2 := 13) rfl rfl rfl (fun h3 => ?_) (fun h3 => ?_)
  · have u4 : z2.toInt ≤ 900 := t_leu h3 (by decide : (900:Int32).toInt ≤ (900:Int))
    refine ev_loc f_X12_feed (nx := 16) rfl rfl rfl rfl ?_
    refine ev_loc f_X12_feed (nx := 17) rfl rfl rfl rfl ?_
    refine ev_qN f_X12_feed (nx := 20) (r := []) rfl rfl rfl rfl rfl rfl rfl (c_m_four hI (ar1) (by omega)) rfl hX rfl (fun gi5 gl5 gr5 hI hX hC5 q5 => ?_)
    have q5 : (gi5 69 10).toInt = (gi 69 10).toInt + 4 := q5
    obtain ⟨l6, u6⟩ := hI.b (hI.wf.s (k := 69) rfl) (t_bdK rfl : t_bd 11 10 = some (0, 900))
    refine ev_loc f_X12_feed (nx := 21) rfl rfl rfl rfl ?_
    refine ev_loc f_X12_feed (nx := 22) rfl rfl rfl rfl ?_
    refine ev_qN f_X12_feed (nx := 25) (r := []) rfl rfl rfl rfl rfl rfl rfl (c_m_four hI (ar2) (by omega)) rfl hX rfl (fun gi7 gl7 gr7 hI hX hC7 q7 => ?_)
    have q7 : (gi7 69 10).toInt = (gi5 69 10).toInt + 4 := q7
    obtain ⟨l8, u8⟩ := hI.b (hI.wf.s (k := 69) rfl) (t_bdK rfl : t_bd 11 10 = some (0, 900))
    refine ev_loc f_X12_feed (nx := 26) rfl rfl rfl rfl ?_
    refine ev_loc f_X12_feed (nx := 27) rfl rfl rfl rfl ?_
    refine ev_qN f_X12_feed (nx := 30) (r := []) rfl rfl rfl rfl rfl rfl rfl (c_m_four hI (ar3) (by omega)) rfl hX rfl (fun gi9 gl9 gr9 hI hX hC9 q9 => ?_)
    have q9 : (gi9 69 10).toInt = (gi7 69 10).toInt + 4 := q9
    obtain ⟨l10, u10⟩ := hI.b (hI.wf.s (k := 69) rfl) (t_bdK rfl : t_bd 11 10 = some (0, 900))
    refine ev_loc f_X12_feed (nx := 31) rfl rfl rfl rfl ?_
    refine ev_loc f_X12_feed (nx := 33) rfl rfl rfl rfl ?_
    refine ev_qN f_X12_feed (nx := 36) (r := []) rfl rfl rfl rfl rfl rfl rfl (c_m_four hI (ar4) (by omega)) rfl hX rfl (fun gi11 gl11 gr11 hI hX hC11 q11 => ?_)
    have q11 : (gi11 69 10).toInt = (gi9 69 10).toInt + 4 := q11
    obtain ⟨l12, u12⟩ := hI.b (hI.wf.s (k := 69) rfl) (t_bdK rfl : t_bd 11 10 = some (0, 900))
    refine ev_loc f_X12_feed (nx := 37) rfl rfl rfl rfl ?_
    refine ev_loc f_X12_feed (nx := 39) rfl rfl rfl rfl ?_
    refine ev_qN f_X12_feed (nx := 42) (r := []) rfl rfl rfl rfl rfl rfl rfl (c_m_four hI (ar5) (by omega)) rfl hX rfl (fun gi13 gl13 gr13 hI hX hC13 q13 => ?_)
    have q13 : (gi13 69 10).toInt = (gi11 69 10).toInt + 4 := q13
    obtain ⟨l14, u14⟩ := hI.b (hI.wf.s (k := 69) rfl) (t_bdK rfl : t_bd 11 10 = some (0, 900))
    refine ev_loc f_X12_feed (nx := 43) rfl rfl rfl rfl ?_
    refine ev_gvI f_X12_feed (nx := 46) (w := (gi13 69 10)) rfl (hI.wf.s rfl) rfl rfl rfl rfl ?_
    exact ev_ret f_X12_feed rfl rfl rfl ⟨_, _, _, rfl, hI, hX, ⟨_, rfl, (Int.le_trans (by decide : ((-1):Int) ≤ 0) l14), u14, (show ((gi 69 10).toInt + 20 ≤ 900 → (gi13 69 10).toInt = (gi 69 10).toInt + 20 ∧ (gi13 69 10).toInt = (gi 69 10).toInt + 20) ∧ (900 < (gi 69 10).toInt + 20 → (gi13 69 10).toInt = -1 ∧ (gi13 69 10).toInt = (gi 69 10).toInt) from (by omega))⟩⟩
  · have l15 : 901 ≤ z2.toInt := t_ltl (t_nle h3) (by decide : (900:Int) ≤ (900:Int32).toInt) rfl
    refine ev_ic f_X12_feed (nx := 14) (v := -1) rfl (by decide) rfl ?_
    exact ev_ret f_X12_feed rfl rfl rfl ⟨_, _, _, rfl, hI, hX, ⟨_, rfl, (by decide : ((-1):Int) ≤ ((-1):Int32).toInt), (Int.le_trans (by decide : ((-1):Int32).toInt ≤ ((-1):Int)) (by decide : ((-1):Int) ≤ 900)), (show ((gi 69 10).toInt + 20 ≤ 900 → (-1) = (gi 69 10).toInt + 20 ∧ (gi 69 10).toInt = (gi 69 10).toInt + 20) ∧ (900 < (gi 69 10).toInt + 20 → (-1) = -1 ∧ (gi 69 10).toInt = (gi 69 10).toInt) from (by omega))⟩⟩
noncomputable def wl_m_length : List (Nat × Nat) := []
theorem c_m_length {X : x_Ext} {d : Nat} {sh : List (Nat ⊕ (Nat × Nat))} {gi : Nat → Nat → Int32} {gl : Nat → Nat → Int64} {gr : Nat → Nat → Value} (hI : t_I sh gi gr) : x_Me X (d + 2) n_J0_length_8abf5 [.retAddr 28] (sh, gi, gl, gr) (t_P wl_m_length sh gi gl gr (t_Ri 138 138)) := by
  have hX : t_X wl_m_length sh gi gl gr gi gl gr := t_X.rf
  refine me_x f_J0_length_8abf5 rfl rfl ?_
  refine ev_loc f_J0_length_8abf5 (nx := 1) rfl rfl rfl rfl ?_
  refine ev_heap f_J0_length_8abf5 (nx := 4) (st' := [.retAddr 29]) rfl rfl rfl rfl ?_
  refine ev_heap f_J0_length_8abf5 (nx := 5) (st' := .int 138 :: []) rfl rfl rfl rfl ?_
  refine ev_loc f_J0_length_8abf5 (nx := 6) rfl rfl rfl rfl ?_
  refine ev_inX f_J0_length_8abf5 (nx := 9) (r := [.int 138]) (as := []) (lo2 := [(0, .retAddr 28)]) rfl rfl rfl rfl rfl rfl rfl f_J0_coder_7d493 rfl rfl rfl rfl ?_
  refine ev_heap f_J0_coder_7d493 (nx := 3) rfl rfl rfl rfl ?_
  refine ev_f f_J0_coder_7d493 (t1 := 13) (t2 := 6) rfl rfl rfl (by decide) ?_
  refine ev_loc f_J0_coder_7d493 (nx := 7) rfl rfl rfl rfl ?_
  refine ev_heap f_J0_coder_7d493 (nx := 10) (st' := [.int 0]) rfl rfl rfl rfl ?_
  refine ev_jmp f_J0_coder_7d493 (nx := 14) rfl rfl rfl ?_
  refine ev_retK1 f_J0_coder_7d493 rfl rfl rfl ?_
  refine ev_aluvI f_J0_length_8abf5 (nx := 10) (w := 138) rfl rfl rfl (by decide) rfl ?_
  exact ev_ret f_J0_length_8abf5 rfl rfl rfl ⟨_, _, _, rfl, hI, hX, ⟨_, rfl, (by decide : (138:Int) ≤ (138:Int32).toInt), (by decide : (138:Int32).toInt ≤ (138:Int))⟩⟩
noncomputable def wl_m_charAt : List (Nat × Nat) := []
noncomputable def Q_m_charAt (gi : Nat → Nat → Int32) (gl : Nat → Nat → Int64) (gr : Nat → Nat → Value) (ar1 : Int32) : Int32 → (Nat → Nat → Int32) → (Nat → Nat → Int64) → (Nat → Nat → Value) → Prop := fun (v : Int32) (gi2 : Nat → Nat → Int32) (gl2 : Nat → Nat → Int64) (gr2 : Nat → Nat → Value) => (v = x_kc ar1.toNatClampNeg) ∧ (v.toInt ≠ 32 → ar1.toInt + 1 ≤ 137) ∧ 0 ≤ v.toInt ∧ v.toInt ≤ 127
theorem c_m_charAt {X : x_Ext} {d : Nat} {sh : List (Nat ⊕ (Nat × Nat))} {gi : Nat → Nat → Int32} {gl : Nat → Nat → Int64} {gr : Nat → Nat → Value} (hI : t_I sh gi gr) (ar1 : Int32) (l_a1 : 0 ≤ ar1.toInt) (u_a1 : ar1.toInt ≤ 137) : x_Me X (d + 4) n_J0_charAt_5068e [.retAddr 28, .int ar1] (sh, gi, gl, gr) (t_PI wl_m_charAt sh gi gl gr (-2147483648) 2147483647 (Q_m_charAt gi gl gr ar1)) := by
  have hX : t_X wl_m_charAt sh gi gl gr gi gl gr := t_X.rf
  refine me_x f_J0_charAt_5068e rfl rfl ?_
  refine ev_loc f_J0_charAt_5068e (nx := 1) rfl rfl rfl rfl ?_
  refine ev_inX f_J0_charAt_5068e (nx := 4) (r := []) (as := []) (lo2 := [(0, .retAddr 28)]) rfl rfl rfl rfl rfl rfl rfl f_J0_isLatin1_aae02 rfl rfl rfl rfl ?_
  refine ev_heap f_J0_isLatin1_aae02 (nx := 3) rfl rfl rfl rfl ?_
  refine ev_f f_J0_isLatin1_aae02 (t1 := 17) (t2 := 6) rfl rfl rfl (by decide) ?_
  refine ev_loc f_J0_isLatin1_aae02 (nx := 7) rfl rfl rfl rfl ?_
  refine ev_heap f_J0_isLatin1_aae02 (nx := 10) (st' := [.int 0]) rfl rfl rfl rfl ?_
  refine ev_t f_J0_isLatin1_aae02 (t1 := 13) (t2 := 17) rfl rfl rfl (by decide) ?_
  refine ev_ic f_J0_isLatin1_aae02 (nx := 14) (v := 1) rfl (by decide) rfl ?_
  refine ev_jmp f_J0_isLatin1_aae02 (nx := 18) rfl rfl rfl ?_
  refine ev_retK1 f_J0_isLatin1_aae02 rfl rfl rfl ?_
  refine ev_f f_J0_charAt_5068e (t1 := 16) (t2 := 7) rfl rfl rfl (by decide) ?_
  refine ev_loc f_J0_charAt_5068e (nx := 8) rfl rfl rfl rfl ?_
  refine ev_heap f_J0_charAt_5068e (nx := 11) (st' := [.retAddr 29]) rfl rfl rfl rfl ?_
  refine ev_loc f_J0_charAt_5068e (nx := 12) rfl rfl rfl rfl ?_
  refine ev_inS2 f_J0_charAt_5068e (nx := 15) (lo2 := [(0, .retAddr 29), (1, .int ar1)]) rfl rfl rfl rfl f_J1_charAt_3b067 rfl rfl rfl rfl ?_
  refine ev_loc f_J1_charAt_3b067 (nx := 1) rfl rfl rfl rfl ?_
  refine ev_loc f_J1_charAt_3b067 (nx := 2) rfl rfl rfl rfl ?_
  refine ev_heap f_J1_charAt_3b067 (nx := 3) (st' := .int 138 :: [.int ar1]) rfl rfl rfl rfl ?_
  refine ev_inS2 f_J1_charAt_3b067 (nx := 6) (lo2 := [(0, .int ar1), (1, .int 138)]) rfl rfl rfl rfl f_J0_checkIndex_df160 rfl rfl rfl rfl ?_
  refine ev_loc f_J0_checkIndex_df160 (nx := 1) rfl rfl rfl rfl ?_
  refine ev_loc f_J0_checkIndex_df160 (nx := 2) rfl rfl rfl rfl ?_
  refine ev_heap f_J0_checkIndex_df160 (nx := 5) rfl rfl rfl rfl ?_
  refine ev_inS3 f_J0_checkIndex_df160 (nx := 8) (lo2 := [(0, .int ar1), (1, .int 138), (2, .retAddr 41)]) rfl rfl rfl rfl f_J3_checkIndex_8e157 rfl rfl rfl rfl ?_
  refine ev_loc f_J3_checkIndex_8e157 (nx := 1) rfl rfl rfl rfl ?_
  refine ev_f f_J3_checkIndex_8e157 (t1 := 9) (t2 := 4) rfl rfl rfl (t_ltF (by decide : (0:Int32).toInt ≤ (0:Int)) l_a1 (by decide)) ?_
  refine ev_loc f_J3_checkIndex_8e157 (nx := 5) rfl rfl rfl rfl ?_
  refine ev_loc f_J3_checkIndex_8e157 (nx := 6) rfl rfl rfl rfl ?_
  refine ev_t f_J3_checkIndex_8e157 (t1 := 16) (t2 := 9) rfl rfl rfl (t_ltT u_a1 (by decide : (138:Int) ≤ (138:Int32).toInt) (by decide)) ?_
  refine ev_loc f_J3_checkIndex_8e157 (nx := 17) rfl rfl rfl rfl ?_
  refine ev_retK1 f_J3_checkIndex_8e157 rfl rfl rfl ?_
  refine ev_alu f_J0_checkIndex_df160 (nx := 9) rfl rfl rfl rfl ?_
  refine ev_retK0 f_J0_checkIndex_df160 rfl rfl rfl ?_
  refine ev_loc f_J1_charAt_3b067 (nx := 7) rfl rfl rfl rfl ?_
  refine ev_loc f_J1_charAt_3b067 (nx := 8) rfl rfl rfl rfl ?_
  refine ev_xba f_J1_charAt_3b067 (nx := 9) rfl l_a1 (by decide) u_a1 (by decide) rfl (fun w1 e1 => ?_)
  refine ev_sp f_J1_charAt_3b067 (nx := 12) (v := 255) rfl (by decide) rfl ?_
  refine ev_anyIE f_J1_charAt_3b067 (nx := 13) rfl rfl rfl rfl (fun z2 e2 => ?_)
  refine ev_anyIE f_J1_charAt_3b067 (nx := 14) rfl rfl rfl rfl (fun z3 e3 => ?_)
  refine ev_retK1 f_J1_charAt_3b067 rfl rfl (t_rc e3) ?_
  exact ev_ret f_J0_charAt_5068e rfl rfl (t_rc e3) ⟨_, _, _, rfl, hI, hX, ⟨_, rfl, (t_lo z3), (t_hi z3), (show (z3 = x_kc ar1.toNatClampNeg) ∧ (z3.toInt ≠ 32 → ar1.toInt + 1 ≤ 137) ∧ 0 ≤ z3.toInt ∧ z3.toInt ≤ 127 from (t_kc (by rw [e3, e2, e1]; rfl) l_a1 u_a1))⟩⟩
noncomputable def wl_m_inWords : List (Nat × Nat) := []
noncomputable def Q_m_inWords (gi : Nat → Nat → Int32) (gl : Nat → Nat → Int64) (gr : Nat → Nat → Value) : Int32 → (Nat → Nat → Int32) → (Nat → Nat → Int64) → (Nat → Nat → Value) → Prop := fun (v : Int32) (gi2 : Nat → Nat → Int32) (gl2 : Nat → Nat → Int64) (gr2 : Nat → Nat → Value) => 0 ≤ v.toInt → (gi 69 12).toInt = 2
theorem c_m_inWords {X : x_Ext} {d : Nat} {sh : List (Nat ⊕ (Nat × Nat))} {gi : Nat → Nat → Int32} {gl : Nat → Nat → Int64} {gr : Nat → Nat → Value} (hI : t_I sh gi gr) : x_Me X (d + 5) n_X12_inWords [.ref 69, .retAddr 28] (sh, gi, gl, gr) (t_PI wl_m_inWords sh gi gl gr (-2147483648) 2147483647 (Q_m_inWords gi gl gr)) := by
  have hX : t_X wl_m_inWords sh gi gl gr gi gl gr := t_X.rf
  refine me_i f_X12_inWords (hI.wf.s rfl) rfl rfl rfl ?_
  obtain ⟨l1, u1⟩ := hI.b (hI.wf.s (k := 69) rfl) (t_bdK rfl : t_bd 11 12 = some (0, 4))
  refine ev_loc f_X12_inWords (nx := 1) rfl rfl rfl rfl ?_
  refine ev_gvI f_X12_inWords (nx := 4) (w := (gi 69 12)) rfl (hI.wf.s rfl) rfl rfl rfl rfl ?_
  refine ev_ic f_X12_inWords (nx := 5) (v := 2) rfl (by decide) rfl ?_
  refine ev_if f_X12_inWords (t1 := 10) (t2 := 8) rfl rfl rfl (fun h2 => ?_) (fun h2 => ?_)
  · have u3 : (gi 69 12).toInt ≤ 2 := t_equ h2 (by decide : (2:Int32).toInt ≤ (2:Int))
    have l4 : 2 ≤ (gi 69 12).toInt := t_eql h2 (by decide : (2:Int) ≤ (2:Int32).toInt)
    refine ev_ic f_X12_inWords (nx := 11) (v := 0) rfl (by decide) rfl ?_
    refine ev_loc f_X12_inWords (nx := 12) (lo' := [(2, .int 0), (0, .ref 69), (1, .retAddr 28)]) rfl rfl rfl rfl ?_
    refine ev_ic f_X12_inWords (nx := 13) (v := 1) rfl (by decide) rfl ?_
    refine ev_loc f_X12_inWords (nx := 14) (lo' := [(3, .int 1), (2, .int 0), (0, .ref 69), (1, .retAddr 28)]) rfl rfl rfl rfl ?_
    have L5 : ∀ (m5 : Nat) (gi5 : Nat → Nat → Int32) (gl5 : Nat → Nat → Int64) (gr5 : Nat → Nat → Value) (y5_3 : Int32) (y5_2 : Int32), t_I sh gi5 gr5 → t_X wl_m_inWords sh gi gl gr gi5 gl5 gr5 → 1 ≤ y5_3.toInt → y5_3.toInt ≤ 138 → gi5 69 12 = (gi 69 12) → (138 - y5_3.toInt).toNat = m5 → x_Ev X (d + 5) n_X12_inWords 14 [(3, .int y5_3), (2, .int y5_2), (0, .ref 69), (1, .retAddr 28)] [] (sh, gi5, gl5, gr5) (t_PI wl_m_inWords sh gi gl gr (-2147483648) 2147483647 (Q_m_inWords gi gl gr)) := by
      intro m5
      induction m5 using Nat.strongRecOn with
      | _ m5 ih5 =>
      intro gi5 gl5 gr5 y5_3 y5_2 hI hX l5_3 u5_3 c5_0 hm5
      refine ev_loc f_X12_inWords (nx := 15) rfl rfl rfl rfl ?_
      refine ev_loc f_X12_inWords (nx := 16) rfl rfl rfl rfl ?_
      refine ev_cI f_X12_inWords (nx := 19) (r := [.int y5_3]) rfl rfl rfl rfl rfl rfl rfl (c_m_length hI ) rfl hX rfl (fun w6 gi6 gl6 gr6 l6 u6 hI hX hC6 => ?_)
      refine ev_if f_X12_inWords (t1 := 133) (t2 := 22) rfl rfl rfl (fun h7 => ?_) (fun h7 => ?_)
      · have r8 : w6.toInt ≤ y5_3.toInt := Int32.le_iff_toInt_le.mp h7
        have l9 : 138 ≤ y5_3.toInt := t_lel h7 l6
        refine ev_ic f_X12_inWords (nx := 134) (v := -1) rfl (by decide) rfl ?_
        exact ev_ret f_X12_inWords rfl rfl rfl ⟨_, _, _, rfl, hI, hX, ⟨_, rfl, (Int.le_trans (by decide : ((-2147483648):Int) ≤ (-1)) (by decide : ((-1):Int) ≤ ((-1):Int32).toInt)), (Int.le_trans (by decide : ((-1):Int32).toInt ≤ ((-1):Int)) (by decide : ((-1):Int) ≤ 2147483647)), (show 0 ≤ (-1) → (gi 69 12).toInt = 2 from (by omega))⟩⟩
      · have r10 : y5_3.toInt < w6.toInt := Int32.lt_iff_toInt_lt.mp (t_nle h7)
        have u11 : y5_3.toInt ≤ 137 := t_ltu (t_nle h7) u6 rfl
        refine ev_loc f_X12_inWords (nx := 23) rfl rfl rfl rfl ?_
        refine ev_loc f_X12_inWords (nx := 25) (lo' := [(4, .int y5_3), (3, .int y5_3), (2, .int y5_2), (0, .ref 69), (1, .retAddr 28)]) rfl rfl rfl rfl ?_
        have L12 : ∀ (m12 : Nat) (gi12 : Nat → Nat → Int32) (gl12 : Nat → Nat → Int64) (gr12 : Nat → Nat → Value) (y12_4 : Int32), t_I sh gi12 gr12 → t_X wl_m_inWords sh gi gl gr gi12 gl12 gr12 → 1 ≤ y12_4.toInt → y12_4.toInt ≤ 137 → gi12 69 12 = (gi 69 12) → y5_3.toInt ≤ y12_4.toInt → (138 - y12_4.toInt).toNat = m12 → x_Ev X (d + 5) n_X12_inWords 25 [(4, .int y12_4), (3, .int y5_3), (2, .int y5_2), (0, .ref 69), (1, .retAddr 28)] [] (sh, gi12, gl12, gr12) (t_PI wl_m_inWords sh gi gl gr (-2147483648) 2147483647 (Q_m_inWords gi gl gr)) := by
          intro m12
          induction m12 using Nat.strongRecOn with
          | _ m12 ih12 =>
          intro gi12 gl12 gr12 y12_4 hI hX l12_4 u12_4 c12_0 j12_0 hm12
          refine ev_loc f_X12_inWords (nx := 26) rfl rfl rfl rfl ?_
          refine ev_loc f_X12_inWords (nx := 28) rfl rfl rfl rfl ?_
          refine ev_qI f_X12_inWords (nx := 31) (r := []) rfl rfl rfl rfl rfl rfl rfl (c_m_charAt hI (y12_4) (Int.le_trans (by decide : (0:Int) ≤ 1) l12_4) u12_4) rfl hX rfl (fun w13 gi13 gl13 gr13 l13 u13 hI hX hC13 q13 => ?_)
          have q13 : (w13 = x_kc y12_4.toNatClampNeg) ∧ (w13.toInt ≠ 32 → y12_4.toInt + 1 ≤ 137) ∧ 0 ≤ w13.toInt ∧ w13.toInt ≤ 127 := q13
          refine ev_bp f_X12_inWords (nx := 33) (v := 32) rfl (by decide) rfl ?_
          refine ev_if f_X12_inWords (t1 := 42) (t2 := 36) rfl rfl rfl (fun h14 => ?_) (fun h14 => ?_)
          · have u15 : w13.toInt ≤ 32 := t_equ h14 (by decide : (32:Int32).toInt ≤ (32:Int))
            have l16 : 32 ≤ w13.toInt := t_eql h14 (by decide : (32:Int) ≤ (32:Int32).toInt)
            refine ev_loc f_X12_inWords (nx := 44) rfl rfl rfl rfl ?_
            refine ev_loc f_X12_inWords (nx := 45) rfl rfl rfl rfl ?_
            refine ev_subR f_X12_inWords (nx := 46) (l := (-136)) (u := 136) rfl l12_4 u12_4 l5_3 u11 rfl rfl (by decide) (by decide) rfl (fun z17 e17 l17 u17 => ?_)
            refine ev_loc f_X12_inWords (nx := 47) rfl rfl rfl rfl ?_
            refine ev_getI f_X12_inWords (nx := 50) rfl (hI.wf.s rfl) rfl rfl rfl ?_
            obtain ⟨l18, u18⟩ := hI.b (hI.wf.s (k := 69) rfl) (t_bdK rfl : t_bd 11 14 = some (0, 900))
            refine ev_loc f_X12_inWords (nx := 51) rfl rfl rfl rfl ?_
            refine ev_getI f_X12_inWords (nx := 54) rfl (hI.wf.s rfl) rfl rfl rfl ?_
            obtain ⟨l19, u19⟩ := hI.b (hI.wf.s (k := 69) rfl) (t_bdK rfl : t_bd 11 13 = some (0, 900))
            refine ev_subR f_X12_inWords (nx := 55) (l := (-900)) (u := 900) rfl l18 u18 l19 u19 rfl rfl (by decide) (by decide) rfl (fun z20 e20 l20 u20 => ?_)
            refine ev_if f_X12_inWords (t1 := 58) (t2 := 62) rfl rfl rfl (fun h21 => ?_) (fun h21 => ?_)
            · have r22 : z17.toInt = z20.toInt := t_eqi h21
              have u23 : z20.toInt ≤ 136 := t_equ (Eq.symm h21) u17
              have l24 : (-136) ≤ z20.toInt := t_eql (Eq.symm h21) l17
              refine ev_ic f_X12_inWords (nx := 59) (v := 1) rfl (by decide) rfl ?_
              refine ev_jmp f_X12_inWords (nx := 63) rfl rfl rfl ?_
              refine ev_loc f_X12_inWords (nx := 65) (lo' := [(5, .int 1), (4, .int y12_4), (3, .int y5_3), (2, .int y5_2), (0, .ref 69), (1, .retAddr 28)]) rfl rfl rfl rfl ?_
              refine ev_loc f_X12_inWords (nx := 66) rfl rfl rfl rfl ?_
              refine ev_loc f_X12_inWords (nx := 68) (lo' := [(6, .int y5_3), (5, .int 1), (4, .int y12_4), (3, .int y5_3), (2, .int y5_2), (0, .ref 69), (1, .retAddr 28)]) rfl rfl rfl rfl ?_
              have L25 : ∀ (m25 : Nat) (gi25 : Nat → Nat → Int32) (gl25 : Nat → Nat → Int64) (gr25 : Nat → Nat → Value) (y25_6 : Int32) (y25_5 : Int32), t_I sh gi25 gr25 → t_X wl_m_inWords sh gi gl gr gi25 gl25 gr25 → 1 ≤ y25_6.toInt → y25_6.toInt ≤ 137 → 0 ≤ y25_5.toInt → y25_5.toInt ≤ 1 → gi25 69 12 = (gi 69 12) → gi25 69 13 = (gi13 69 13) → gi25 69 14 = (gi13 69 14) → y5_3.toInt ≤ y12_4.toInt → y5_3.toInt ≤ y25_6.toInt → (138 - y25_6.toInt).toNat = m25 → x_Ev X (d + 5) n_X12_inWords 68 [(6, .int y25_6), (5, .int y25_5), (4, .int y12_4), (3, .int y5_3), (2, .int y5_2), (0, .ref 69), (1, .retAddr 28)] [] (sh, gi25, gl25, gr25) (t_PI wl_m_inWords sh gi gl gr (-2147483648) 2147483647 (Q_m_inWords gi gl gr)) := by
                intro m25
                induction m25 using Nat.strongRecOn with
                | _ m25 ih25 =>
                intro gi25 gl25 gr25 y25_6 y25_5 hI hX l25_6 u25_6 l25_5 u25_5 c25_0 c25_1 c25_2 j25_0 j25_1 hm25
                refine ev_loc f_X12_inWords (nx := 70) rfl rfl rfl rfl ?_
                refine ev_loc f_X12_inWords (nx := 72) rfl rfl rfl rfl ?_
                refine ev_if f_X12_inWords (t1 := 115) (t2 := 75) rfl rfl rfl (fun h26 => ?_) (fun h26 => ?_)
                · have r27 : y12_4.toInt ≤ y25_6.toInt := Int32.le_iff_toInt_le.mp h26
                  refine ev_loc f_X12_inWords (nx := 117) rfl rfl rfl rfl ?_
                  refine ev_if f_X12_inWords (t1 := 122) (t2 := 120) rfl rfl rfl (fun h28 => ?_) (fun h28 => ?_)
                  · have u29 : y25_5.toInt ≤ 0 := t_equ h28 (by decide : (0:Int32).toInt ≤ (0:Int))
                    refine ev_incN f_X12_inWords (nx := 125) rfl rfl (by decide) rfl (fun z30 => ?_)
                    refine ev_loc f_X12_inWords (nx := 127) rfl rfl rfl rfl ?_
                    refine ev_ic f_X12_inWords (nx := 128) (v := 1) rfl (by decide) rfl ?_
                    refine ev_addC f_X12_inWords (nx := 129) (c := 1) (l := 2) (u := 138) rfl (by decide) l12_4 u12_4 rfl rfl (by decide) (by decide) rfl (fun z31 e31 l31 u31 => ?_)
                    refine ev_loc f_X12_inWords (nx := 130) (lo' := [(3, .int z31), (2, .int z30), (6, .int y25_6), (5, .int y25_5), (4, .int y12_4), (0, .ref 69), (1, .retAddr 28)]) rfl rfl rfl rfl ?_
                    refine ev_jmp f_X12_inWords (nx := 14) rfl rfl rfl ?_
                    refine ev_sub (lo := [(3, .int z31), (2, .int z30), (0, .ref 69), (1, .retAddr 28)]) rfl (t_sc rfl (t_sc rfl (t_sc rfl (t_sc rfl t_sn)))) ?_
                    exact ih5 _ (by omega) gi25 gl25 gr25 (z31) (z30) hI hX  (Int.le_trans (by decide : (1:Int) ≤ 2) l31) u31 c25_0 rfl
                  · have r32 : y25_5.toInt ≠ 0 := fun e => h28 (Int32.toInt_inj.mp (e.trans (by decide : (0:Int) = (0 : Int32).toInt)))
                    have l33 : 1 ≤ y25_5.toInt := t_nel h28 l25_5 rfl rfl
                    refine ev_loc f_X12_inWords (nx := 121) rfl rfl rfl rfl ?_
                    exact ev_ret f_X12_inWords rfl rfl rfl ⟨_, _, _, rfl, hI, hX, ⟨_, rfl, (t_lo y5_2), (t_hi y5_2), (show 0 ≤ y5_2.toInt → (gi 69 12).toInt = 2 from (by omega))⟩⟩
                · have r34 : y25_6.toInt < y12_4.toInt := Int32.lt_iff_toInt_lt.mp (t_nle h26)
                  have u35 : y25_6.toInt ≤ 136 := t_ltu (t_nle h26) u12_4 rfl
                  have l36 : 2 ≤ y12_4.toInt := t_ltl (t_nle h26) l25_6 rfl
                  refine ev_loc f_X12_inWords (nx := 77) rfl rfl rfl rfl ?_
                  refine ev_if f_X12_inWords (t1 := 115) (t2 := 80) rfl rfl rfl (fun h37 => ?_) (fun h37 => ?_)
                  · have u38 : y25_5.toInt ≤ 0 := t_equ h37 (by decide : (0:Int32).toInt ≤ (0:Int))
                    refine ev_loc f_X12_inWords (nx := 117) rfl rfl rfl rfl ?_
                    refine ev_t f_X12_inWords (t1 := 122) (t2 := 120) rfl rfl rfl (t_eqT u38 l25_5 (by decide : (0:Int32).toInt ≤ (0:Int)) (by decide : (0:Int) ≤ (0:Int32).toInt)) ?_
                    refine ev_incN f_X12_inWords (nx := 125) rfl rfl (by decide) rfl (fun z39 => ?_)
                    refine ev_loc f_X12_inWords (nx := 127) rfl rfl rfl rfl ?_
                    refine ev_ic f_X12_inWords (nx := 128) (v := 1) rfl (by decide) rfl ?_
                    refine ev_addC f_X12_inWords (nx := 129) (c := 1) (l := 3) (u := 138) rfl (by decide) l36 u12_4 rfl rfl (by decide) (by decide) rfl (fun z40 e40 l40 u40 => ?_)
                    refine ev_loc f_X12_inWords (nx := 130) (lo' := [(3, .int z40), (2, .int z39), (6, .int y25_6), (5, .int y25_5), (4, .int y12_4), (0, .ref 69), (1, .retAddr 28)]) rfl rfl rfl rfl ?_
                    refine ev_jmp f_X12_inWords (nx := 14) rfl rfl rfl ?_
                    refine ev_sub (lo := [(3, .int z40), (2, .int z39), (0, .ref 69), (1, .retAddr 28)]) rfl (t_sc rfl (t_sc rfl (t_sc rfl (t_sc rfl t_sn)))) ?_
                    exact ih5 _ (by omega) gi25 gl25 gr25 (z40) (z39) hI hX  (Int.le_trans (by decide : (1:Int) ≤ 3) l40) u40 c25_0 rfl
                  · have r41 : y25_5.toInt ≠ 0 := fun e => h37 (Int32.toInt_inj.mp (e.trans (by decide : (0:Int) = (0 : Int32).toInt)))
                    have l42 : 1 ≤ y25_5.toInt := t_nel h37 l25_5 rfl rfl
                    refine ev_loc f_X12_inWords (nx := 81) rfl rfl rfl rfl ?_
                    refine ev_loc f_X12_inWords (nx := 83) rfl rfl rfl rfl ?_
                    refine ev_qI f_X12_inWords (nx := 86) (r := []) rfl rfl rfl rfl rfl rfl rfl (c_m_charAt hI (y25_6) (Int.le_trans (by decide : (0:Int) ≤ 1) l25_6) (Int.le_trans u35 (by decide : (136:Int) ≤ 137))) rfl hX rfl (fun w43 gi43 gl43 gr43 l43 u43 hI hX hC43 q43 => ?_)
                    have q43 : (w43 = x_kc y25_6.toNatClampNeg) ∧ (w43.toInt ≠ 32 → y25_6.toInt + 1 ≤ 137) ∧ 0 ≤ w43.toInt ∧ w43.toInt ≤ 127 := q43
                    refine ev_loc f_X12_inWords (nx := 87) rfl rfl rfl rfl ?_
                    refine ev_loc f_X12_inWords (nx := 88) rfl rfl rfl rfl ?_
                    refine ev_gvI f_X12_inWords (nx := 91) (w := (gi13 69 13)) rfl (hI.wf.s rfl) rfl rfl ((hC43.1 69 13 rfl).1.trans c25_1) rfl ?_
                    refine ev_loc f_X12_inWords (nx := 93) rfl rfl rfl rfl ?_
                    refine ev_addR f_X12_inWords (nx := 94) (l := 1) (u := 1036) rfl l19 u19 l25_6 u35 rfl rfl (by decide) (by decide) rfl (fun z44 e44 l44 u44 => ?_)
                    refine ev_loc f_X12_inWords (nx := 95) rfl rfl rfl rfl ?_
                    refine ev_subR f_X12_inWords (nx := 96) (l := (-136)) (u := 1035) rfl l44 u44 l5_3 u11 rfl rfl (by decide) (by decide) rfl (fun z45 e45 l45 u45 => ?_)
                    refine ev_inV2 f_X12_inWords (nx := 99) (lo2 := [(0, .ref 69), (1, .int z45)]) rfl rfl rfl rfl f_X12_byteAt (hI.wf.s rfl) rfl rfl rfl rfl rfl ?_
                    refine ev_loc f_X12_byteAt (nx := 1) rfl rfl rfl rfl ?_
                    refine ev_loc f_X12_byteAt (nx := 2) rfl rfl rfl rfl ?_
                    refine ev_getI f_X12_byteAt (nx := 5) rfl (hI.wf.s rfl) rfl rfl rfl ?_
                    obtain ⟨l46, u46⟩ := hI.b (hI.wf.s (k := 69) rfl) (t_bdK rfl : t_bd 11 11 = some (0, 900))
                    refine ev_if f_X12_byteAt (t1 := 21) (t2 := 8) rfl rfl rfl (fun h47 => ?_) (fun h47 => ?_)
                    · have r48 : (gi43 69 11).toInt ≤ z45.toInt := Int32.le_iff_toInt_le.mp h47
                      have l49 : 0 ≤ z45.toInt := t_lel h47 l46
                      refine ev_ic f_X12_byteAt (nx := 22) (v := -1) rfl (by decide) rfl ?_
                      refine ev_retK1 f_X12_byteAt rfl rfl rfl ?_
                      refine ev_if f_X12_inWords (t1 := 102) (t2 := 106) rfl rfl rfl (fun h50 => ?_) (fun h50 => ?_)
                      · have u51 : w43.toInt ≤ (-1) := t_equ h50 (by decide : ((-1):Int32).toInt ≤ ((-1):Int))
                        have l52 : (-1) ≤ w43.toInt := t_eql h50 (by decide : ((-1):Int) ≤ ((-1):Int32).toInt)
                        refine ev_ic f_X12_inWords (nx := 103) (v := 1) rfl (by decide) rfl ?_
                        refine ev_jmp f_X12_inWords (nx := 107) rfl rfl rfl ?_
                        refine ev_loc f_X12_inWords (nx := 109) (lo' := [(5, .int 1), (6, .int y25_6), (4, .int y12_4), (3, .int y5_3), (2, .int y5_2), (0, .ref 69), (1, .retAddr 28)]) rfl rfl rfl rfl ?_
                        refine ev_incR f_X12_inWords (nx := 112) (c := 1) (l := 2) (u := 137) rfl rfl (by decide) (by decide) l25_6 u35 rfl rfl (by decide) (by decide) rfl (fun z53 e53 l53 u53 => ?_)
                        refine ev_jmp f_X12_inWords (nx := 68) rfl rfl rfl ?_
                        refine ev_sub (lo := [(6, .int z53), (5, .int 1), (4, .int y12_4), (3, .int y5_3), (2, .int y5_2), (0, .ref 69), (1, .retAddr 28)]) rfl (t_sc rfl (t_sc rfl (t_sc rfl (t_sc rfl (t_sc rfl (t_sc rfl (t_sc rfl t_sn))))))) ?_
                        exact ih25 _ (by omega) gi43 gl43 gr43 (z53) (1) hI hX  (Int.le_trans (by decide : (1:Int) ≤ 2) l53) u53 (Int.le_trans (by decide : (0:Int) ≤ 1) (by decide : (1:Int) ≤ (1:Int32).toInt)) (by decide : (1:Int32).toInt ≤ (1:Int)) ((hC43.1 69 12 rfl).1.trans c25_0) ((hC43.1 69 13 rfl).1.trans c25_1) ((hC43.1 69 14 rfl).1.trans c25_2) (by omega) (by omega) rfl
                      · have r54 : w43.toInt ≠ (-1) := fun e => h50 (Int32.toInt_inj.mp (e.trans (by decide : ((-1):Int) = ((-1) : Int32).toInt)))
                        refine ev_ic f_X12_inWords (nx := 107) (v := 0) rfl (by decide) rfl ?_
                        refine ev_loc f_X12_inWords (nx := 109) (lo' := [(5, .int 0), (6, .int y25_6), (4, .int y12_4), (3, .int y5_3), (2, .int y5_2), (0, .ref 69), (1, .retAddr 28)]) rfl rfl rfl rfl ?_
                        refine ev_incR f_X12_inWords (nx := 112) (c := 1) (l := 2) (u := 137) rfl rfl (by decide) (by decide) l25_6 u35 rfl rfl (by decide) (by decide) rfl (fun z55 e55 l55 u55 => ?_)
                        refine ev_jmp f_X12_inWords (nx := 68) rfl rfl rfl ?_
                        refine ev_sub (lo := [(6, .int z55), (5, .int 0), (4, .int y12_4), (3, .int y5_3), (2, .int y5_2), (0, .ref 69), (1, .retAddr 28)]) rfl (t_sc rfl (t_sc rfl (t_sc rfl (t_sc rfl (t_sc rfl (t_sc rfl (t_sc rfl t_sn))))))) ?_
                        exact ih25 _ (by omega) gi43 gl43 gr43 (z55) (0) hI hX  (Int.le_trans (by decide : (1:Int) ≤ 2) l55) u55 (by decide : (0:Int) ≤ (0:Int32).toInt) (Int.le_trans (by decide : (0:Int32).toInt ≤ (0:Int)) (by decide : (0:Int) ≤ 1)) ((hC43.1 69 12 rfl).1.trans c25_0) ((hC43.1 69 13 rfl).1.trans c25_1) ((hC43.1 69 14 rfl).1.trans c25_2) (by omega) (by omega) rfl
                    · have r56 : z45.toInt < (gi43 69 11).toInt := Int32.lt_iff_toInt_lt.mp (t_nle h47)
                      have u57 : z45.toInt ≤ 899 := t_ltu (t_nle h47) u46 rfl
                      refine ev_loc f_X12_byteAt (nx := 9) rfl rfl rfl rfl ?_
                      refine ev_getR f_X12_byteAt (nx := 12) rfl (hI.wf.s rfl) rfl rfl (hI.wf.r rfl) rfl rfl ?_
                      refine ev_loc f_X12_byteAt (nx := 13) rfl rfl rfl rfl ?_
                      have l59 : (0:Int) ≤ z45.toInt := (by omega)
                      refine ev_baldT f_X12_byteAt (nx := 14) rfl (hI.wf.s rfl) rfl l59 (by decide) u57 (by decide) rfl (fun w58 e58 => ?_)
                      refine ev_sp f_X12_byteAt (nx := 17) (v := 255) rfl (by decide) rfl ?_
                      refine ev_andE f_X12_byteAt (nx := 18) (c := 255) rfl (by decide) (by decide) rfl (fun z60 e60 l60 u60 => ?_)
                      refine ev_jmp f_X12_byteAt (nx := 22) rfl rfl rfl ?_
                      refine ev_retK1 f_X12_byteAt rfl rfl rfl ?_
                      refine ev_if f_X12_inWords (t1 := 102) (t2 := 106) rfl rfl rfl (fun h61 => ?_) (fun h61 => ?_)
                      · have r62 : w43.toInt = z60.toInt := t_eqi h61
                        have u63 : w43.toInt ≤ 255 := t_equ h61 u60
                        have l64 : 0 ≤ w43.toInt := t_eql h61 l60
                        refine ev_ic f_X12_inWords (nx := 103) (v := 1) rfl (by decide) rfl ?_
                        refine ev_jmp f_X12_inWords (nx := 107) rfl rfl rfl ?_
                        refine ev_loc f_X12_inWords (nx := 109) (lo' := [(5, .int 1), (6, .int y25_6), (4, .int y12_4), (3, .int y5_3), (2, .int y5_2), (0, .ref 69), (1, .retAddr 28)]) rfl rfl rfl rfl ?_
                        refine ev_incR f_X12_inWords (nx := 112) (c := 1) (l := 2) (u := 137) rfl rfl (by decide) (by decide) l25_6 u35 rfl rfl (by decide) (by decide) rfl (fun z65 e65 l65 u65 => ?_)
                        refine ev_jmp f_X12_inWords (nx := 68) rfl rfl rfl ?_
                        refine ev_sub (lo := [(6, .int z65), (5, .int 1), (4, .int y12_4), (3, .int y5_3), (2, .int y5_2), (0, .ref 69), (1, .retAddr 28)]) rfl (t_sc rfl (t_sc rfl (t_sc rfl (t_sc rfl (t_sc rfl (t_sc rfl (t_sc rfl t_sn))))))) ?_
                        exact ih25 _ (by omega) gi43 gl43 gr43 (z65) (1) hI hX  (Int.le_trans (by decide : (1:Int) ≤ 2) l65) u65 (Int.le_trans (by decide : (0:Int) ≤ 1) (by decide : (1:Int) ≤ (1:Int32).toInt)) (by decide : (1:Int32).toInt ≤ (1:Int)) ((hC43.1 69 12 rfl).1.trans c25_0) ((hC43.1 69 13 rfl).1.trans c25_1) ((hC43.1 69 14 rfl).1.trans c25_2) (by omega) (by omega) rfl
                      · have r66 : w43.toInt ≠ z60.toInt := t_nei h61
                        refine ev_ic f_X12_inWords (nx := 107) (v := 0) rfl (by decide) rfl ?_
                        refine ev_loc f_X12_inWords (nx := 109) (lo' := [(5, .int 0), (6, .int y25_6), (4, .int y12_4), (3, .int y5_3), (2, .int y5_2), (0, .ref 69), (1, .retAddr 28)]) rfl rfl rfl rfl ?_
                        refine ev_incR f_X12_inWords (nx := 112) (c := 1) (l := 2) (u := 137) rfl rfl (by decide) (by decide) l25_6 u35 rfl rfl (by decide) (by decide) rfl (fun z67 e67 l67 u67 => ?_)
                        refine ev_jmp f_X12_inWords (nx := 68) rfl rfl rfl ?_
                        refine ev_sub (lo := [(6, .int z67), (5, .int 0), (4, .int y12_4), (3, .int y5_3), (2, .int y5_2), (0, .ref 69), (1, .retAddr 28)]) rfl (t_sc rfl (t_sc rfl (t_sc rfl (t_sc rfl (t_sc rfl (t_sc rfl (t_sc rfl t_sn))))))) ?_
                        exact ih25 _ (by omega) gi43 gl43 gr43 (z67) (0) hI hX  (Int.le_trans (by decide : (1:Int) ≤ 2) l67) u67 (by decide : (0:Int) ≤ (0:Int32).toInt) (Int.le_trans (by decide : (0:Int32).toInt ≤ (0:Int)) (by decide : (0:Int) ≤ 1)) ((hC43.1 69 12 rfl).1.trans c25_0) ((hC43.1 69 13 rfl).1.trans c25_1) ((hC43.1 69 14 rfl).1.trans c25_2) (by omega) (by omega) rfl
              refine ev_sub (lo := [(6, .int y5_3), (5, .int 1), (4, .int y12_4), (3, .int y5_3), (2, .int y5_2), (0, .ref 69), (1, .retAddr 28)]) rfl (t_sc rfl (t_sc rfl (t_sc rfl (t_sc rfl (t_sc rfl (t_sc rfl (t_sc rfl t_sn))))))) ?_
              exact L25 _ gi13 gl13 gr13 (y5_3) (1) hI hX  l5_3 u11 (Int.le_trans (by decide : (0:Int) ≤ 1) (by decide : (1:Int) ≤ (1:Int32).toInt)) (by decide : (1:Int32).toInt ≤ (1:Int)) ((hC13.1 69 12 rfl).1.trans c12_0) rfl rfl (by omega) (by omega) rfl
            · have r68 : z17.toInt ≠ z20.toInt := t_nei h21
              refine ev_ic f_X12_inWords (nx := 63) (v := 0) rfl (by decide) rfl ?_
              refine ev_loc f_X12_inWords (nx := 65) (lo' := [(5, .int 0), (4, .int y12_4), (3, .int y5_3), (2, .int y5_2), (0, .ref 69), (1, .retAddr 28)]) rfl rfl rfl rfl ?_
              refine ev_loc f_X12_inWords (nx := 66) rfl rfl rfl rfl ?_
              refine ev_loc f_X12_inWords (nx := 68) (lo' := [(6, .int y5_3), (5, .int 0), (4, .int y12_4), (3, .int y5_3), (2, .int y5_2), (0, .ref 69), (1, .retAddr 28)]) rfl rfl rfl rfl ?_
              have L69 : ∀ (m69 : Nat) (gi69 : Nat → Nat → Int32) (gl69 : Nat → Nat → Int64) (gr69 : Nat → Nat → Value) (y69_6 : Int32) (y69_5 : Int32), t_I sh gi69 gr69 → t_X wl_m_inWords sh gi gl gr gi69 gl69 gr69 → 1 ≤ y69_6.toInt → y69_6.toInt ≤ 137 → 0 ≤ y69_5.toInt → y69_5.toInt ≤ 1 → gi69 69 12 = (gi 69 12) → gi69 69 13 = (gi13 69 13) → gi69 69 14 = (gi13 69 14) → y5_3.toInt ≤ y12_4.toInt → y5_3.toInt ≤ y69_6.toInt → (138 - y69_6.toInt).toNat = m69 → x_Ev X (d + 5) n_X12_inWords 68 [(6, .int y69_6), (5, .int y69_5), (4, .int y12_4), (3, .int y5_3), (2, .int y5_2), (0, .ref 69), (1, .retAddr 28)] [] (sh, gi69, gl69, gr69) (t_PI wl_m_inWords sh gi gl gr (-2147483648) 2147483647 (Q_m_inWords gi gl gr)) := by
                intro m69
                induction m69 using Nat.strongRecOn with
                | _ m69 ih69 =>
                intro gi69 gl69 gr69 y69_6 y69_5 hI hX l69_6 u69_6 l69_5 u69_5 c69_0 c69_1 c69_2 j69_0 j69_1 hm69
                refine ev_loc f_X12_inWords (nx := 70) rfl rfl rfl rfl ?_
                refine ev_loc f_X12_inWords (nx := 72) rfl rfl rfl rfl ?_
                refine ev_if f_X12_inWords (t1 := 115) (t2 := 75) rfl rfl rfl (fun h70 => ?_) (fun h70 => ?_)
                · have r71 : y12_4.toInt ≤ y69_6.toInt := Int32.le_iff_toInt_le.mp h70
                  refine ev_loc f_X12_inWords (nx := 117) rfl rfl rfl rfl ?_
                  refine ev_if f_X12_inWords (t1 := 122) (t2 := 120) rfl rfl rfl (fun h72 => ?_) (fun h72 => ?_)
                  · have u73 : y69_5.toInt ≤ 0 := t_equ h72 (by decide : (0:Int32).toInt ≤ (0:Int))
                    refine ev_incN f_X12_inWords (nx := 125) rfl rfl (by decide) rfl (fun z74 => ?_)
                    refine ev_loc f_X12_inWords (nx := 127) rfl rfl rfl rfl ?_
                    refine ev_ic f_X12_inWords (nx := 128) (v := 1) rfl (by decide) rfl ?_
                    refine ev_addC f_X12_inWords (nx := 129) (c := 1) (l := 2) (u := 138) rfl (by decide) l12_4 u12_4 rfl rfl (by decide) (by decide) rfl (fun z75 e75 l75 u75 => ?_)
                    refine ev_loc f_X12_inWords (nx := 130) (lo' := [(3, .int z75), (2, .int z74), (6, .int y69_6), (5, .int y69_5), (4, .int y12_4), (0, .ref 69), (1, .retAddr 28)]) rfl rfl rfl rfl ?_
                    refine ev_jmp f_X12_inWords (nx := 14) rfl rfl rfl ?_
                    refine ev_sub (lo := [(3, .int z75), (2, .int z74), (0, .ref 69), (1, .retAddr 28)]) rfl (t_sc rfl (t_sc rfl (t_sc rfl (t_sc rfl t_sn)))) ?_
                    exact ih5 _ (by omega) gi69 gl69 gr69 (z75) (z74) hI hX  (Int.le_trans (by decide : (1:Int) ≤ 2) l75) u75 c69_0 rfl
                  · have r76 : y69_5.toInt ≠ 0 := fun e => h72 (Int32.toInt_inj.mp (e.trans (by decide : (0:Int) = (0 : Int32).toInt)))
                    have l77 : 1 ≤ y69_5.toInt := t_nel h72 l69_5 rfl rfl
                    refine ev_loc f_X12_inWords (nx := 121) rfl rfl rfl rfl ?_
                    exact ev_ret f_X12_inWords rfl rfl rfl ⟨_, _, _, rfl, hI, hX, ⟨_, rfl, (t_lo y5_2), (t_hi y5_2), (show 0 ≤ y5_2.toInt → (gi 69 12).toInt = 2 from (by omega))⟩⟩
                · have r78 : y69_6.toInt < y12_4.toInt := Int32.lt_iff_toInt_lt.mp (t_nle h70)
                  have u79 : y69_6.toInt ≤ 136 := t_ltu (t_nle h70) u12_4 rfl
                  have l80 : 2 ≤ y12_4.toInt := t_ltl (t_nle h70) l69_6 rfl
                  refine ev_loc f_X12_inWords (nx := 77) rfl rfl rfl rfl ?_
                  refine ev_if f_X12_inWords (t1 := 115) (t2 := 80) rfl rfl rfl (fun h81 => ?_) (fun h81 => ?_)
                  · have u82 : y69_5.toInt ≤ 0 := t_equ h81 (by decide : (0:Int32).toInt ≤ (0:Int))
                    refine ev_loc f_X12_inWords (nx := 117) rfl rfl rfl rfl ?_
                    refine ev_t f_X12_inWords (t1 := 122) (t2 := 120) rfl rfl rfl (t_eqT u82 l69_5 (by decide : (0:Int32).toInt ≤ (0:Int)) (by decide : (0:Int) ≤ (0:Int32).toInt)) ?_
                    refine ev_incN f_X12_inWords (nx := 125) rfl rfl (by decide) rfl (fun z83 => ?_)
                    refine ev_loc f_X12_inWords (nx := 127) rfl rfl rfl rfl ?_
                    refine ev_ic f_X12_inWords (nx := 128) (v := 1) rfl (by decide) rfl ?_
                    refine ev_addC f_X12_inWords (nx := 129) (c := 1) (l := 3) (u := 138) rfl (by decide) l80 u12_4 rfl rfl (by decide) (by decide) rfl (fun z84 e84 l84 u84 => ?_)
                    refine ev_loc f_X12_inWords (nx := 130) (lo' := [(3, .int z84), (2, .int z83), (6, .int y69_6), (5, .int y69_5), (4, .int y12_4), (0, .ref 69), (1, .retAddr 28)]) rfl rfl rfl rfl ?_
                    refine ev_jmp f_X12_inWords (nx := 14) rfl rfl rfl ?_
                    refine ev_sub (lo := [(3, .int z84), (2, .int z83), (0, .ref 69), (1, .retAddr 28)]) rfl (t_sc rfl (t_sc rfl (t_sc rfl (t_sc rfl t_sn)))) ?_
                    exact ih5 _ (by omega) gi69 gl69 gr69 (z84) (z83) hI hX  (Int.le_trans (by decide : (1:Int) ≤ 3) l84) u84 c69_0 rfl
                  · have r85 : y69_5.toInt ≠ 0 := fun e => h81 (Int32.toInt_inj.mp (e.trans (by decide : (0:Int) = (0 : Int32).toInt)))
                    have l86 : 1 ≤ y69_5.toInt := t_nel h81 l69_5 rfl rfl
                    refine ev_loc f_X12_inWords (nx := 81) rfl rfl rfl rfl ?_
                    refine ev_loc f_X12_inWords (nx := 83) rfl rfl rfl rfl ?_
                    refine ev_qI f_X12_inWords (nx := 86) (r := []) rfl rfl rfl rfl rfl rfl rfl (c_m_charAt hI (y69_6) (Int.le_trans (by decide : (0:Int) ≤ 1) l69_6) (Int.le_trans u79 (by decide : (136:Int) ≤ 137))) rfl hX rfl (fun w87 gi87 gl87 gr87 l87 u87 hI hX hC87 q87 => ?_)
                    have q87 : (w87 = x_kc y69_6.toNatClampNeg) ∧ (w87.toInt ≠ 32 → y69_6.toInt + 1 ≤ 137) ∧ 0 ≤ w87.toInt ∧ w87.toInt ≤ 127 := q87
                    refine ev_loc f_X12_inWords (nx := 87) rfl rfl rfl rfl ?_
                    refine ev_loc f_X12_inWords (nx := 88) rfl rfl rfl rfl ?_
                    refine ev_gvI f_X12_inWords (nx := 91) (w := (gi13 69 13)) rfl (hI.wf.s rfl) rfl rfl ((hC87.1 69 13 rfl).1.trans c69_1) rfl ?_
                    refine ev_loc f_X12_inWords (nx := 93) rfl rfl rfl rfl ?_
                    refine ev_addR f_X12_inWords (nx := 94) (l := 1) (u := 1036) rfl l19 u19 l69_6 u79 rfl rfl (by decide) (by decide) rfl (fun z88 e88 l88 u88 => ?_)
                    refine ev_loc f_X12_inWords (nx := 95) rfl rfl rfl rfl ?_
                    refine ev_subR f_X12_inWords (nx := 96) (l := (-136)) (u := 1035) rfl l88 u88 l5_3 u11 rfl rfl (by decide) (by decide) rfl (fun z89 e89 l89 u89 => ?_)
                    refine ev_inV2 f_X12_inWords (nx := 99) (lo2 := [(0, .ref 69), (1, .int z89)]) rfl rfl rfl rfl f_X12_byteAt (hI.wf.s rfl) rfl rfl rfl rfl rfl ?_
                    refine ev_loc f_X12_byteAt (nx := 1) rfl rfl rfl rfl ?_
                    refine ev_loc f_X12_byteAt (nx := 2) rfl rfl rfl rfl ?_
                    refine ev_getI f_X12_byteAt (nx := 5) rfl (hI.wf.s rfl) rfl rfl rfl ?_
                    obtain ⟨l90, u90⟩ := hI.b (hI.wf.s (k := 69) rfl) (t_bdK rfl : t_bd 11 11 = some (0, 900))
                    refine ev_if f_X12_byteAt (t1 := 21) (t2 := 8) rfl rfl rfl (fun h91 => ?_) (fun h91 => ?_)
                    · have r92 : (gi87 69 11).toInt ≤ z89.toInt := Int32.le_iff_toInt_le.mp h91
                      have l93 : 0 ≤ z89.toInt := t_lel h91 l90
                      refine ev_ic f_X12_byteAt (nx := 22) (v := -1) rfl (by decide) rfl ?_
                      refine ev_retK1 f_X12_byteAt rfl rfl rfl ?_
                      refine ev_if f_X12_inWords (t1 := 102) (t2 := 106) rfl rfl rfl (fun h94 => ?_) (fun h94 => ?_)
                      · have u95 : w87.toInt ≤ (-1) := t_equ h94 (by decide : ((-1):Int32).toInt ≤ ((-1):Int))
                        have l96 : (-1) ≤ w87.toInt := t_eql h94 (by decide : ((-1):Int) ≤ ((-1):Int32).toInt)
                        refine ev_ic f_X12_inWords (nx := 103) (v := 1) rfl (by decide) rfl ?_
                        refine ev_jmp f_X12_inWords (nx := 107) rfl rfl rfl ?_
                        refine ev_loc f_X12_inWords (nx := 109) (lo' := [(5, .int 1), (6, .int y69_6), (4, .int y12_4), (3, .int y5_3), (2, .int y5_2), (0, .ref 69), (1, .retAddr 28)]) rfl rfl rfl rfl ?_
                        refine ev_incR f_X12_inWords (nx := 112) (c := 1) (l := 2) (u := 137) rfl rfl (by decide) (by decide) l69_6 u79 rfl rfl (by decide) (by decide) rfl (fun z97 e97 l97 u97 => ?_)
                        refine ev_jmp f_X12_inWords (nx := 68) rfl rfl rfl ?_
                        refine ev_sub (lo := [(6, .int z97), (5, .int 1), (4, .int y12_4), (3, .int y5_3), (2, .int y5_2), (0, .ref 69), (1, .retAddr 28)]) rfl (t_sc rfl (t_sc rfl (t_sc rfl (t_sc rfl (t_sc rfl (t_sc rfl (t_sc rfl t_sn))))))) ?_
                        exact ih69 _ (by omega) gi87 gl87 gr87 (z97) (1) hI hX  (Int.le_trans (by decide : (1:Int) ≤ 2) l97) u97 (Int.le_trans (by decide : (0:Int) ≤ 1) (by decide : (1:Int) ≤ (1:Int32).toInt)) (by decide : (1:Int32).toInt ≤ (1:Int)) ((hC87.1 69 12 rfl).1.trans c69_0) ((hC87.1 69 13 rfl).1.trans c69_1) ((hC87.1 69 14 rfl).1.trans c69_2) (by omega) (by omega) rfl
                      · have r98 : w87.toInt ≠ (-1) := fun e => h94 (Int32.toInt_inj.mp (e.trans (by decide : ((-1):Int) = ((-1) : Int32).toInt)))
                        refine ev_ic f_X12_inWords (nx := 107) (v := 0) rfl (by decide) rfl ?_
                        refine ev_loc f_X12_inWords (nx := 109) (lo' := [(5, .int 0), (6, .int y69_6), (4, .int y12_4), (3, .int y5_3), (2, .int y5_2), (0, .ref 69), (1, .retAddr 28)]) rfl rfl rfl rfl ?_
                        refine ev_incR f_X12_inWords (nx := 112) (c := 1) (l := 2) (u := 137) rfl rfl (by decide) (by decide) l69_6 u79 rfl rfl (by decide) (by decide) rfl (fun z99 e99 l99 u99 => ?_)
                        refine ev_jmp f_X12_inWords (nx := 68) rfl rfl rfl ?_
                        refine ev_sub (lo := [(6, .int z99), (5, .int 0), (4, .int y12_4), (3, .int y5_3), (2, .int y5_2), (0, .ref 69), (1, .retAddr 28)]) rfl (t_sc rfl (t_sc rfl (t_sc rfl (t_sc rfl (t_sc rfl (t_sc rfl (t_sc rfl t_sn))))))) ?_
                        exact ih69 _ (by omega) gi87 gl87 gr87 (z99) (0) hI hX  (Int.le_trans (by decide : (1:Int) ≤ 2) l99) u99 (by decide : (0:Int) ≤ (0:Int32).toInt) (Int.le_trans (by decide : (0:Int32).toInt ≤ (0:Int)) (by decide : (0:Int) ≤ 1)) ((hC87.1 69 12 rfl).1.trans c69_0) ((hC87.1 69 13 rfl).1.trans c69_1) ((hC87.1 69 14 rfl).1.trans c69_2) (by omega) (by omega) rfl
                    · have r100 : z89.toInt < (gi87 69 11).toInt := Int32.lt_iff_toInt_lt.mp (t_nle h91)
                      have u101 : z89.toInt ≤ 899 := t_ltu (t_nle h91) u90 rfl
                      refine ev_loc f_X12_byteAt (nx := 9) rfl rfl rfl rfl ?_
                      refine ev_getR f_X12_byteAt (nx := 12) rfl (hI.wf.s rfl) rfl rfl (hI.wf.r rfl) rfl rfl ?_
                      refine ev_loc f_X12_byteAt (nx := 13) rfl rfl rfl rfl ?_
                      have l103 : (0:Int) ≤ z89.toInt := (by omega)
                      refine ev_baldT f_X12_byteAt (nx := 14) rfl (hI.wf.s rfl) rfl l103 (by decide) u101 (by decide) rfl (fun w102 e102 => ?_)
                      refine ev_sp f_X12_byteAt (nx := 17) (v := 255) rfl (by decide) rfl ?_
                      refine ev_andE f_X12_byteAt (nx := 18) (c := 255) rfl (by decide) (by decide) rfl (fun z104 e104 l104 u104 => ?_)
                      refine ev_jmp f_X12_byteAt (nx := 22) rfl rfl rfl ?_
                      refine ev_retK1 f_X12_byteAt rfl rfl rfl ?_
                      refine ev_if f_X12_inWords (t1 := 102) (t2 := 106) rfl rfl rfl (fun h105 => ?_) (fun h105 => ?_)
                      · have r106 : w87.toInt = z104.toInt := t_eqi h105
                        have u107 : w87.toInt ≤ 255 := t_equ h105 u104
                        have l108 : 0 ≤ w87.toInt := t_eql h105 l104
                        refine ev_ic f_X12_inWords (nx := 103) (v := 1) rfl (by decide) rfl ?_
                        refine ev_jmp f_X12_inWords (nx := 107) rfl rfl rfl ?_
                        refine ev_loc f_X12_inWords (nx := 109) (lo' := [(5, .int 1), (6, .int y69_6), (4, .int y12_4), (3, .int y5_3), (2, .int y5_2), (0, .ref 69), (1, .retAddr 28)]) rfl rfl rfl rfl ?_
                        refine ev_incR f_X12_inWords (nx := 112) (c := 1) (l := 2) (u := 137) rfl rfl (by decide) (by decide) l69_6 u79 rfl rfl (by decide) (by decide) rfl (fun z109 e109 l109 u109 => ?_)
                        refine ev_jmp f_X12_inWords (nx := 68) rfl rfl rfl ?_
                        refine ev_sub (lo := [(6, .int z109), (5, .int 1), (4, .int y12_4), (3, .int y5_3), (2, .int y5_2), (0, .ref 69), (1, .retAddr 28)]) rfl (t_sc rfl (t_sc rfl (t_sc rfl (t_sc rfl (t_sc rfl (t_sc rfl (t_sc rfl t_sn))))))) ?_
                        exact ih69 _ (by omega) gi87 gl87 gr87 (z109) (1) hI hX  (Int.le_trans (by decide : (1:Int) ≤ 2) l109) u109 (Int.le_trans (by decide : (0:Int) ≤ 1) (by decide : (1:Int) ≤ (1:Int32).toInt)) (by decide : (1:Int32).toInt ≤ (1:Int)) ((hC87.1 69 12 rfl).1.trans c69_0) ((hC87.1 69 13 rfl).1.trans c69_1) ((hC87.1 69 14 rfl).1.trans c69_2) (by omega) (by omega) rfl
                      · have r110 : w87.toInt ≠ z104.toInt := t_nei h105
                        refine ev_ic f_X12_inWords (nx := 107) (v := 0) rfl (by decide) rfl ?_
                        refine ev_loc f_X12_inWords (nx := 109) (lo' := [(5, .int 0), (6, .int y69_6), (4, .int y12_4), (3, .int y5_3), (2, .int y5_2), (0, .ref 69), (1, .retAddr 28)]) rfl rfl rfl rfl ?_
                        refine ev_incR f_X12_inWords (nx := 112) (c := 1) (l := 2) (u := 137) rfl rfl (by decide) (by decide) l69_6 u79 rfl rfl (by decide) (by decide) rfl (fun z111 e111 l111 u111 => ?_)
                        refine ev_jmp f_X12_inWords (nx := 68) rfl rfl rfl ?_
                        refine ev_sub (lo := [(6, .int z111), (5, .int 0), (4, .int y12_4), (3, .int y5_3), (2, .int y5_2), (0, .ref 69), (1, .retAddr 28)]) rfl (t_sc rfl (t_sc rfl (t_sc rfl (t_sc rfl (t_sc rfl (t_sc rfl (t_sc rfl t_sn))))))) ?_
                        exact ih69 _ (by omega) gi87 gl87 gr87 (z111) (0) hI hX  (Int.le_trans (by decide : (1:Int) ≤ 2) l111) u111 (by decide : (0:Int) ≤ (0:Int32).toInt) (Int.le_trans (by decide : (0:Int32).toInt ≤ (0:Int)) (by decide : (0:Int) ≤ 1)) ((hC87.1 69 12 rfl).1.trans c69_0) ((hC87.1 69 13 rfl).1.trans c69_1) ((hC87.1 69 14 rfl).1.trans c69_2) (by omega) (by omega) rfl
              refine ev_sub (lo := [(6, .int y5_3), (5, .int 0), (4, .int y12_4), (3, .int y5_3), (2, .int y5_2), (0, .ref 69), (1, .retAddr 28)]) rfl (t_sc rfl (t_sc rfl (t_sc rfl (t_sc rfl (t_sc rfl (t_sc rfl (t_sc rfl t_sn))))))) ?_
              exact L69 _ gi13 gl13 gr13 (y5_3) (0) hI hX  l5_3 u11 (by decide : (0:Int) ≤ (0:Int32).toInt) (Int.le_trans (by decide : (0:Int32).toInt ≤ (0:Int)) (by decide : (0:Int) ≤ 1)) ((hC13.1 69 12 rfl).1.trans c12_0) rfl rfl (by omega) (by omega) rfl
          · have r112 : w13.toInt ≠ 32 := fun e => h14 (Int32.toInt_inj.mp (e.trans (by decide : (32:Int) = (32 : Int32).toInt)))
            refine ev_incR f_X12_inWords (nx := 39) (c := 1) (l := 2) (u := 138) rfl rfl (by decide) (by decide) l12_4 u12_4 rfl rfl (by decide) (by decide) rfl (fun z113 e113 l113 u113 => ?_)
            refine ev_jmp f_X12_inWords (nx := 25) rfl rfl rfl ?_
            refine ev_sub (lo := [(4, .int z113), (3, .int y5_3), (2, .int y5_2), (0, .ref 69), (1, .retAddr 28)]) rfl (t_sc rfl (t_sc rfl (t_sc rfl (t_sc rfl (t_sc rfl t_sn))))) ?_
            exact ih12 _ (by omega) gi13 gl13 gr13 (z113) hI hX  (Int.le_trans (by decide : (1:Int) ≤ 2) l113) (by omega : z113.toInt ≤ (137:Int)) ((hC13.1 69 12 rfl).1.trans c12_0) (by omega) rfl
        refine ev_sub (lo := [(4, .int y5_3), (3, .int y5_3), (2, .int y5_2), (0, .ref 69), (1, .retAddr 28)]) rfl (t_sc rfl (t_sc rfl (t_sc rfl (t_sc rfl (t_sc rfl t_sn))))) ?_
        exact L12 _ gi6 gl6 gr6 (y5_3) hI hX  l5_3 u11 ((hC6.1 69 12 rfl).1.trans c5_0) (by omega) rfl
    refine ev_sub (lo := [(3, .int 1), (2, .int 0), (0, .ref 69), (1, .retAddr 28)]) rfl (t_sc rfl (t_sc rfl (t_sc rfl (t_sc rfl t_sn)))) ?_
    exact L5 _ gi gl gr (1) (0) hI hX  (by decide : (1:Int) ≤ (1:Int32).toInt) (Int.le_trans (by decide : (1:Int32).toInt ≤ (1:Int)) (by decide : (1:Int) ≤ 138)) rfl rfl
  · have r114 : (gi 69 12).toInt ≠ 2 := fun e => h2 (Int32.toInt_inj.mp (e.trans (by decide : (2:Int) = (2 : Int32).toInt)))
    refine ev_ic f_X12_inWords (nx := 9) (v := -1) rfl (by decide) rfl ?_
    exact ev_ret f_X12_inWords rfl rfl rfl ⟨_, _, _, rfl, hI, hX, ⟨_, rfl, (Int.le_trans (by decide : ((-2147483648):Int) ≤ (-1)) (by decide : ((-1):Int) ≤ ((-1):Int32).toInt)), (Int.le_trans (by decide : ((-1):Int32).toInt ≤ ((-1):Int)) (by decide : ((-1):Int) ≤ 2147483647)), (show 0 ≤ (-1) → (gi 69 12).toInt = 2 from (by omega))⟩⟩
noncomputable def wl_m_ahead : List (Nat × Nat) := [(69, 12), (69, 13), (69, 14), (69, 15)]
noncomputable def Q_m_ahead (gi : Nat → Nat → Int32) (gl : Nat → Nat → Int64) (gr : Nat → Nat → Value) : (Nat → Nat → Int32) → (Nat → Nat → Int64) → (Nat → Nat → Value) → Prop := fun (gi2 : Nat → Nat → Int32) (gl2 : Nat → Nat → Int64) (gr2 : Nat → Nat → Value) => (gi 69 14).toInt ≤ (gi2 69 14).toInt ∧ ((gi2 69 12).toInt ≠ 0 → (gi 69 14).toInt < (gi2 69 14).toInt)
theorem c_m_ahead {X : x_Ext} {d : Nat} {sh : List (Nat ⊕ (Nat × Nat))} {gi : Nat → Nat → Int32} {gl : Nat → Nat → Int64} {gr : Nat → Nat → Value} (hI : t_I sh gi gr) : x_Me X (d + 2) n_X12_ahead [.ref 69] (sh, gi, gl, gr) (t_PN wl_m_ahead sh gi gl gr (Q_m_ahead gi gl gr)) := by
  have hX : t_X wl_m_ahead sh gi gl gr gi gl gr := t_X.rf
  refine me_i f_X12_ahead (hI.wf.s rfl) rfl rfl rfl ?_
  obtain ⟨l1, u1⟩ := hI.b (hI.wf.s (k := 69) rfl) (t_bdK rfl : t_bd 11 12 = some (0, 4))
  obtain ⟨l2, u2⟩ := hI.b (hI.wf.s (k := 69) rfl) (t_bdK rfl : t_bd 11 14 = some (0, 900))
  have L3 : ∀ (gi3 : Nat → Nat → Int32) (gl3 : Nat → Nat → Int64) (gr3 : Nat → Nat → Value), t_I sh gi3 gr3 → t_X wl_m_ahead sh gi gl gr gi3 gl3 gr3 → (gi 69 14).toInt ≤ (gi3 69 14).toInt → x_Ev X (d + 2) n_X12_ahead 39 [(0, .ref 69)] [] (sh, gi3, gl3, gr3) (t_PN wl_m_ahead sh gi gl gr (Q_m_ahead gi gl gr)) := by
    intro gi3 gl3 gr3 hI hX j3_0
    obtain ⟨l4, u4⟩ := hI.b (hI.wf.s (k := 69) rfl) (t_bdK rfl : t_bd 11 12 = some (0, 4))
    obtain ⟨l5, u5⟩ := hI.b (hI.wf.s (k := 69) rfl) (t_bdK rfl : t_bd 11 14 = some (0, 900))
    refine ev_loc f_X12_ahead (nx := 40) rfl rfl rfl rfl ?_
    refine ev_loc f_X12_ahead (nx := 41) rfl rfl rfl rfl ?_
    refine ev_gvI f_X12_ahead (nx := 44) (w := (gi3 69 14)) rfl (hI.wf.s rfl) rfl rfl rfl rfl ?_
    refine ev_putIT f_X12_ahead (nx := 47) rfl (hI.wf.s rfl) rfl rfl rfl (hI.putB (hI.wf.s rfl) rfl rfl l5 (by decide) u5 (by decide)) (hX.upI rfl) (fun g6 e6 hI hX => ?_)
    refine ev_loc f_X12_ahead (nx := 48) rfl rfl rfl rfl ?_
    refine ev_loc f_X12_ahead (nx := 49) rfl rfl rfl rfl ?_
    refine ev_gvI f_X12_ahead (nx := 52) (w := (gi3 69 14)) rfl (hI.wf.s rfl) rfl rfl ((by rw [e6]; exact x_up2_off (Or.inr (by decide)) : g6 69 14 = gi3 69 14).trans rfl) rfl ?_
    refine ev_inV2 f_X12_ahead (nx := 55) (lo2 := [(0, .ref 69), (1, .int (gi3 69 14))]) rfl rfl rfl rfl f_X12_byteAt (hI.wf.s rfl) rfl rfl rfl rfl rfl ?_
    refine ev_loc f_X12_byteAt (nx := 1) rfl rfl rfl rfl ?_
    refine ev_loc f_X12_byteAt (nx := 2) rfl rfl rfl rfl ?_
    refine ev_getI f_X12_byteAt (nx := 5) rfl (hI.wf.s rfl) rfl rfl rfl ?_
    obtain ⟨l7, u7⟩ := hI.b (hI.wf.s (k := 69) rfl) (t_bdK rfl : t_bd 11 11 = some (0, 900))
    refine ev_if f_X12_byteAt (t1 := 21) (t2 := 8) rfl rfl rfl (fun h8 => ?_) (fun h8 => ?_)
    · have r9 : (g6 69 11).toInt ≤ (gi3 69 14).toInt := Int32.le_iff_toInt_le.mp h8
      refine ev_ic f_X12_byteAt (nx := 22) (v := -1) rfl (by decide) rfl ?_
      refine ev_retK1 f_X12_byteAt rfl rfl rfl ?_
      refine ev_loc f_X12_ahead (nx := 56) (lo' := [(1, .int (-1)), (0, .ref 69)]) rfl rfl rfl rfl ?_
      refine ev_loc f_X12_ahead (nx := 57) rfl rfl rfl rfl ?_
      refine ev_loc f_X12_ahead (nx := 58) rfl rfl rfl rfl ?_
      refine ev_putIT f_X12_ahead (nx := 61) rfl (hI.wf.s rfl) rfl rfl rfl (hI.put0 (hI.wf.s rfl) rfl rfl) (hX.upI rfl) (fun g10 e10 hI hX => ?_)
      refine ev_loc f_X12_ahead (nx := 62) rfl rfl rfl rfl ?_
      refine ev_ic f_X12_ahead (nx := 63) (v := -1) rfl (by decide) rfl ?_
      refine ev_t f_X12_ahead (t1 := 66) (t2 := 74) rfl rfl rfl (by decide) ?_
      refine ev_loc f_X12_ahead (nx := 67) rfl rfl rfl rfl ?_
      refine ev_ic f_X12_ahead (nx := 68) (v := 0) rfl (by decide) rfl ?_
      refine ev_putIT f_X12_ahead (nx := 71) rfl (hI.wf.s rfl) rfl rfl rfl (hI.putB (hI.wf.s rfl) rfl rfl (by decide : (0:Int) ≤ (0:Int32).toInt) (by decide) (by decide : (0:Int32).toInt ≤ (0:Int)) (by decide)) (hX.upI rfl) (fun g11 e11 hI hX => ?_)
      refine ev_jmp f_X12_ahead (nx := 263) rfl rfl rfl ?_
      exact ev_ret f_X12_ahead rfl rfl rfl ⟨_, _, _, rfl, hI, hX, ⟨rfl, (show (gi 69 14).toInt ≤ (g11 69 14).toInt ∧ ((g11 69 12).toInt ≠ 0 → (gi 69 14).toInt < (g11 69 14).toInt) from (by have ff12 : (g11 69 14).toInt = (gi3 69 14).toInt := congrArg Int32.toInt ((by rw [e11]; exact x_up2_off (Or.inr (by decide)) : g11 69 14 = g10 69 14).trans ((by rw [e10]; exact x_up2_off (Or.inr (by decide)) : g10 69 14 = g6 69 14).trans ((by rw [e6]; exact x_up2_off (Or.inr (by decide)) : g6 69 14 = gi3 69 14).trans rfl))); have ff13 : (g11 69 12).toInt = 0 := (congrArg Int32.toInt (by rw [e11]; exact x_up2_at _ _ _ _ : g11 69 12 = 0)).trans (by decide); omega))⟩⟩
    · have r14 : (gi3 69 14).toInt < (g6 69 11).toInt := Int32.lt_iff_toInt_lt.mp (t_nle h8)
      have u15 : (gi3 69 14).toInt ≤ 899 := t_ltu (t_nle h8) u7 rfl
      have l16 : 1 ≤ (g6 69 11).toInt := t_ltl (t_nle h8) l5 rfl
      refine ev_loc f_X12_byteAt (nx := 9) rfl rfl rfl rfl ?_
      refine ev_getR f_X12_byteAt (nx := 12) rfl (hI.wf.s rfl) rfl rfl (hI.wf.r rfl) rfl rfl ?_
      refine ev_loc f_X12_byteAt (nx := 13) rfl rfl rfl rfl ?_
      refine ev_baldT f_X12_byteAt (nx := 14) rfl (hI.wf.s rfl) rfl l5 (by decide) u15 (by decide) rfl (fun w17 e17 => ?_)
      refine ev_sp f_X12_byteAt (nx := 17) (v := 255) rfl (by decide) rfl ?_
      refine ev_andE f_X12_byteAt (nx := 18) (c := 255) rfl (by decide) (by decide) rfl (fun z18 e18 l18 u18 => ?_)
      refine ev_jmp f_X12_byteAt (nx := 22) rfl rfl rfl ?_
      refine ev_retK1 f_X12_byteAt rfl rfl rfl ?_
      refine ev_loc f_X12_ahead (nx := 56) (lo' := [(1, .int z18), (0, .ref 69)]) rfl rfl rfl rfl ?_
      refine ev_loc f_X12_ahead (nx := 57) rfl rfl rfl rfl ?_
      refine ev_loc f_X12_ahead (nx := 58) rfl rfl rfl rfl ?_
      refine ev_putIT f_X12_ahead (nx := 61) rfl (hI.wf.s rfl) rfl rfl rfl (hI.put0 (hI.wf.s rfl) rfl rfl) (hX.upI rfl) (fun g19 e19 hI hX => ?_)
      refine ev_loc f_X12_ahead (nx := 62) rfl rfl rfl rfl ?_
      refine ev_ic f_X12_ahead (nx := 63) (v := -1) rfl (by decide) rfl ?_
      refine ev_f f_X12_ahead (t1 := 66) (t2 := 74) rfl rfl rfl (t_neT' (by decide : ((-1):Int32).toInt ≤ ((-1):Int)) l18 (by decide)) ?_
      refine ev_loc f_X12_ahead (nx := 75) rfl rfl rfl rfl ?_
      refine ev_inS1 f_X12_ahead (nx := 78) (lo2 := [(0, .int z18)]) rfl rfl rfl rfl f_X12_isSmall rfl rfl rfl rfl ?_
      refine ev_loc f_X12_isSmall (nx := 1) rfl rfl rfl rfl ?_
      refine ev_bp f_X12_isSmall (nx := 3) (v := 97) rfl (by decide) rfl ?_
      refine ev_if f_X12_isSmall (t1 := 16) (t2 := 6) rfl rfl rfl (fun h20 => ?_) (fun h20 => ?_)
      · have u21 : z18.toInt ≤ 96 := t_ltu h20 (by decide : (97:Int32).toInt ≤ (97:Int)) rfl
        refine ev_ic f_X12_isSmall (nx := 17) (v := 0) rfl (by decide) rfl ?_
        refine ev_retK1 f_X12_isSmall rfl rfl rfl ?_
        refine ev_t f_X12_ahead (t1 := 116) (t2 := 81) rfl rfl rfl (by decide) ?_
        refine ev_loc f_X12_ahead (nx := 117) rfl rfl rfl rfl ?_
        refine ev_inS1 f_X12_ahead (nx := 120) (lo2 := [(0, .int z18)]) rfl rfl rfl rfl f_X12_isDigit rfl rfl rfl rfl ?_
        refine ev_loc f_X12_isDigit (nx := 1) rfl rfl rfl rfl ?_
        refine ev_bp f_X12_isDigit (nx := 3) (v := 48) rfl (by decide) rfl ?_
        refine ev_if f_X12_isDigit (t1 := 16) (t2 := 6) rfl rfl rfl (fun h22 => ?_) (fun h22 => ?_)
        · have u23 : z18.toInt ≤ 47 := t_ltu h22 (by decide : (48:Int32).toInt ≤ (48:Int)) rfl
          refine ev_ic f_X12_isDigit (nx := 17) (v := 0) rfl (by decide) rfl ?_
          refine ev_retK1 f_X12_isDigit rfl rfl rfl ?_
          refine ev_t f_X12_ahead (t1 := 208) (t2 := 123) rfl rfl rfl (by decide) ?_
          refine ev_loc f_X12_ahead (nx := 209) rfl rfl rfl rfl ?_
          refine ev_alu f_X12_ahead (nx := 210) rfl rfl rfl rfl ?_
          refine ev_gvI f_X12_ahead (nx := 213) (w := (gi3 69 14)) rfl (hI.wf.s rfl) rfl rfl ((by rw [e19]; exact x_up2_off (Or.inr (by decide)) : g19 69 14 = g6 69 14).trans ((by rw [e6]; exact x_up2_off (Or.inr (by decide)) : g6 69 14 = gi3 69 14).trans rfl)) rfl ?_
          refine ev_ic f_X12_ahead (nx := 214) (v := 1) rfl (by decide) rfl ?_
          refine ev_addC f_X12_ahead (nx := 215) (c := 1) (l := 1) (u := 900) rfl (by decide) l5 u15 rfl rfl (by decide) (by decide) rfl (fun z24 e24 l24 u24 => ?_)
          refine ev_putIT f_X12_ahead (nx := 218) rfl (hI.wf.s rfl) rfl rfl rfl (hI.putB (hI.wf.s rfl) rfl rfl l24 (by decide) u24 (by decide)) (hX.upI rfl) (fun g25 e25 hI hX => ?_)
          refine ev_loc f_X12_ahead (nx := 219) rfl rfl rfl rfl ?_
          refine ev_loc f_X12_ahead (nx := 220) rfl rfl rfl rfl ?_
          refine ev_bp f_X12_ahead (nx := 222) (v := 59) rfl (by decide) rfl ?_
          refine ev_f f_X12_ahead (t1 := 255) (t2 := 225) rfl rfl rfl (t_neT u23 (by decide : (59:Int) ≤ (59:Int32).toInt) (by decide)) ?_
          refine ev_loc f_X12_ahead (nx := 226) rfl rfl rfl rfl ?_
          refine ev_bp f_X12_ahead (nx := 228) (v := 60) rfl (by decide) rfl ?_
          refine ev_f f_X12_ahead (t1 := 255) (t2 := 231) rfl rfl rfl (t_neT u23 (by decide : (60:Int) ≤ (60:Int32).toInt) (by decide)) ?_
          refine ev_loc f_X12_ahead (nx := 232) rfl rfl rfl rfl ?_
          refine ev_bp f_X12_ahead (nx := 234) (v := 62) rfl (by decide) rfl ?_
          refine ev_f f_X12_ahead (t1 := 255) (t2 := 237) rfl rfl rfl (t_neT u23 (by decide : (62:Int) ≤ (62:Int32).toInt) (by decide)) ?_
          refine ev_loc f_X12_ahead (nx := 238) rfl rfl rfl rfl ?_
          refine ev_bp f_X12_ahead (nx := 240) (v := 61) rfl (by decide) rfl ?_
          refine ev_f f_X12_ahead (t1 := 255) (t2 := 243) rfl rfl rfl (t_neT u23 (by decide : (61:Int) ≤ (61:Int32).toInt) (by decide)) ?_
          refine ev_loc f_X12_ahead (nx := 244) rfl rfl rfl rfl ?_
          refine ev_bp f_X12_ahead (nx := 246) (v := 40) rfl (by decide) rfl ?_
          refine ev_if f_X12_ahead (t1 := 255) (t2 := 249) rfl rfl rfl (fun h26 => ?_) (fun h26 => ?_)
          · have u27 : z18.toInt ≤ 40 := t_equ h26 (by decide : (40:Int32).toInt ≤ (40:Int))
            have l28 : 40 ≤ z18.toInt := t_eql h26 (by decide : (40:Int) ≤ (40:Int32).toInt)
            refine ev_ic f_X12_ahead (nx := 256) (v := 4) rfl (by decide) rfl ?_
            refine ev_jmp f_X12_ahead (nx := 260) rfl rfl rfl ?_
            refine ev_putIT f_X12_ahead (nx := 263) rfl (hI.wf.s rfl) rfl rfl rfl (hI.putB (hI.wf.s rfl) rfl rfl (by decide : (4:Int) ≤ (4:Int32).toInt) (by decide) (by decide : (4:Int32).toInt ≤ (4:Int)) (by decide)) (hX.upI rfl) (fun g29 e29 hI hX => ?_)
            exact ev_ret f_X12_ahead rfl rfl rfl ⟨_, _, _, rfl, hI, hX, ⟨rfl, (show (gi 69 14).toInt ≤ (g29 69 14).toInt ∧ ((g29 69 12).toInt ≠ 0 → (gi 69 14).toInt < (g29 69 14).toInt) from (by have ff30 : (g29 69 14).toInt = z24.toInt := congrArg Int32.toInt ((by rw [e29]; exact x_up2_off (Or.inr (by decide)) : g29 69 14 = g25 69 14).trans (by rw [e25]; exact x_up2_at _ _ _ _ : g25 69 14 = z24)); have ff31 : (g29 69 12).toInt = 4 := (congrArg Int32.toInt (by rw [e29]; exact x_up2_at _ _ _ _ : g29 69 12 = 4)).trans (by decide); omega))⟩⟩
          · have r32 : z18.toInt ≠ 40 := fun e => h26 (Int32.toInt_inj.mp (e.trans (by decide : (40:Int) = (40 : Int32).toInt)))
            refine ev_loc f_X12_ahead (nx := 250) rfl rfl rfl rfl ?_
            refine ev_bp f_X12_ahead (nx := 252) (v := 41) rfl (by decide) rfl ?_
            refine ev_if f_X12_ahead (t1 := 255) (t2 := 259) rfl rfl rfl (fun h33 => ?_) (fun h33 => ?_)
            · have u34 : z18.toInt ≤ 41 := t_equ h33 (by decide : (41:Int32).toInt ≤ (41:Int))
              have l35 : 41 ≤ z18.toInt := t_eql h33 (by decide : (41:Int) ≤ (41:Int32).toInt)
              refine ev_ic f_X12_ahead (nx := 256) (v := 4) rfl (by decide) rfl ?_
              refine ev_jmp f_X12_ahead (nx := 260) rfl rfl rfl ?_
              refine ev_putIT f_X12_ahead (nx := 263) rfl (hI.wf.s rfl) rfl rfl rfl (hI.putB (hI.wf.s rfl) rfl rfl (by decide : (4:Int) ≤ (4:Int32).toInt) (by decide) (by decide : (4:Int32).toInt ≤ (4:Int)) (by decide)) (hX.upI rfl) (fun g36 e36 hI hX => ?_)
              exact ev_ret f_X12_ahead rfl rfl rfl ⟨_, _, _, rfl, hI, hX, ⟨rfl, (show (gi 69 14).toInt ≤ (g36 69 14).toInt ∧ ((g36 69 12).toInt ≠ 0 → (gi 69 14).toInt < (g36 69 14).toInt) from (by have ff37 : (g36 69 14).toInt = z24.toInt := congrArg Int32.toInt ((by rw [e36]; exact x_up2_off (Or.inr (by decide)) : g36 69 14 = g25 69 14).trans (by rw [e25]; exact x_up2_at _ _ _ _ : g25 69 14 = z24)); have ff38 : (g36 69 12).toInt = 4 := (congrArg Int32.toInt (by rw [e36]; exact x_up2_at _ _ _ _ : g36 69 12 = 4)).trans (by decide); omega))⟩⟩
            · have r39 : z18.toInt ≠ 41 := fun e => h33 (Int32.toInt_inj.mp (e.trans (by decide : (41:Int) = (41 : Int32).toInt)))
              refine ev_ic f_X12_ahead (nx := 260) (v := 1) rfl (by decide) rfl ?_
              refine ev_putIT f_X12_ahead (nx := 263) rfl (hI.wf.s rfl) rfl rfl rfl (hI.putB (hI.wf.s rfl) rfl rfl (by decide : (1:Int) ≤ (1:Int32).toInt) (by decide) (by decide : (1:Int32).toInt ≤ (1:Int)) (by decide)) (hX.upI rfl) (fun g40 e40 hI hX => ?_)
              exact ev_ret f_X12_ahead rfl rfl rfl ⟨_, _, _, rfl, hI, hX, ⟨rfl, (show (gi 69 14).toInt ≤ (g40 69 14).toInt ∧ ((g40 69 12).toInt ≠ 0 → (gi 69 14).toInt < (g40 69 14).toInt) from (by have ff41 : (g40 69 14).toInt = z24.toInt := congrArg Int32.toInt ((by rw [e40]; exact x_up2_off (Or.inr (by decide)) : g40 69 14 = g25 69 14).trans (by rw [e25]; exact x_up2_at _ _ _ _ : g25 69 14 = z24)); have ff42 : (g40 69 12).toInt = 1 := (congrArg Int32.toInt (by rw [e40]; exact x_up2_at _ _ _ _ : g40 69 12 = 1)).trans (by decide); omega))⟩⟩
        · have l43 : 48 ≤ z18.toInt := t_lel (t_nlt h22) (by decide : (48:Int) ≤ (48:Int32).toInt)
          refine ev_loc f_X12_isDigit (nx := 7) rfl rfl rfl rfl ?_
          refine ev_bp f_X12_isDigit (nx := 9) (v := 57) rfl (by decide) rfl ?_
          refine ev_if f_X12_isDigit (t1 := 16) (t2 := 12) rfl rfl rfl (fun h44 => ?_) (fun h44 => ?_)
          · have l45 : 58 ≤ z18.toInt := t_ltl h44 (by decide : (57:Int) ≤ (57:Int32).toInt) rfl
            refine ev_ic f_X12_isDigit (nx := 17) (v := 0) rfl (by decide) rfl ?_
            refine ev_retK1 f_X12_isDigit rfl rfl rfl ?_
            refine ev_t f_X12_ahead (t1 := 208) (t2 := 123) rfl rfl rfl (by decide) ?_
            refine ev_loc f_X12_ahead (nx := 209) rfl rfl rfl rfl ?_
            refine ev_alu f_X12_ahead (nx := 210) rfl rfl rfl rfl ?_
            refine ev_gvI f_X12_ahead (nx := 213) (w := (gi3 69 14)) rfl (hI.wf.s rfl) rfl rfl ((by rw [e19]; exact x_up2_off (Or.inr (by decide)) : g19 69 14 = g6 69 14).trans ((by rw [e6]; exact x_up2_off (Or.inr (by decide)) : g6 69 14 = gi3 69 14).trans rfl)) rfl ?_
            refine ev_ic f_X12_ahead (nx := 214) (v := 1) rfl (by decide) rfl ?_
            refine ev_addC f_X12_ahead (nx := 215) (c := 1) (l := 1) (u := 900) rfl (by decide) l5 u15 rfl rfl (by decide) (by decide) rfl (fun z46 e46 l46 u46 => ?_)
            refine ev_putIT f_X12_ahead (nx := 218) rfl (hI.wf.s rfl) rfl rfl rfl (hI.putB (hI.wf.s rfl) rfl rfl l46 (by decide) u46 (by decide)) (hX.upI rfl) (fun g47 e47 hI hX => ?_)
            refine ev_loc f_X12_ahead (nx := 219) rfl rfl rfl rfl ?_
            refine ev_loc f_X12_ahead (nx := 220) rfl rfl rfl rfl ?_
            refine ev_bp f_X12_ahead (nx := 222) (v := 59) rfl (by decide) rfl ?_
            refine ev_if f_X12_ahead (t1 := 255) (t2 := 225) rfl rfl rfl (fun h48 => ?_) (fun h48 => ?_)
            · have u49 : z18.toInt ≤ 59 := t_equ h48 (by decide : (59:Int32).toInt ≤ (59:Int))
              have l50 : 59 ≤ z18.toInt := t_eql h48 (by decide : (59:Int) ≤ (59:Int32).toInt)
              refine ev_ic f_X12_ahead (nx := 256) (v := 4) rfl (by decide) rfl ?_
              refine ev_jmp f_X12_ahead (nx := 260) rfl rfl rfl ?_
              refine ev_putIT f_X12_ahead (nx := 263) rfl (hI.wf.s rfl) rfl rfl rfl (hI.putB (hI.wf.s rfl) rfl rfl (by decide : (4:Int) ≤ (4:Int32).toInt) (by decide) (by decide : (4:Int32).toInt ≤ (4:Int)) (by decide)) (hX.upI rfl) (fun g51 e51 hI hX => ?_)
              exact ev_ret f_X12_ahead rfl rfl rfl ⟨_, _, _, rfl, hI, hX, ⟨rfl, (show (gi 69 14).toInt ≤ (g51 69 14).toInt ∧ ((g51 69 12).toInt ≠ 0 → (gi 69 14).toInt < (g51 69 14).toInt) from (by have ff52 : (g51 69 14).toInt = z46.toInt := congrArg Int32.toInt ((by rw [e51]; exact x_up2_off (Or.inr (by decide)) : g51 69 14 = g47 69 14).trans (by rw [e47]; exact x_up2_at _ _ _ _ : g47 69 14 = z46)); have ff53 : (g51 69 12).toInt = 4 := (congrArg Int32.toInt (by rw [e51]; exact x_up2_at _ _ _ _ : g51 69 12 = 4)).trans (by decide); omega))⟩⟩
            · have r54 : z18.toInt ≠ 59 := fun e => h48 (Int32.toInt_inj.mp (e.trans (by decide : (59:Int) = (59 : Int32).toInt)))
              refine ev_loc f_X12_ahead (nx := 226) rfl rfl rfl rfl ?_
              refine ev_bp f_X12_ahead (nx := 228) (v := 60) rfl (by decide) rfl ?_
              refine ev_if f_X12_ahead (t1 := 255) (t2 := 231) rfl rfl rfl (fun h55 => ?_) (fun h55 => ?_)
              · have u56 : z18.toInt ≤ 60 := t_equ h55 (by decide : (60:Int32).toInt ≤ (60:Int))
                have l57 : 60 ≤ z18.toInt := t_eql h55 (by decide : (60:Int) ≤ (60:Int32).toInt)
                refine ev_ic f_X12_ahead (nx := 256) (v := 4) rfl (by decide) rfl ?_
                refine ev_jmp f_X12_ahead (nx := 260) rfl rfl rfl ?_
                refine ev_putIT f_X12_ahead (nx := 263) rfl (hI.wf.s rfl) rfl rfl rfl (hI.putB (hI.wf.s rfl) rfl rfl (by decide : (4:Int) ≤ (4:Int32).toInt) (by decide) (by decide : (4:Int32).toInt ≤ (4:Int)) (by decide)) (hX.upI rfl) (fun g58 e58 hI hX => ?_)
                exact ev_ret f_X12_ahead rfl rfl rfl ⟨_, _, _, rfl, hI, hX, ⟨rfl, (show (gi 69 14).toInt ≤ (g58 69 14).toInt ∧ ((g58 69 12).toInt ≠ 0 → (gi 69 14).toInt < (g58 69 14).toInt) from (by have ff59 : (g58 69 14).toInt = z46.toInt := congrArg Int32.toInt ((by rw [e58]; exact x_up2_off (Or.inr (by decide)) : g58 69 14 = g47 69 14).trans (by rw [e47]; exact x_up2_at _ _ _ _ : g47 69 14 = z46)); have ff60 : (g58 69 12).toInt = 4 := (congrArg Int32.toInt (by rw [e58]; exact x_up2_at _ _ _ _ : g58 69 12 = 4)).trans (by decide); omega))⟩⟩
              · have r61 : z18.toInt ≠ 60 := fun e => h55 (Int32.toInt_inj.mp (e.trans (by decide : (60:Int) = (60 : Int32).toInt)))
                refine ev_loc f_X12_ahead (nx := 232) rfl rfl rfl rfl ?_
                refine ev_bp f_X12_ahead (nx := 234) (v := 62) rfl (by decide) rfl ?_
                refine ev_if f_X12_ahead (t1 := 255) (t2 := 237) rfl rfl rfl (fun h62 => ?_) (fun h62 => ?_)
                · have u63 : z18.toInt ≤ 62 := t_equ h62 (by decide : (62:Int32).toInt ≤ (62:Int))
                  have l64 : 62 ≤ z18.toInt := t_eql h62 (by decide : (62:Int) ≤ (62:Int32).toInt)
                  refine ev_ic f_X12_ahead (nx := 256) (v := 4) rfl (by decide) rfl ?_
                  refine ev_jmp f_X12_ahead (nx := 260) rfl rfl rfl ?_
                  refine ev_putIT f_X12_ahead (nx := 263) rfl (hI.wf.s rfl) rfl rfl rfl (hI.putB (hI.wf.s rfl) rfl rfl (by decide : (4:Int) ≤ (4:Int32).toInt) (by decide) (by decide : (4:Int32).toInt ≤ (4:Int)) (by decide)) (hX.upI rfl) (fun g65 e65 hI hX => ?_)
                  exact ev_ret f_X12_ahead rfl rfl rfl ⟨_, _, _, rfl, hI, hX, ⟨rfl, (show (gi 69 14).toInt ≤ (g65 69 14).toInt ∧ ((g65 69 12).toInt ≠ 0 → (gi 69 14).toInt < (g65 69 14).toInt) from (by have ff66 : (g65 69 14).toInt = z46.toInt := congrArg Int32.toInt ((by rw [e65]; exact x_up2_off (Or.inr (by decide)) : g65 69 14 = g47 69 14).trans (by rw [e47]; exact x_up2_at _ _ _ _ : g47 69 14 = z46)); have ff67 : (g65 69 12).toInt = 4 := (congrArg Int32.toInt (by rw [e65]; exact x_up2_at _ _ _ _ : g65 69 12 = 4)).trans (by decide); omega))⟩⟩
                · have r68 : z18.toInt ≠ 62 := fun e => h62 (Int32.toInt_inj.mp (e.trans (by decide : (62:Int) = (62 : Int32).toInt)))
                  refine ev_loc f_X12_ahead (nx := 238) rfl rfl rfl rfl ?_
                  refine ev_bp f_X12_ahead (nx := 240) (v := 61) rfl (by decide) rfl ?_
                  refine ev_if f_X12_ahead (t1 := 255) (t2 := 243) rfl rfl rfl (fun h69 => ?_) (fun h69 => ?_)
                  · have u70 : z18.toInt ≤ 61 := t_equ h69 (by decide : (61:Int32).toInt ≤ (61:Int))
                    have l71 : 61 ≤ z18.toInt := t_eql h69 (by decide : (61:Int) ≤ (61:Int32).toInt)
                    refine ev_ic f_X12_ahead (nx := 256) (v := 4) rfl (by decide) rfl ?_
                    refine ev_jmp f_X12_ahead (nx := 260) rfl rfl rfl ?_
                    refine ev_putIT f_X12_ahead (nx := 263) rfl (hI.wf.s rfl) rfl rfl rfl (hI.putB (hI.wf.s rfl) rfl rfl (by decide : (4:Int) ≤ (4:Int32).toInt) (by decide) (by decide : (4:Int32).toInt ≤ (4:Int)) (by decide)) (hX.upI rfl) (fun g72 e72 hI hX => ?_)
                    exact ev_ret f_X12_ahead rfl rfl rfl ⟨_, _, _, rfl, hI, hX, ⟨rfl, (show (gi 69 14).toInt ≤ (g72 69 14).toInt ∧ ((g72 69 12).toInt ≠ 0 → (gi 69 14).toInt < (g72 69 14).toInt) from (by have ff73 : (g72 69 14).toInt = z46.toInt := congrArg Int32.toInt ((by rw [e72]; exact x_up2_off (Or.inr (by decide)) : g72 69 14 = g47 69 14).trans (by rw [e47]; exact x_up2_at _ _ _ _ : g47 69 14 = z46)); have ff74 : (g72 69 12).toInt = 4 := (congrArg Int32.toInt (by rw [e72]; exact x_up2_at _ _ _ _ : g72 69 12 = 4)).trans (by decide); omega))⟩⟩
                  · have r75 : z18.toInt ≠ 61 := fun e => h69 (Int32.toInt_inj.mp (e.trans (by decide : (61:Int) = (61 : Int32).toInt)))
                    refine ev_loc f_X12_ahead (nx := 244) rfl rfl rfl rfl ?_
                    refine ev_bp f_X12_ahead (nx := 246) (v := 40) rfl (by decide) rfl ?_
                    refine ev_f f_X12_ahead (t1 := 255) (t2 := 249) rfl rfl rfl (t_neT' (by decide : (40:Int32).toInt ≤ (40:Int)) l45 (by decide)) ?_
                    refine ev_loc f_X12_ahead (nx := 250) rfl rfl rfl rfl ?_
                    refine ev_bp f_X12_ahead (nx := 252) (v := 41) rfl (by decide) rfl ?_
                    refine ev_f f_X12_ahead (t1 := 255) (t2 := 259) rfl rfl rfl (t_neT' (by decide : (41:Int32).toInt ≤ (41:Int)) l45 (by decide)) ?_
                    refine ev_ic f_X12_ahead (nx := 260) (v := 1) rfl (by decide) rfl ?_
                    refine ev_putIT f_X12_ahead (nx := 263) rfl (hI.wf.s rfl) rfl rfl rfl (hI.putB (hI.wf.s rfl) rfl rfl (by decide : (1:Int) ≤ (1:Int32).toInt) (by decide) (by decide : (1:Int32).toInt ≤ (1:Int)) (by decide)) (hX.upI rfl) (fun g76 e76 hI hX => ?_)
                    exact ev_ret f_X12_ahead rfl rfl rfl ⟨_, _, _, rfl, hI, hX, ⟨rfl, (show (gi 69 14).toInt ≤ (g76 69 14).toInt ∧ ((g76 69 12).toInt ≠ 0 → (gi 69 14).toInt < (g76 69 14).toInt) from (by have ff77 : (g76 69 14).toInt = z46.toInt := congrArg Int32.toInt ((by rw [e76]; exact x_up2_off (Or.inr (by decide)) : g76 69 14 = g47 69 14).trans (by rw [e47]; exact x_up2_at _ _ _ _ : g47 69 14 = z46)); have ff78 : (g76 69 12).toInt = 1 := (congrArg Int32.toInt (by rw [e76]; exact x_up2_at _ _ _ _ : g76 69 12 = 1)).trans (by decide); omega))⟩⟩
          · have u79 : z18.toInt ≤ 57 := t_leu (t_nlt h44) (by decide : (57:Int32).toInt ≤ (57:Int))
            refine ev_ic f_X12_isDigit (nx := 13) (v := 1) rfl (by decide) rfl ?_
            refine ev_jmp f_X12_isDigit (nx := 17) rfl rfl rfl ?_
            refine ev_retK1 f_X12_isDigit rfl rfl rfl ?_
            refine ev_f f_X12_ahead (t1 := 208) (t2 := 123) rfl rfl rfl (by decide) ?_
            refine ev_loc f_X12_ahead (nx := 124) rfl rfl rfl rfl ?_
            refine ev_ic f_X12_ahead (nx := 125) (v := 0) rfl (by decide) rfl ?_
            refine ev_putIT f_X12_ahead (nx := 128) rfl (hI.wf.s rfl) rfl rfl rfl (hI.put0 (hI.wf.s rfl) rfl rfl) (hX.upI rfl) (fun g80 e80 hI hX => ?_)
            refine ev_loc f_X12_ahead (nx := 129) rfl rfl rfl rfl ?_
            refine ev_loc f_X12_ahead (nx := 130) rfl rfl rfl rfl ?_
            refine ev_gvI f_X12_ahead (nx := 133) (w := (gi3 69 14)) rfl (hI.wf.s rfl) rfl rfl ((by rw [e80]; exact x_up2_off (Or.inr (by decide)) : g80 69 14 = g19 69 14).trans ((by rw [e19]; exact x_up2_off (Or.inr (by decide)) : g19 69 14 = g6 69 14).trans ((by rw [e6]; exact x_up2_off (Or.inr (by decide)) : g6 69 14 = gi3 69 14).trans rfl))) rfl ?_
            refine ev_inV2 f_X12_ahead (nx := 136) (lo2 := [(0, .ref 69), (1, .int (gi3 69 14))]) rfl rfl rfl rfl f_X12_byteAt (hI.wf.s rfl) rfl rfl rfl rfl rfl ?_
            refine ev_loc f_X12_byteAt (nx := 1) rfl rfl rfl rfl ?_
            refine ev_loc f_X12_byteAt (nx := 2) rfl rfl rfl rfl ?_
            refine ev_gvI f_X12_byteAt (nx := 5) (w := (g6 69 11)) rfl (hI.wf.s rfl) rfl rfl ((by rw [e80]; exact x_up2_off (Or.inr (by decide)) : g80 69 11 = g19 69 11).trans ((by rw [e19]; exact x_up2_off (Or.inr (by decide)) : g19 69 11 = g6 69 11).trans rfl)) rfl ?_
            refine ev_if f_X12_byteAt (t1 := 21) (t2 := 8) rfl rfl rfl (fun h81 => ?_) (fun h81 => ?_)
            · have r82 : (g6 69 11).toInt ≤ (gi3 69 14).toInt := Int32.le_iff_toInt_le.mp h81
              have u83 : (g6 69 11).toInt ≤ 899 := t_leu h81 u15
              have l84 : 1 ≤ (gi3 69 14).toInt := t_lel h81 l16
              refine ev_ic f_X12_byteAt (nx := 22) (v := -1) rfl (by decide) rfl ?_
              refine ev_retK1 f_X12_byteAt rfl rfl rfl ?_
              refine ev_inS1 f_X12_ahead (nx := 139) (lo2 := [(0, .int (-1))]) rfl rfl rfl rfl f_X12_isDigit rfl rfl rfl rfl ?_
              refine ev_loc f_X12_isDigit (nx := 1) rfl rfl rfl rfl ?_
              refine ev_bp f_X12_isDigit (nx := 3) (v := 48) rfl (by decide) rfl ?_
              refine ev_t f_X12_isDigit (t1 := 16) (t2 := 6) rfl rfl rfl (by decide) ?_
              refine ev_ic f_X12_isDigit (nx := 17) (v := 0) rfl (by decide) rfl ?_
              refine ev_retK1 f_X12_isDigit rfl rfl rfl ?_
              refine ev_t f_X12_ahead (t1 := 183) (t2 := 142) rfl rfl rfl (by decide) ?_
              refine ev_loc f_X12_ahead (nx := 184) rfl rfl rfl rfl ?_
              refine ev_loc f_X12_ahead (nx := 185) rfl rfl rfl rfl ?_
              refine ev_gvI f_X12_ahead (nx := 188) (w := (gi3 69 14)) rfl (hI.wf.s rfl) rfl rfl ((by rw [e80]; exact x_up2_off (Or.inr (by decide)) : g80 69 14 = g19 69 14).trans ((by rw [e19]; exact x_up2_off (Or.inr (by decide)) : g19 69 14 = g6 69 14).trans ((by rw [e6]; exact x_up2_off (Or.inr (by decide)) : g6 69 14 = gi3 69 14).trans rfl))) rfl ?_
              refine ev_loc f_X12_ahead (nx := 189) rfl rfl rfl rfl ?_
              refine ev_gvI f_X12_ahead (nx := 192) (w := (gi3 69 14)) rfl (hI.wf.s rfl) rfl rfl ((by rw [e80]; exact x_up2_off (Or.inr (by decide)) : g80 69 13 = g19 69 13).trans ((by rw [e19]; exact x_up2_off (Or.inr (by decide)) : g19 69 13 = g6 69 13).trans (by rw [e6]; exact x_up2_at _ _ _ _ : g6 69 13 = (gi3 69 14)))) rfl ?_
              refine ev_subR f_X12_ahead (nx := 193) (l := (-898)) (u := 898) rfl l84 u15 l84 u15 rfl rfl (by decide) (by decide) rfl (fun z85 e85 l85 u85 => ?_)
              refine ev_ic f_X12_ahead (nx := 194) (v := 4) rfl (by decide) rfl ?_
              refine ev_if f_X12_ahead (t1 := 201) (t2 := 197) rfl rfl rfl (fun h86 => ?_) (fun h86 => ?_)
              · have u87 : z85.toInt ≤ 4 := t_leu h86 (by decide : (4:Int32).toInt ≤ (4:Int))
                refine ev_ic f_X12_ahead (nx := 202) (v := 3) rfl (by decide) rfl ?_
                refine ev_putIT f_X12_ahead (nx := 205) rfl (hI.wf.s rfl) rfl rfl rfl (hI.putB (hI.wf.s rfl) rfl rfl (by decide : (3:Int) ≤ (3:Int32).toInt) (by decide) (by decide : (3:Int32).toInt ≤ (3:Int)) (by decide)) (hX.upI rfl) (fun g88 e88 hI hX => ?_)
                refine ev_jmp f_X12_ahead (nx := 263) rfl rfl rfl ?_
                exact ev_ret f_X12_ahead rfl rfl rfl ⟨_, _, _, rfl, hI, hX, ⟨rfl, (show (gi 69 14).toInt ≤ (g88 69 14).toInt ∧ ((g88 69 12).toInt ≠ 0 → (gi 69 14).toInt < (g88 69 14).toInt) from (by have ff89 : (g88 69 14).toInt = (gi3 69 14).toInt := congrArg Int32.toInt ((by rw [e88]; exact x_up2_off (Or.inr (by decide)) : g88 69 14 = g80 69 14).trans ((by rw [e80]; exact x_up2_off (Or.inr (by decide)) : g80 69 14 = g19 69 14).trans ((by rw [e19]; exact x_up2_off (Or.inr (by decide)) : g19 69 14 = g6 69 14).trans ((by rw [e6]; exact x_up2_off (Or.inr (by decide)) : g6 69 14 = gi3 69 14).trans rfl)))); have ff90 : (g88 69 12).toInt = 3 := (congrArg Int32.toInt (by rw [e88]; exact x_up2_at _ _ _ _ : g88 69 12 = 3)).trans (by decide); omega))⟩⟩
              · have l91 : 5 ≤ z85.toInt := t_ltl (t_nle h86) (by decide : (4:Int) ≤ (4:Int32).toInt) rfl
                have u92 : (gi3 69 14).toInt ≤ 894 := by have := u15; omega
                refine ev_ic f_X12_ahead (nx := 198) (v := 1) rfl (by decide) rfl ?_
                refine ev_jmp f_X12_ahead (nx := 202) rfl rfl rfl ?_
                refine ev_putIT f_X12_ahead (nx := 205) rfl (hI.wf.s rfl) rfl rfl rfl (hI.putB (hI.wf.s rfl) rfl rfl (by decide : (1:Int) ≤ (1:Int32).toInt) (by decide) (by decide : (1:Int32).toInt ≤ (1:Int)) (by decide)) (hX.upI rfl) (fun g93 e93 hI hX => ?_)
                refine ev_jmp f_X12_ahead (nx := 263) rfl rfl rfl ?_
                exact ev_ret f_X12_ahead rfl rfl rfl ⟨_, _, _, rfl, hI, hX, ⟨rfl, (show (gi 69 14).toInt ≤ (g93 69 14).toInt ∧ ((g93 69 12).toInt ≠ 0 → (gi 69 14).toInt < (g93 69 14).toInt) from (by have ff94 : (g93 69 14).toInt = (gi3 69 14).toInt := congrArg Int32.toInt ((by rw [e93]; exact x_up2_off (Or.inr (by decide)) : g93 69 14 = g80 69 14).trans ((by rw [e80]; exact x_up2_off (Or.inr (by decide)) : g80 69 14 = g19 69 14).trans ((by rw [e19]; exact x_up2_off (Or.inr (by decide)) : g19 69 14 = g6 69 14).trans ((by rw [e6]; exact x_up2_off (Or.inr (by decide)) : g6 69 14 = gi3 69 14).trans rfl)))); have ff95 : (g93 69 12).toInt = 1 := (congrArg Int32.toInt (by rw [e93]; exact x_up2_at _ _ _ _ : g93 69 12 = 1)).trans (by decide); omega))⟩⟩
            · have r96 : (gi3 69 14).toInt < (g6 69 11).toInt := Int32.lt_iff_toInt_lt.mp (t_nle h81)
              refine ev_loc f_X12_byteAt (nx := 9) rfl rfl rfl rfl ?_
              refine ev_getR f_X12_byteAt (nx := 12) rfl (hI.wf.s rfl) rfl rfl (hI.wf.r rfl) rfl rfl ?_
              refine ev_loc f_X12_byteAt (nx := 13) rfl rfl rfl rfl ?_
              refine ev_baldT f_X12_byteAt (nx := 14) rfl (hI.wf.s rfl) rfl l5 (by decide) u15 (by decide) rfl (fun w97 e97 => ?_)
              rw [e97.trans ((by rw [e80]; exact x_up2_off (Or.inl (by decide)) : g80 76 (gi3 69 14).toNatClampNeg = g19 76 (gi3 69 14).toNatClampNeg).trans ((by rw [e19]; exact x_up2_off (Or.inl (by decide)) : g19 76 (gi3 69 14).toNatClampNeg = g6 76 (gi3 69 14).toNatClampNeg).trans e17.symm))]
              refine ev_sp f_X12_byteAt (nx := 17) (v := 255) rfl (by decide) rfl ?_
              refine ev_andE f_X12_byteAt (nx := 18) (c := 255) rfl (by decide) (by decide) rfl (fun z98 e98 l98 u98 => ?_)
              rw [e98.trans e18.symm]
              refine ev_jmp f_X12_byteAt (nx := 22) rfl rfl rfl ?_
              refine ev_retK1 f_X12_byteAt rfl rfl rfl ?_
              refine ev_inS1 f_X12_ahead (nx := 139) (lo2 := [(0, .int z18)]) rfl rfl rfl rfl f_X12_isDigit rfl rfl rfl rfl ?_
              refine ev_loc f_X12_isDigit (nx := 1) rfl rfl rfl rfl ?_
              refine ev_bp f_X12_isDigit (nx := 3) (v := 48) rfl (by decide) rfl ?_
              refine ev_f f_X12_isDigit (t1 := 16) (t2 := 6) rfl rfl rfl (t_ltF (by decide : (48:Int32).toInt ≤ (48:Int)) l43 (by decide)) ?_
              refine ev_loc f_X12_isDigit (nx := 7) rfl rfl rfl rfl ?_
              refine ev_bp f_X12_isDigit (nx := 9) (v := 57) rfl (by decide) rfl ?_
              refine ev_f f_X12_isDigit (t1 := 16) (t2 := 12) rfl rfl rfl (t_ltF u79 (by decide : (57:Int) ≤ (57:Int32).toInt) (by decide)) ?_
              refine ev_ic f_X12_isDigit (nx := 13) (v := 1) rfl (by decide) rfl ?_
              refine ev_jmp f_X12_isDigit (nx := 17) rfl rfl rfl ?_
              refine ev_retK1 f_X12_isDigit rfl rfl rfl ?_
              refine ev_f f_X12_ahead (t1 := 183) (t2 := 142) rfl rfl rfl (by decide) ?_
              refine ev_loc f_X12_ahead (nx := 143) rfl rfl rfl rfl ?_
              refine ev_ldI f_X12_ahead (nx := 145) (v := 100000) rfl (by decide) rfl ?_
              refine ev_bp f_X12_ahead (nx := 147) (v := 10) rfl (by decide) rfl ?_
              refine ev_loc f_X12_ahead (nx := 148) rfl rfl rfl rfl ?_
              refine ev_gvI f_X12_ahead (nx := 151) (w := 0) rfl (hI.wf.s rfl) rfl rfl (by rw [e80]; exact x_up2_at _ _ _ _ : g80 69 15 = 0) rfl ?_
              refine ev_aluvI f_X12_ahead (nx := 152) (w := 0) rfl rfl rfl (by decide) rfl ?_
              refine ev_loc f_X12_ahead (nx := 153) rfl rfl rfl rfl ?_
              refine ev_loc f_X12_ahead (nx := 154) rfl rfl rfl rfl ?_
              refine ev_gvI f_X12_ahead (nx := 157) (w := (gi3 69 14)) rfl (hI.wf.s rfl) rfl rfl ((by rw [e80]; exact x_up2_off (Or.inr (by decide)) : g80 69 14 = g19 69 14).trans ((by rw [e19]; exact x_up2_off (Or.inr (by decide)) : g19 69 14 = g6 69 14).trans ((by rw [e6]; exact x_up2_off (Or.inr (by decide)) : g6 69 14 = gi3 69 14).trans rfl))) rfl ?_
              refine ev_inV2 f_X12_ahead (nx := 160) (lo2 := [(0, .ref 69), (1, .int (gi3 69 14))]) rfl rfl rfl rfl f_X12_byteAt (hI.wf.s rfl) rfl rfl rfl rfl rfl ?_
              refine ev_loc f_X12_byteAt (nx := 1) rfl rfl rfl rfl ?_
              refine ev_loc f_X12_byteAt (nx := 2) rfl rfl rfl rfl ?_
              refine ev_gvI f_X12_byteAt (nx := 5) (w := (g6 69 11)) rfl (hI.wf.s rfl) rfl rfl ((by rw [e80]; exact x_up2_off (Or.inr (by decide)) : g80 69 11 = g19 69 11).trans ((by rw [e19]; exact x_up2_off (Or.inr (by decide)) : g19 69 11 = g6 69 11).trans rfl)) rfl ?_
              refine ev_if f_X12_byteAt (t1 := 21) (t2 := 8) rfl rfl rfl (fun h99 => ?_) (fun h99 => ?_)
              · have r100 : (g6 69 11).toInt ≤ (gi3 69 14).toInt := Int32.le_iff_toInt_le.mp h99
                have u101 : (g6 69 11).toInt ≤ 899 := t_leu h99 u15
                have l102 : 1 ≤ (gi3 69 14).toInt := t_lel h99 l16
                refine ev_ic f_X12_byteAt (nx := 22) (v := -1) rfl (by decide) rfl ?_
                refine ev_retK1 f_X12_byteAt rfl rfl rfl ?_
                refine ev_aluvI f_X12_ahead (nx := 161) (w := -1) rfl rfl rfl (by decide) rfl ?_
                refine ev_bp f_X12_ahead (nx := 163) (v := 48) rfl (by decide) rfl ?_
                refine ev_aluvI f_X12_ahead (nx := 164) (w := -49) rfl rfl rfl (by decide) rfl ?_
                refine ev_mmR f_X12_ahead (nx := 167) (l := (-49)) (u := (-49)) rfl rfl rfl (by omega) rfl (by decide : (100000:Int) ≤ (100000:Int32).toInt) (by decide : (100000:Int32).toInt ≤ (100000:Int)) (by decide : ((-49):Int) ≤ ((-49):Int32).toInt) (by decide : ((-49):Int32).toInt ≤ ((-49):Int)) (by decide) (by decide) rfl (fun z103 l103 u103 => ?_)
                refine ev_putIT f_X12_ahead (nx := 170) rfl (hI.wf.s rfl) rfl rfl rfl (hI.put0 (hI.wf.s rfl) rfl rfl) (hX.upI rfl) (fun g104 e104 hI hX => ?_)
                refine ev_loc f_X12_ahead (nx := 171) rfl rfl rfl rfl ?_
                refine ev_alu f_X12_ahead (nx := 172) rfl rfl rfl rfl ?_
                refine ev_gvI f_X12_ahead (nx := 175) (w := (gi3 69 14)) rfl (hI.wf.s rfl) rfl rfl ((by rw [e104]; exact x_up2_off (Or.inr (by decide)) : g104 69 14 = g80 69 14).trans ((by rw [e80]; exact x_up2_off (Or.inr (by decide)) : g80 69 14 = g19 69 14).trans ((by rw [e19]; exact x_up2_off (Or.inr (by decide)) : g19 69 14 = g6 69 14).trans ((by rw [e6]; exact x_up2_off (Or.inr (by decide)) : g6 69 14 = gi3 69 14).trans rfl)))) rfl ?_
                refine ev_ic f_X12_ahead (nx := 176) (v := 1) rfl (by decide) rfl ?_
                refine ev_addC f_X12_ahead (nx := 177) (c := 1) (l := 2) (u := 900) rfl (by decide) l102 u15 rfl rfl (by decide) (by decide) rfl (fun z105 e105 l105 u105 => ?_)
                refine ev_putIT f_X12_ahead (nx := 180) rfl (hI.wf.s rfl) rfl rfl rfl (hI.putB (hI.wf.s rfl) rfl rfl l105 (by decide) u105 (by decide)) (hX.upI rfl) (fun g106 e106 hI hX => ?_)
                refine ev_jmp f_X12_ahead (nx := 128) rfl rfl rfl ?_
                have L107 : ∀ (m107 : Nat) (gi107 : Nat → Nat → Int32) (gl107 : Nat → Nat → Int64) (gr107 : Nat → Nat → Value), t_I sh gi107 gr107 → t_X wl_m_ahead sh gi gl gr gi107 gl107 gr107 → gi107 69 11 = (g6 69 11) → gi107 69 12 = (gi3 69 12) → gi107 69 13 = (gi3 69 14) → (gi 69 14).toInt < (gi107 69 14).toInt → (900 - (gi107 69 14).toInt).toNat = m107 → x_Ev X (d + 2) n_X12_ahead 128 [(1, .int z18), (0, .ref 69)] [] (sh, gi107, gl107, gr107) (t_PN wl_m_ahead sh gi gl gr (Q_m_ahead gi gl gr)) := by
                  intro m107
                  induction m107 using Nat.strongRecOn with
                  | _ m107 ih107 =>
                  intro gi107 gl107 gr107 hI hX c107_0 c107_1 c107_2 j107_0 hm107
                  obtain ⟨l108, u108⟩ := hI.b (hI.wf.s (k := 69) rfl) (t_bdK rfl : t_bd 11 14 = some (0, 900))
                  refine ev_loc f_X12_ahead (nx := 129) rfl rfl rfl rfl ?_
                  refine ev_loc f_X12_ahead (nx := 130) rfl rfl rfl rfl ?_
                  refine ev_gvI f_X12_ahead (nx := 133) (w := (gi107 69 14)) rfl (hI.wf.s rfl) rfl rfl rfl rfl ?_
                  refine ev_inV2 f_X12_ahead (nx := 136) (lo2 := [(0, .ref 69), (1, .int (gi107 69 14))]) rfl rfl rfl rfl f_X12_byteAt (hI.wf.s rfl) rfl rfl rfl rfl rfl ?_
                  refine ev_loc f_X12_byteAt (nx := 1) rfl rfl rfl rfl ?_
                  refine ev_loc f_X12_byteAt (nx := 2) rfl rfl rfl rfl ?_
                  refine ev_gvI f_X12_byteAt (nx := 5) (w := (g6 69 11)) rfl (hI.wf.s rfl) rfl rfl c107_0 rfl ?_
                  refine ev_if f_X12_byteAt (t1 := 21) (t2 := 8) rfl rfl rfl (fun h109 => ?_) (fun h109 => ?_)
                  · have r110 : (g6 69 11).toInt ≤ (gi107 69 14).toInt := Int32.le_iff_toInt_le.mp h109
                    have l111 : 1 ≤ (gi107 69 14).toInt := t_lel h109 l16
                    refine ev_ic f_X12_byteAt (nx := 22) (v := -1) rfl (by decide) rfl ?_
                    refine ev_retK1 f_X12_byteAt rfl rfl rfl ?_
                    refine ev_inS1 f_X12_ahead (nx := 139) (lo2 := [(0, .int (-1))]) rfl rfl rfl rfl f_X12_isDigit rfl rfl rfl rfl ?_
                    refine ev_loc f_X12_isDigit (nx := 1) rfl rfl rfl rfl ?_
                    refine ev_bp f_X12_isDigit (nx := 3) (v := 48) rfl (by decide) rfl ?_
                    refine ev_t f_X12_isDigit (t1 := 16) (t2 := 6) rfl rfl rfl (by decide) ?_
                    refine ev_ic f_X12_isDigit (nx := 17) (v := 0) rfl (by decide) rfl ?_
                    refine ev_retK1 f_X12_isDigit rfl rfl rfl ?_
                    refine ev_t f_X12_ahead (t1 := 183) (t2 := 142) rfl rfl rfl (by decide) ?_
                    refine ev_loc f_X12_ahead (nx := 184) rfl rfl rfl rfl ?_
                    refine ev_loc f_X12_ahead (nx := 185) rfl rfl rfl rfl ?_
                    refine ev_gvI f_X12_ahead (nx := 188) (w := (gi107 69 14)) rfl (hI.wf.s rfl) rfl rfl rfl rfl ?_
                    refine ev_loc f_X12_ahead (nx := 189) rfl rfl rfl rfl ?_
                    refine ev_gvI f_X12_ahead (nx := 192) (w := (gi3 69 14)) rfl (hI.wf.s rfl) rfl rfl c107_2 rfl ?_
                    refine ev_subR f_X12_ahead (nx := 193) (l := (-898)) (u := 899) rfl l111 u108 l102 u15 rfl rfl (by decide) (by decide) rfl (fun z112 e112 l112 u112 => ?_)
                    refine ev_ic f_X12_ahead (nx := 194) (v := 4) rfl (by decide) rfl ?_
                    refine ev_if f_X12_ahead (t1 := 201) (t2 := 197) rfl rfl rfl (fun h113 => ?_) (fun h113 => ?_)
                    · have u114 : z112.toInt ≤ 4 := t_leu h113 (by decide : (4:Int32).toInt ≤ (4:Int))
                      refine ev_ic f_X12_ahead (nx := 202) (v := 3) rfl (by decide) rfl ?_
                      refine ev_putIT f_X12_ahead (nx := 205) rfl (hI.wf.s rfl) rfl rfl rfl (hI.putB (hI.wf.s rfl) rfl rfl (by decide : (3:Int) ≤ (3:Int32).toInt) (by decide) (by decide : (3:Int32).toInt ≤ (3:Int)) (by decide)) (hX.upI rfl) (fun g115 e115 hI hX => ?_)
                      refine ev_jmp f_X12_ahead (nx := 263) rfl rfl rfl ?_
                      exact ev_ret f_X12_ahead rfl rfl rfl ⟨_, _, _, rfl, hI, hX, ⟨rfl, (show (gi 69 14).toInt ≤ (g115 69 14).toInt ∧ ((g115 69 12).toInt ≠ 0 → (gi 69 14).toInt < (g115 69 14).toInt) from (by have ff116 : (g115 69 14).toInt = (gi107 69 14).toInt := congrArg Int32.toInt ((by rw [e115]; exact x_up2_off (Or.inr (by decide)) : g115 69 14 = gi107 69 14).trans rfl); have ff117 : (g115 69 12).toInt = 3 := (congrArg Int32.toInt (by rw [e115]; exact x_up2_at _ _ _ _ : g115 69 12 = 3)).trans (by decide); omega))⟩⟩
                    · have l118 : 5 ≤ z112.toInt := t_ltl (t_nle h113) (by decide : (4:Int) ≤ (4:Int32).toInt) rfl
                      have u119 : (gi3 69 14).toInt ≤ 895 := by have := u108; omega
                      refine ev_ic f_X12_ahead (nx := 198) (v := 1) rfl (by decide) rfl ?_
                      refine ev_jmp f_X12_ahead (nx := 202) rfl rfl rfl ?_
                      refine ev_putIT f_X12_ahead (nx := 205) rfl (hI.wf.s rfl) rfl rfl rfl (hI.putB (hI.wf.s rfl) rfl rfl (by decide : (1:Int) ≤ (1:Int32).toInt) (by decide) (by decide : (1:Int32).toInt ≤ (1:Int)) (by decide)) (hX.upI rfl) (fun g120 e120 hI hX => ?_)
                      refine ev_jmp f_X12_ahead (nx := 263) rfl rfl rfl ?_
                      exact ev_ret f_X12_ahead rfl rfl rfl ⟨_, _, _, rfl, hI, hX, ⟨rfl, (show (gi 69 14).toInt ≤ (g120 69 14).toInt ∧ ((g120 69 12).toInt ≠ 0 → (gi 69 14).toInt < (g120 69 14).toInt) from (by have ff121 : (g120 69 14).toInt = (gi107 69 14).toInt := congrArg Int32.toInt ((by rw [e120]; exact x_up2_off (Or.inr (by decide)) : g120 69 14 = gi107 69 14).trans rfl); have ff122 : (g120 69 12).toInt = 1 := (congrArg Int32.toInt (by rw [e120]; exact x_up2_at _ _ _ _ : g120 69 12 = 1)).trans (by decide); omega))⟩⟩
                  · have r123 : (gi107 69 14).toInt < (g6 69 11).toInt := Int32.lt_iff_toInt_lt.mp (t_nle h109)
                    have u124 : (gi107 69 14).toInt ≤ 898 := t_ltu (t_nle h109) u101 rfl
                    refine ev_loc f_X12_byteAt (nx := 9) rfl rfl rfl rfl ?_
                    refine ev_getR f_X12_byteAt (nx := 12) rfl (hI.wf.s rfl) rfl rfl (hI.wf.r rfl) rfl rfl ?_
                    refine ev_loc f_X12_byteAt (nx := 13) rfl rfl rfl rfl ?_
                    refine ev_baldT f_X12_byteAt (nx := 14) rfl (hI.wf.s rfl) rfl l108 (by decide) u124 (by decide) rfl (fun w125 e125 => ?_)
                    refine ev_sp f_X12_byteAt (nx := 17) (v := 255) rfl (by decide) rfl ?_
                    refine ev_andE f_X12_byteAt (nx := 18) (c := 255) rfl (by decide) (by decide) rfl (fun z126 e126 l126 u126 => ?_)
                    refine ev_jmp f_X12_byteAt (nx := 22) rfl rfl rfl ?_
                    refine ev_retK1 f_X12_byteAt rfl rfl rfl ?_
                    refine ev_inS1 f_X12_ahead (nx := 139) (lo2 := [(0, .int z126)]) rfl rfl rfl rfl f_X12_isDigit rfl rfl rfl rfl ?_
                    refine ev_loc f_X12_isDigit (nx := 1) rfl rfl rfl rfl ?_
                    refine ev_bp f_X12_isDigit (nx := 3) (v := 48) rfl (by decide) rfl ?_
                    refine ev_if f_X12_isDigit (t1 := 16) (t2 := 6) rfl rfl rfl (fun h127 => ?_) (fun h127 => ?_)
                    · have u128 : z126.toInt ≤ 47 := t_ltu h127 (by decide : (48:Int32).toInt ≤ (48:Int)) rfl
                      refine ev_ic f_X12_isDigit (nx := 17) (v := 0) rfl (by decide) rfl ?_
                      refine ev_retK1 f_X12_isDigit rfl rfl rfl ?_
                      refine ev_t f_X12_ahead (t1 := 183) (t2 := 142) rfl rfl rfl (by decide) ?_
                      refine ev_loc f_X12_ahead (nx := 184) rfl rfl rfl rfl ?_
                      refine ev_loc f_X12_ahead (nx := 185) rfl rfl rfl rfl ?_
                      refine ev_gvI f_X12_ahead (nx := 188) (w := (gi107 69 14)) rfl (hI.wf.s rfl) rfl rfl rfl rfl ?_
                      refine ev_loc f_X12_ahead (nx := 189) rfl rfl rfl rfl ?_
                      refine ev_gvI f_X12_ahead (nx := 192) (w := (gi3 69 14)) rfl (hI.wf.s rfl) rfl rfl c107_2 rfl ?_
                      refine ev_subR f_X12_ahead (nx := 193) (l := (-899)) (u := 897) rfl l108 u124 l102 u15 rfl rfl (by decide) (by decide) rfl (fun z129 e129 l129 u129 => ?_)
                      refine ev_ic f_X12_ahead (nx := 194) (v := 4) rfl (by decide) rfl ?_
                      refine ev_if f_X12_ahead (t1 := 201) (t2 := 197) rfl rfl rfl (fun h130 => ?_) (fun h130 => ?_)
                      · have u131 : z129.toInt ≤ 4 := t_leu h130 (by decide : (4:Int32).toInt ≤ (4:Int))
                        refine ev_ic f_X12_ahead (nx := 202) (v := 3) rfl (by decide) rfl ?_
                        refine ev_putIT f_X12_ahead (nx := 205) rfl (hI.wf.s rfl) rfl rfl rfl (hI.putB (hI.wf.s rfl) rfl rfl (by decide : (3:Int) ≤ (3:Int32).toInt) (by decide) (by decide : (3:Int32).toInt ≤ (3:Int)) (by decide)) (hX.upI rfl) (fun g132 e132 hI hX => ?_)
                        refine ev_jmp f_X12_ahead (nx := 263) rfl rfl rfl ?_
                        exact ev_ret f_X12_ahead rfl rfl rfl ⟨_, _, _, rfl, hI, hX, ⟨rfl, (show (gi 69 14).toInt ≤ (g132 69 14).toInt ∧ ((g132 69 12).toInt ≠ 0 → (gi 69 14).toInt < (g132 69 14).toInt) from (by have ff133 : (g132 69 14).toInt = (gi107 69 14).toInt := congrArg Int32.toInt ((by rw [e132]; exact x_up2_off (Or.inr (by decide)) : g132 69 14 = gi107 69 14).trans rfl); have ff134 : (g132 69 12).toInt = 3 := (congrArg Int32.toInt (by rw [e132]; exact x_up2_at _ _ _ _ : g132 69 12 = 3)).trans (by decide); omega))⟩⟩
                      · have l135 : 5 ≤ z129.toInt := t_ltl (t_nle h130) (by decide : (4:Int) ≤ (4:Int32).toInt) rfl
                        have u136 : (gi3 69 14).toInt ≤ 893 := by have := u124; omega
                        refine ev_ic f_X12_ahead (nx := 198) (v := 1) rfl (by decide) rfl ?_
                        refine ev_jmp f_X12_ahead (nx := 202) rfl rfl rfl ?_
                        refine ev_putIT f_X12_ahead (nx := 205) rfl (hI.wf.s rfl) rfl rfl rfl (hI.putB (hI.wf.s rfl) rfl rfl (by decide : (1:Int) ≤ (1:Int32).toInt) (by decide) (by decide : (1:Int32).toInt ≤ (1:Int)) (by decide)) (hX.upI rfl) (fun g137 e137 hI hX => ?_)
                        refine ev_jmp f_X12_ahead (nx := 263) rfl rfl rfl ?_
                        exact ev_ret f_X12_ahead rfl rfl rfl ⟨_, _, _, rfl, hI, hX, ⟨rfl, (show (gi 69 14).toInt ≤ (g137 69 14).toInt ∧ ((g137 69 12).toInt ≠ 0 → (gi 69 14).toInt < (g137 69 14).toInt) from (by have ff138 : (g137 69 14).toInt = (gi107 69 14).toInt := congrArg Int32.toInt ((by rw [e137]; exact x_up2_off (Or.inr (by decide)) : g137 69 14 = gi107 69 14).trans rfl); have ff139 : (g137 69 12).toInt = 1 := (congrArg Int32.toInt (by rw [e137]; exact x_up2_at _ _ _ _ : g137 69 12 = 1)).trans (by decide); omega))⟩⟩
                    · have l140 : 48 ≤ z126.toInt := t_lel (t_nlt h127) (by decide : (48:Int) ≤ (48:Int32).toInt)
                      refine ev_loc f_X12_isDigit (nx := 7) rfl rfl rfl rfl ?_
                      refine ev_bp f_X12_isDigit (nx := 9) (v := 57) rfl (by decide) rfl ?_
                      refine ev_if f_X12_isDigit (t1 := 16) (t2 := 12) rfl rfl rfl (fun h141 => ?_) (fun h141 => ?_)
                      · have l142 : 58 ≤ z126.toInt := t_ltl h141 (by decide : (57:Int) ≤ (57:Int32).toInt) rfl
                        refine ev_ic f_X12_isDigit (nx := 17) (v := 0) rfl (by decide) rfl ?_
                        refine ev_retK1 f_X12_isDigit rfl rfl rfl ?_
                        refine ev_t f_X12_ahead (t1 := 183) (t2 := 142) rfl rfl rfl (by decide) ?_
                        refine ev_loc f_X12_ahead (nx := 184) rfl rfl rfl rfl ?_
                        refine ev_loc f_X12_ahead (nx := 185) rfl rfl rfl rfl ?_
                        refine ev_gvI f_X12_ahead (nx := 188) (w := (gi107 69 14)) rfl (hI.wf.s rfl) rfl rfl rfl rfl ?_
                        refine ev_loc f_X12_ahead (nx := 189) rfl rfl rfl rfl ?_
                        refine ev_gvI f_X12_ahead (nx := 192) (w := (gi3 69 14)) rfl (hI.wf.s rfl) rfl rfl c107_2 rfl ?_
                        refine ev_subR f_X12_ahead (nx := 193) (l := (-899)) (u := 897) rfl l108 u124 l102 u15 rfl rfl (by decide) (by decide) rfl (fun z143 e143 l143 u143 => ?_)
                        refine ev_ic f_X12_ahead (nx := 194) (v := 4) rfl (by decide) rfl ?_
                        refine ev_if f_X12_ahead (t1 := 201) (t2 := 197) rfl rfl rfl (fun h144 => ?_) (fun h144 => ?_)
                        · have u145 : z143.toInt ≤ 4 := t_leu h144 (by decide : (4:Int32).toInt ≤ (4:Int))
                          refine ev_ic f_X12_ahead (nx := 202) (v := 3) rfl (by decide) rfl ?_
                          refine ev_putIT f_X12_ahead (nx := 205) rfl (hI.wf.s rfl) rfl rfl rfl (hI.putB (hI.wf.s rfl) rfl rfl (by decide : (3:Int) ≤ (3:Int32).toInt) (by decide) (by decide : (3:Int32).toInt ≤ (3:Int)) (by decide)) (hX.upI rfl) (fun g146 e146 hI hX => ?_)
                          refine ev_jmp f_X12_ahead (nx := 263) rfl rfl rfl ?_
                          exact ev_ret f_X12_ahead rfl rfl rfl ⟨_, _, _, rfl, hI, hX, ⟨rfl, (show (gi 69 14).toInt ≤ (g146 69 14).toInt ∧ ((g146 69 12).toInt ≠ 0 → (gi 69 14).toInt < (g146 69 14).toInt) from (by have ff147 : (g146 69 14).toInt = (gi107 69 14).toInt := congrArg Int32.toInt ((by rw [e146]; exact x_up2_off (Or.inr (by decide)) : g146 69 14 = gi107 69 14).trans rfl); have ff148 : (g146 69 12).toInt = 3 := (congrArg Int32.toInt (by rw [e146]; exact x_up2_at _ _ _ _ : g146 69 12 = 3)).trans (by decide); omega))⟩⟩
                        · have l149 : 5 ≤ z143.toInt := t_ltl (t_nle h144) (by decide : (4:Int) ≤ (4:Int32).toInt) rfl
                          have u150 : (gi3 69 14).toInt ≤ 893 := by have := u124; omega
                          refine ev_ic f_X12_ahead (nx := 198) (v := 1) rfl (by decide) rfl ?_
                          refine ev_jmp f_X12_ahead (nx := 202) rfl rfl rfl ?_
                          refine ev_putIT f_X12_ahead (nx := 205) rfl (hI.wf.s rfl) rfl rfl rfl (hI.putB (hI.wf.s rfl) rfl rfl (by decide : (1:Int) ≤ (1:Int32).toInt) (by decide) (by decide : (1:Int32).toInt ≤ (1:Int)) (by decide)) (hX.upI rfl) (fun g151 e151 hI hX => ?_)
                          refine ev_jmp f_X12_ahead (nx := 263) rfl rfl rfl ?_
                          exact ev_ret f_X12_ahead rfl rfl rfl ⟨_, _, _, rfl, hI, hX, ⟨rfl, (show (gi 69 14).toInt ≤ (g151 69 14).toInt ∧ ((g151 69 12).toInt ≠ 0 → (gi 69 14).toInt < (g151 69 14).toInt) from (by have ff152 : (g151 69 14).toInt = (gi107 69 14).toInt := congrArg Int32.toInt ((by rw [e151]; exact x_up2_off (Or.inr (by decide)) : g151 69 14 = gi107 69 14).trans rfl); have ff153 : (g151 69 12).toInt = 1 := (congrArg Int32.toInt (by rw [e151]; exact x_up2_at _ _ _ _ : g151 69 12 = 1)).trans (by decide); omega))⟩⟩
                      · have u154 : z126.toInt ≤ 57 := t_leu (t_nlt h141) (by decide : (57:Int32).toInt ≤ (57:Int))
                        refine ev_ic f_X12_isDigit (nx := 13) (v := 1) rfl (by decide) rfl ?_
                        refine ev_jmp f_X12_isDigit (nx := 17) rfl rfl rfl ?_
                        refine ev_retK1 f_X12_isDigit rfl rfl rfl ?_
                        refine ev_f f_X12_ahead (t1 := 183) (t2 := 142) rfl rfl rfl (by decide) ?_
                        refine ev_loc f_X12_ahead (nx := 143) rfl rfl rfl rfl ?_
                        refine ev_ldI f_X12_ahead (nx := 145) (v := 100000) rfl (by decide) rfl ?_
                        refine ev_bp f_X12_ahead (nx := 147) (v := 10) rfl (by decide) rfl ?_
                        refine ev_loc f_X12_ahead (nx := 148) rfl rfl rfl rfl ?_
                        refine ev_getI f_X12_ahead (nx := 151) rfl (hI.wf.s rfl) rfl rfl rfl ?_
                        refine ev_anyI f_X12_ahead (nx := 152) rfl rfl rfl rfl (fun z155 => ?_)
                        refine ev_loc f_X12_ahead (nx := 153) rfl rfl rfl rfl ?_
                        refine ev_loc f_X12_ahead (nx := 154) rfl rfl rfl rfl ?_
                        refine ev_gvI f_X12_ahead (nx := 157) (w := (gi107 69 14)) rfl (hI.wf.s rfl) rfl rfl rfl rfl ?_
                        refine ev_inV2 f_X12_ahead (nx := 160) (lo2 := [(0, .ref 69), (1, .int (gi107 69 14))]) rfl rfl rfl rfl f_X12_byteAt (hI.wf.s rfl) rfl rfl rfl rfl rfl ?_
                        refine ev_loc f_X12_byteAt (nx := 1) rfl rfl rfl rfl ?_
                        refine ev_loc f_X12_byteAt (nx := 2) rfl rfl rfl rfl ?_
                        refine ev_gvI f_X12_byteAt (nx := 5) (w := (g6 69 11)) rfl (hI.wf.s rfl) rfl rfl c107_0 rfl ?_
                        refine ev_if f_X12_byteAt (t1 := 21) (t2 := 8) rfl rfl rfl (fun h156 => ?_) (fun h156 => ?_)
                        · have r157 : (g6 69 11).toInt ≤ (gi107 69 14).toInt := Int32.le_iff_toInt_le.mp h156
                          have u158 : (g6 69 11).toInt ≤ 898 := t_leu h156 u124
                          have l159 : 1 ≤ (gi107 69 14).toInt := t_lel h156 l16
                          refine ev_ic f_X12_byteAt (nx := 22) (v := -1) rfl (by decide) rfl ?_
                          refine ev_retK1 f_X12_byteAt rfl rfl rfl ?_
                          refine ev_anyI f_X12_ahead (nx := 161) rfl rfl rfl rfl (fun z160 => ?_)
                          refine ev_bp f_X12_ahead (nx := 163) (v := 48) rfl (by decide) rfl ?_
                          refine ev_anyI f_X12_ahead (nx := 164) rfl rfl rfl rfl (fun z161 => ?_)
                          refine ev_mmR f_X12_ahead (nx := 167) (l := (-2147483648)) (u := 100000) rfl rfl rfl (by omega) rfl (by decide : (100000:Int) ≤ (100000:Int32).toInt) (by decide : (100000:Int32).toInt ≤ (100000:Int)) (t_lo z161) (t_hi z161) (by decide) (by decide) rfl (fun z162 l162 u162 => ?_)
                          refine ev_putIT f_X12_ahead (nx := 170) rfl (hI.wf.s rfl) rfl rfl rfl (hI.put0 (hI.wf.s rfl) rfl rfl) (hX.upI rfl) (fun g163 e163 hI hX => ?_)
                          refine ev_loc f_X12_ahead (nx := 171) rfl rfl rfl rfl ?_
                          refine ev_alu f_X12_ahead (nx := 172) rfl rfl rfl rfl ?_
                          refine ev_gvI f_X12_ahead (nx := 175) (w := (gi107 69 14)) rfl (hI.wf.s rfl) rfl rfl ((by rw [e163]; exact x_up2_off (Or.inr (by decide)) : g163 69 14 = gi107 69 14).trans rfl) rfl ?_
                          refine ev_ic f_X12_ahead (nx := 176) (v := 1) rfl (by decide) rfl ?_
                          refine ev_addC f_X12_ahead (nx := 177) (c := 1) (l := 2) (u := 899) rfl (by decide) l159 u124 rfl rfl (by decide) (by decide) rfl (fun z164 e164 l164 u164 => ?_)
                          refine ev_putIT f_X12_ahead (nx := 180) rfl (hI.wf.s rfl) rfl rfl rfl (hI.putB (hI.wf.s rfl) rfl rfl l164 (by decide) u164 (by decide)) (hX.upI rfl) (fun g165 e165 hI hX => ?_)
                          refine ev_jmp f_X12_ahead (nx := 128) rfl rfl rfl ?_
                          refine ev_sub (lo := [(1, .int z18), (0, .ref 69)]) rfl (t_sc rfl (t_sc rfl t_sn)) ?_
                          exact ih107 _ (by have ff167 : (g165 69 14).toInt = z164.toInt := congrArg Int32.toInt (by rw [e165]; exact x_up2_at _ _ _ _ : g165 69 14 = z164); omega) g165 gl107 gr107  hI hX  ((by rw [e165]; exact x_up2_off (Or.inr (by decide)) : g165 69 11 = g163 69 11).trans ((by rw [e163]; exact x_up2_off (Or.inr (by decide)) : g163 69 11 = gi107 69 11).trans c107_0)) ((by rw [e165]; exact x_up2_off (Or.inr (by decide)) : g165 69 12 = g163 69 12).trans ((by rw [e163]; exact x_up2_off (Or.inr (by decide)) : g163 69 12 = gi107 69 12).trans c107_1)) ((by rw [e165]; exact x_up2_off (Or.inr (by decide)) : g165 69 13 = g163 69 13).trans ((by rw [e163]; exact x_up2_off (Or.inr (by decide)) : g163 69 13 = gi107 69 13).trans c107_2)) (by have ff166 : (g165 69 14).toInt = z164.toInt := congrArg Int32.toInt (by rw [e165]; exact x_up2_at _ _ _ _ : g165 69 14 = z164); omega) rfl
                        · have r168 : (gi107 69 14).toInt < (g6 69 11).toInt := Int32.lt_iff_toInt_lt.mp (t_nle h156)
                          refine ev_loc f_X12_byteAt (nx := 9) rfl rfl rfl rfl ?_
                          refine ev_getR f_X12_byteAt (nx := 12) rfl (hI.wf.s rfl) rfl rfl (hI.wf.r rfl) rfl rfl ?_
                          refine ev_loc f_X12_byteAt (nx := 13) rfl rfl rfl rfl ?_
                          refine ev_baldT f_X12_byteAt (nx := 14) rfl (hI.wf.s rfl) rfl l108 (by decide) u124 (by decide) rfl (fun w169 e169 => ?_)
                          rw [e169.trans e125.symm]
                          refine ev_sp f_X12_byteAt (nx := 17) (v := 255) rfl (by decide) rfl ?_
                          refine ev_andE f_X12_byteAt (nx := 18) (c := 255) rfl (by decide) (by decide) rfl (fun z170 e170 l170 u170 => ?_)
                          rw [e170.trans e126.symm]
                          refine ev_jmp f_X12_byteAt (nx := 22) rfl rfl rfl ?_
                          refine ev_retK1 f_X12_byteAt rfl rfl rfl ?_
                          refine ev_anyI f_X12_ahead (nx := 161) rfl rfl rfl rfl (fun z171 => ?_)
                          refine ev_bp f_X12_ahead (nx := 163) (v := 48) rfl (by decide) rfl ?_
                          refine ev_anyI f_X12_ahead (nx := 164) rfl rfl rfl rfl (fun z172 => ?_)
                          refine ev_mmR f_X12_ahead (nx := 167) (l := (-2147483648)) (u := 100000) rfl rfl rfl (by omega) rfl (by decide : (100000:Int) ≤ (100000:Int32).toInt) (by decide : (100000:Int32).toInt ≤ (100000:Int)) (t_lo z172) (t_hi z172) (by decide) (by decide) rfl (fun z173 l173 u173 => ?_)
                          refine ev_putIT f_X12_ahead (nx := 170) rfl (hI.wf.s rfl) rfl rfl rfl (hI.put0 (hI.wf.s rfl) rfl rfl) (hX.upI rfl) (fun g174 e174 hI hX => ?_)
                          refine ev_loc f_X12_ahead (nx := 171) rfl rfl rfl rfl ?_
                          refine ev_alu f_X12_ahead (nx := 172) rfl rfl rfl rfl ?_
                          refine ev_gvI f_X12_ahead (nx := 175) (w := (gi107 69 14)) rfl (hI.wf.s rfl) rfl rfl ((by rw [e174]; exact x_up2_off (Or.inr (by decide)) : g174 69 14 = gi107 69 14).trans rfl) rfl ?_
                          refine ev_ic f_X12_ahead (nx := 176) (v := 1) rfl (by decide) rfl ?_
                          refine ev_addC f_X12_ahead (nx := 177) (c := 1) (l := 1) (u := 899) rfl (by decide) l108 u124 rfl rfl (by decide) (by decide) rfl (fun z175 e175 l175 u175 => ?_)
                          refine ev_putIT f_X12_ahead (nx := 180) rfl (hI.wf.s rfl) rfl rfl rfl (hI.putB (hI.wf.s rfl) rfl rfl l175 (by decide) u175 (by decide)) (hX.upI rfl) (fun g176 e176 hI hX => ?_)
                          refine ev_jmp f_X12_ahead (nx := 128) rfl rfl rfl ?_
                          refine ev_sub (lo := [(1, .int z18), (0, .ref 69)]) rfl (t_sc rfl (t_sc rfl t_sn)) ?_
                          exact ih107 _ (by have ff178 : (g176 69 14).toInt = z175.toInt := congrArg Int32.toInt (by rw [e176]; exact x_up2_at _ _ _ _ : g176 69 14 = z175); omega) g176 gl107 gr107  hI hX  ((by rw [e176]; exact x_up2_off (Or.inr (by decide)) : g176 69 11 = g174 69 11).trans ((by rw [e174]; exact x_up2_off (Or.inr (by decide)) : g174 69 11 = gi107 69 11).trans c107_0)) ((by rw [e176]; exact x_up2_off (Or.inr (by decide)) : g176 69 12 = g174 69 12).trans ((by rw [e174]; exact x_up2_off (Or.inr (by decide)) : g174 69 12 = gi107 69 12).trans c107_1)) ((by rw [e176]; exact x_up2_off (Or.inr (by decide)) : g176 69 13 = g174 69 13).trans ((by rw [e174]; exact x_up2_off (Or.inr (by decide)) : g174 69 13 = gi107 69 13).trans c107_2)) (by have ff177 : (g176 69 14).toInt = z175.toInt := congrArg Int32.toInt (by rw [e176]; exact x_up2_at _ _ _ _ : g176 69 14 = z175); omega) rfl
                refine ev_sub (lo := [(1, .int z18), (0, .ref 69)]) rfl (t_sc rfl (t_sc rfl t_sn)) ?_
                exact L107 _ g106 gl3 gr3  hI hX  ((by rw [e106]; exact x_up2_off (Or.inr (by decide)) : g106 69 11 = g104 69 11).trans ((by rw [e104]; exact x_up2_off (Or.inr (by decide)) : g104 69 11 = g80 69 11).trans ((by rw [e80]; exact x_up2_off (Or.inr (by decide)) : g80 69 11 = g19 69 11).trans ((by rw [e19]; exact x_up2_off (Or.inr (by decide)) : g19 69 11 = g6 69 11).trans rfl)))) ((by rw [e106]; exact x_up2_off (Or.inr (by decide)) : g106 69 12 = g104 69 12).trans ((by rw [e104]; exact x_up2_off (Or.inr (by decide)) : g104 69 12 = g80 69 12).trans ((by rw [e80]; exact x_up2_off (Or.inr (by decide)) : g80 69 12 = g19 69 12).trans ((by rw [e19]; exact x_up2_off (Or.inr (by decide)) : g19 69 12 = g6 69 12).trans ((by rw [e6]; exact x_up2_off (Or.inr (by decide)) : g6 69 12 = gi3 69 12).trans rfl))))) ((by rw [e106]; exact x_up2_off (Or.inr (by decide)) : g106 69 13 = g104 69 13).trans ((by rw [e104]; exact x_up2_off (Or.inr (by decide)) : g104 69 13 = g80 69 13).trans ((by rw [e80]; exact x_up2_off (Or.inr (by decide)) : g80 69 13 = g19 69 13).trans ((by rw [e19]; exact x_up2_off (Or.inr (by decide)) : g19 69 13 = g6 69 13).trans (by rw [e6]; exact x_up2_at _ _ _ _ : g6 69 13 = (gi3 69 14)))))) (by have ff179 : (g106 69 14).toInt = z105.toInt := congrArg Int32.toInt (by rw [e106]; exact x_up2_at _ _ _ _ : g106 69 14 = z105); omega) rfl
              · have r180 : (gi3 69 14).toInt < (g6 69 11).toInt := Int32.lt_iff_toInt_lt.mp (t_nle h99)
                refine ev_loc f_X12_byteAt (nx := 9) rfl rfl rfl rfl ?_
                refine ev_getR f_X12_byteAt (nx := 12) rfl (hI.wf.s rfl) rfl rfl (hI.wf.r rfl) rfl rfl ?_
                refine ev_loc f_X12_byteAt (nx := 13) rfl rfl rfl rfl ?_
                refine ev_baldT f_X12_byteAt (nx := 14) rfl (hI.wf.s rfl) rfl l5 (by decide) u15 (by decide) rfl (fun w181 e181 => ?_)
                rw [e181.trans ((by rw [e80]; exact x_up2_off (Or.inl (by decide)) : g80 76 (gi3 69 14).toNatClampNeg = g19 76 (gi3 69 14).toNatClampNeg).trans ((by rw [e19]; exact x_up2_off (Or.inl (by decide)) : g19 76 (gi3 69 14).toNatClampNeg = g6 76 (gi3 69 14).toNatClampNeg).trans e17.symm))]
                refine ev_sp f_X12_byteAt (nx := 17) (v := 255) rfl (by decide) rfl ?_
                refine ev_andE f_X12_byteAt (nx := 18) (c := 255) rfl (by decide) (by decide) rfl (fun z182 e182 l182 u182 => ?_)
                rw [e182.trans e18.symm]
                refine ev_jmp f_X12_byteAt (nx := 22) rfl rfl rfl ?_
                refine ev_retK1 f_X12_byteAt rfl rfl rfl ?_
                refine ev_addK f_X12_ahead (nx := 161) (c := 0) (l := 48) (u := 57) rfl (by decide) l43 u79 rfl rfl (by decide) (by decide) rfl (fun z183 e183 l183 u183 => ?_)
                refine ev_bp f_X12_ahead (nx := 163) (v := 48) rfl (by decide) rfl ?_
                refine ev_subC f_X12_ahead (nx := 164) (c := 48) (l := 0) (u := 9) rfl (by decide) l183 u183 rfl rfl (by decide) (by decide) rfl (fun z184 e184 l184 u184 => ?_)
                refine ev_mmR f_X12_ahead (nx := 167) (l := 0) (u := 9) rfl rfl rfl (by omega) rfl (by decide : (100000:Int) ≤ (100000:Int32).toInt) (by decide : (100000:Int32).toInt ≤ (100000:Int)) l184 u184 (by decide) (by decide) rfl (fun z185 l185 u185 => ?_)
                refine ev_putIT f_X12_ahead (nx := 170) rfl (hI.wf.s rfl) rfl rfl rfl (hI.put0 (hI.wf.s rfl) rfl rfl) (hX.upI rfl) (fun g186 e186 hI hX => ?_)
                refine ev_loc f_X12_ahead (nx := 171) rfl rfl rfl rfl ?_
                refine ev_alu f_X12_ahead (nx := 172) rfl rfl rfl rfl ?_
                refine ev_gvI f_X12_ahead (nx := 175) (w := (gi3 69 14)) rfl (hI.wf.s rfl) rfl rfl ((by rw [e186]; exact x_up2_off (Or.inr (by decide)) : g186 69 14 = g80 69 14).trans ((by rw [e80]; exact x_up2_off (Or.inr (by decide)) : g80 69 14 = g19 69 14).trans ((by rw [e19]; exact x_up2_off (Or.inr (by decide)) : g19 69 14 = g6 69 14).trans ((by rw [e6]; exact x_up2_off (Or.inr (by decide)) : g6 69 14 = gi3 69 14).trans rfl)))) rfl ?_
                refine ev_ic f_X12_ahead (nx := 176) (v := 1) rfl (by decide) rfl ?_
                refine ev_addC f_X12_ahead (nx := 177) (c := 1) (l := 1) (u := 900) rfl (by decide) l5 u15 rfl rfl (by decide) (by decide) rfl (fun z187 e187 l187 u187 => ?_)
                refine ev_putIT f_X12_ahead (nx := 180) rfl (hI.wf.s rfl) rfl rfl rfl (hI.putB (hI.wf.s rfl) rfl rfl l187 (by decide) u187 (by decide)) (hX.upI rfl) (fun g188 e188 hI hX => ?_)
                refine ev_jmp f_X12_ahead (nx := 128) rfl rfl rfl ?_
                have L189 : ∀ (m189 : Nat) (gi189 : Nat → Nat → Int32) (gl189 : Nat → Nat → Int64) (gr189 : Nat → Nat → Value), t_I sh gi189 gr189 → t_X wl_m_ahead sh gi gl gr gi189 gl189 gr189 → gi189 69 11 = (g6 69 11) → gi189 69 12 = (gi3 69 12) → gi189 69 13 = (gi3 69 14) → (gi 69 14).toInt < (gi189 69 14).toInt → (900 - (gi189 69 14).toInt).toNat = m189 → x_Ev X (d + 2) n_X12_ahead 128 [(1, .int z18), (0, .ref 69)] [] (sh, gi189, gl189, gr189) (t_PN wl_m_ahead sh gi gl gr (Q_m_ahead gi gl gr)) := by
                  intro m189
                  induction m189 using Nat.strongRecOn with
                  | _ m189 ih189 =>
                  intro gi189 gl189 gr189 hI hX c189_0 c189_1 c189_2 j189_0 hm189
                  obtain ⟨l190, u190⟩ := hI.b (hI.wf.s (k := 69) rfl) (t_bdK rfl : t_bd 11 14 = some (0, 900))
                  refine ev_loc f_X12_ahead (nx := 129) rfl rfl rfl rfl ?_
                  refine ev_loc f_X12_ahead (nx := 130) rfl rfl rfl rfl ?_
                  refine ev_gvI f_X12_ahead (nx := 133) (w := (gi189 69 14)) rfl (hI.wf.s rfl) rfl rfl rfl rfl ?_
                  refine ev_inV2 f_X12_ahead (nx := 136) (lo2 := [(0, .ref 69), (1, .int (gi189 69 14))]) rfl rfl rfl rfl f_X12_byteAt (hI.wf.s rfl) rfl rfl rfl rfl rfl ?_
                  refine ev_loc f_X12_byteAt (nx := 1) rfl rfl rfl rfl ?_
                  refine ev_loc f_X12_byteAt (nx := 2) rfl rfl rfl rfl ?_
                  refine ev_gvI f_X12_byteAt (nx := 5) (w := (g6 69 11)) rfl (hI.wf.s rfl) rfl rfl c189_0 rfl ?_
                  refine ev_if f_X12_byteAt (t1 := 21) (t2 := 8) rfl rfl rfl (fun h191 => ?_) (fun h191 => ?_)
                  · have r192 : (g6 69 11).toInt ≤ (gi189 69 14).toInt := Int32.le_iff_toInt_le.mp h191
                    have l193 : 1 ≤ (gi189 69 14).toInt := t_lel h191 l16
                    refine ev_ic f_X12_byteAt (nx := 22) (v := -1) rfl (by decide) rfl ?_
                    refine ev_retK1 f_X12_byteAt rfl rfl rfl ?_
                    refine ev_inS1 f_X12_ahead (nx := 139) (lo2 := [(0, .int (-1))]) rfl rfl rfl rfl f_X12_isDigit rfl rfl rfl rfl ?_
                    refine ev_loc f_X12_isDigit (nx := 1) rfl rfl rfl rfl ?_
                    refine ev_bp f_X12_isDigit (nx := 3) (v := 48) rfl (by decide) rfl ?_
                    refine ev_t f_X12_isDigit (t1 := 16) (t2 := 6) rfl rfl rfl (by decide) ?_
                    refine ev_ic f_X12_isDigit (nx := 17) (v := 0) rfl (by decide) rfl ?_
                    refine ev_retK1 f_X12_isDigit rfl rfl rfl ?_
                    refine ev_t f_X12_ahead (t1 := 183) (t2 := 142) rfl rfl rfl (by decide) ?_
                    refine ev_loc f_X12_ahead (nx := 184) rfl rfl rfl rfl ?_
                    refine ev_loc f_X12_ahead (nx := 185) rfl rfl rfl rfl ?_
                    refine ev_gvI f_X12_ahead (nx := 188) (w := (gi189 69 14)) rfl (hI.wf.s rfl) rfl rfl rfl rfl ?_
                    refine ev_loc f_X12_ahead (nx := 189) rfl rfl rfl rfl ?_
                    refine ev_gvI f_X12_ahead (nx := 192) (w := (gi3 69 14)) rfl (hI.wf.s rfl) rfl rfl c189_2 rfl ?_
                    refine ev_subR f_X12_ahead (nx := 193) (l := (-898)) (u := 900) rfl l193 u190 l5 u15 rfl rfl (by decide) (by decide) rfl (fun z194 e194 l194 u194 => ?_)
                    refine ev_ic f_X12_ahead (nx := 194) (v := 4) rfl (by decide) rfl ?_
                    refine ev_if f_X12_ahead (t1 := 201) (t2 := 197) rfl rfl rfl (fun h195 => ?_) (fun h195 => ?_)
                    · have u196 : z194.toInt ≤ 4 := t_leu h195 (by decide : (4:Int32).toInt ≤ (4:Int))
                      refine ev_ic f_X12_ahead (nx := 202) (v := 3) rfl (by decide) rfl ?_
                      refine ev_putIT f_X12_ahead (nx := 205) rfl (hI.wf.s rfl) rfl rfl rfl (hI.putB (hI.wf.s rfl) rfl rfl (by decide : (3:Int) ≤ (3:Int32).toInt) (by decide) (by decide : (3:Int32).toInt ≤ (3:Int)) (by decide)) (hX.upI rfl) (fun g197 e197 hI hX => ?_)
                      refine ev_jmp f_X12_ahead (nx := 263) rfl rfl rfl ?_
                      exact ev_ret f_X12_ahead rfl rfl rfl ⟨_, _, _, rfl, hI, hX, ⟨rfl, (show (gi 69 14).toInt ≤ (g197 69 14).toInt ∧ ((g197 69 12).toInt ≠ 0 → (gi 69 14).toInt < (g197 69 14).toInt) from (by have ff198 : (g197 69 14).toInt = (gi189 69 14).toInt := congrArg Int32.toInt ((by rw [e197]; exact x_up2_off (Or.inr (by decide)) : g197 69 14 = gi189 69 14).trans rfl); have ff199 : (g197 69 12).toInt = 3 := (congrArg Int32.toInt (by rw [e197]; exact x_up2_at _ _ _ _ : g197 69 12 = 3)).trans (by decide); omega))⟩⟩
                    · have l200 : 5 ≤ z194.toInt := t_ltl (t_nle h195) (by decide : (4:Int) ≤ (4:Int32).toInt) rfl
                      have u201 : (gi3 69 14).toInt ≤ 895 := by have := u190; omega
                      refine ev_ic f_X12_ahead (nx := 198) (v := 1) rfl (by decide) rfl ?_
                      refine ev_jmp f_X12_ahead (nx := 202) rfl rfl rfl ?_
                      refine ev_putIT f_X12_ahead (nx := 205) rfl (hI.wf.s rfl) rfl rfl rfl (hI.putB (hI.wf.s rfl) rfl rfl (by decide : (1:Int) ≤ (1:Int32).toInt) (by decide) (by decide : (1:Int32).toInt ≤ (1:Int)) (by decide)) (hX.upI rfl) (fun g202 e202 hI hX => ?_)
                      refine ev_jmp f_X12_ahead (nx := 263) rfl rfl rfl ?_
                      exact ev_ret f_X12_ahead rfl rfl rfl ⟨_, _, _, rfl, hI, hX, ⟨rfl, (show (gi 69 14).toInt ≤ (g202 69 14).toInt ∧ ((g202 69 12).toInt ≠ 0 → (gi 69 14).toInt < (g202 69 14).toInt) from (by have ff203 : (g202 69 14).toInt = (gi189 69 14).toInt := congrArg Int32.toInt ((by rw [e202]; exact x_up2_off (Or.inr (by decide)) : g202 69 14 = gi189 69 14).trans rfl); have ff204 : (g202 69 12).toInt = 1 := (congrArg Int32.toInt (by rw [e202]; exact x_up2_at _ _ _ _ : g202 69 12 = 1)).trans (by decide); omega))⟩⟩
                  · have r205 : (gi189 69 14).toInt < (g6 69 11).toInt := Int32.lt_iff_toInt_lt.mp (t_nle h191)
                    have u206 : (gi189 69 14).toInt ≤ 899 := t_ltu (t_nle h191) u7 rfl
                    refine ev_loc f_X12_byteAt (nx := 9) rfl rfl rfl rfl ?_
                    refine ev_getR f_X12_byteAt (nx := 12) rfl (hI.wf.s rfl) rfl rfl (hI.wf.r rfl) rfl rfl ?_
                    refine ev_loc f_X12_byteAt (nx := 13) rfl rfl rfl rfl ?_
                    refine ev_baldT f_X12_byteAt (nx := 14) rfl (hI.wf.s rfl) rfl l190 (by decide) u206 (by decide) rfl (fun w207 e207 => ?_)
                    refine ev_sp f_X12_byteAt (nx := 17) (v := 255) rfl (by decide) rfl ?_
                    refine ev_andE f_X12_byteAt (nx := 18) (c := 255) rfl (by decide) (by decide) rfl (fun z208 e208 l208 u208 => ?_)
                    refine ev_jmp f_X12_byteAt (nx := 22) rfl rfl rfl ?_
                    refine ev_retK1 f_X12_byteAt rfl rfl rfl ?_
                    refine ev_inS1 f_X12_ahead (nx := 139) (lo2 := [(0, .int z208)]) rfl rfl rfl rfl f_X12_isDigit rfl rfl rfl rfl ?_
                    refine ev_loc f_X12_isDigit (nx := 1) rfl rfl rfl rfl ?_
                    refine ev_bp f_X12_isDigit (nx := 3) (v := 48) rfl (by decide) rfl ?_
                    refine ev_if f_X12_isDigit (t1 := 16) (t2 := 6) rfl rfl rfl (fun h209 => ?_) (fun h209 => ?_)
                    · have u210 : z208.toInt ≤ 47 := t_ltu h209 (by decide : (48:Int32).toInt ≤ (48:Int)) rfl
                      refine ev_ic f_X12_isDigit (nx := 17) (v := 0) rfl (by decide) rfl ?_
                      refine ev_retK1 f_X12_isDigit rfl rfl rfl ?_
                      refine ev_t f_X12_ahead (t1 := 183) (t2 := 142) rfl rfl rfl (by decide) ?_
                      refine ev_loc f_X12_ahead (nx := 184) rfl rfl rfl rfl ?_
                      refine ev_loc f_X12_ahead (nx := 185) rfl rfl rfl rfl ?_
                      refine ev_gvI f_X12_ahead (nx := 188) (w := (gi189 69 14)) rfl (hI.wf.s rfl) rfl rfl rfl rfl ?_
                      refine ev_loc f_X12_ahead (nx := 189) rfl rfl rfl rfl ?_
                      refine ev_gvI f_X12_ahead (nx := 192) (w := (gi3 69 14)) rfl (hI.wf.s rfl) rfl rfl c189_2 rfl ?_
                      refine ev_subR f_X12_ahead (nx := 193) (l := (-899)) (u := 899) rfl l190 u206 l5 u15 rfl rfl (by decide) (by decide) rfl (fun z211 e211 l211 u211 => ?_)
                      refine ev_ic f_X12_ahead (nx := 194) (v := 4) rfl (by decide) rfl ?_
                      refine ev_if f_X12_ahead (t1 := 201) (t2 := 197) rfl rfl rfl (fun h212 => ?_) (fun h212 => ?_)
                      · have u213 : z211.toInt ≤ 4 := t_leu h212 (by decide : (4:Int32).toInt ≤ (4:Int))
                        refine ev_ic f_X12_ahead (nx := 202) (v := 3) rfl (by decide) rfl ?_
                        refine ev_putIT f_X12_ahead (nx := 205) rfl (hI.wf.s rfl) rfl rfl rfl (hI.putB (hI.wf.s rfl) rfl rfl (by decide : (3:Int) ≤ (3:Int32).toInt) (by decide) (by decide : (3:Int32).toInt ≤ (3:Int)) (by decide)) (hX.upI rfl) (fun g214 e214 hI hX => ?_)
                        refine ev_jmp f_X12_ahead (nx := 263) rfl rfl rfl ?_
                        exact ev_ret f_X12_ahead rfl rfl rfl ⟨_, _, _, rfl, hI, hX, ⟨rfl, (show (gi 69 14).toInt ≤ (g214 69 14).toInt ∧ ((g214 69 12).toInt ≠ 0 → (gi 69 14).toInt < (g214 69 14).toInt) from (by have ff215 : (g214 69 14).toInt = (gi189 69 14).toInt := congrArg Int32.toInt ((by rw [e214]; exact x_up2_off (Or.inr (by decide)) : g214 69 14 = gi189 69 14).trans rfl); have ff216 : (g214 69 12).toInt = 3 := (congrArg Int32.toInt (by rw [e214]; exact x_up2_at _ _ _ _ : g214 69 12 = 3)).trans (by decide); omega))⟩⟩
                      · have l217 : 5 ≤ z211.toInt := t_ltl (t_nle h212) (by decide : (4:Int) ≤ (4:Int32).toInt) rfl
                        have u218 : (gi3 69 14).toInt ≤ 894 := by have := u206; omega
                        refine ev_ic f_X12_ahead (nx := 198) (v := 1) rfl (by decide) rfl ?_
                        refine ev_jmp f_X12_ahead (nx := 202) rfl rfl rfl ?_
                        refine ev_putIT f_X12_ahead (nx := 205) rfl (hI.wf.s rfl) rfl rfl rfl (hI.putB (hI.wf.s rfl) rfl rfl (by decide : (1:Int) ≤ (1:Int32).toInt) (by decide) (by decide : (1:Int32).toInt ≤ (1:Int)) (by decide)) (hX.upI rfl) (fun g219 e219 hI hX => ?_)
                        refine ev_jmp f_X12_ahead (nx := 263) rfl rfl rfl ?_
                        exact ev_ret f_X12_ahead rfl rfl rfl ⟨_, _, _, rfl, hI, hX, ⟨rfl, (show (gi 69 14).toInt ≤ (g219 69 14).toInt ∧ ((g219 69 12).toInt ≠ 0 → (gi 69 14).toInt < (g219 69 14).toInt) from (by have ff220 : (g219 69 14).toInt = (gi189 69 14).toInt := congrArg Int32.toInt ((by rw [e219]; exact x_up2_off (Or.inr (by decide)) : g219 69 14 = gi189 69 14).trans rfl); have ff221 : (g219 69 12).toInt = 1 := (congrArg Int32.toInt (by rw [e219]; exact x_up2_at _ _ _ _ : g219 69 12 = 1)).trans (by decide); omega))⟩⟩
                    · have l222 : 48 ≤ z208.toInt := t_lel (t_nlt h209) (by decide : (48:Int) ≤ (48:Int32).toInt)
                      refine ev_loc f_X12_isDigit (nx := 7) rfl rfl rfl rfl ?_
                      refine ev_bp f_X12_isDigit (nx := 9) (v := 57) rfl (by decide) rfl ?_
                      refine ev_if f_X12_isDigit (t1 := 16) (t2 := 12) rfl rfl rfl (fun h223 => ?_) (fun h223 => ?_)
                      · have l224 : 58 ≤ z208.toInt := t_ltl h223 (by decide : (57:Int) ≤ (57:Int32).toInt) rfl
                        refine ev_ic f_X12_isDigit (nx := 17) (v := 0) rfl (by decide) rfl ?_
                        refine ev_retK1 f_X12_isDigit rfl rfl rfl ?_
                        refine ev_t f_X12_ahead (t1 := 183) (t2 := 142) rfl rfl rfl (by decide) ?_
                        refine ev_loc f_X12_ahead (nx := 184) rfl rfl rfl rfl ?_
                        refine ev_loc f_X12_ahead (nx := 185) rfl rfl rfl rfl ?_
                        refine ev_gvI f_X12_ahead (nx := 188) (w := (gi189 69 14)) rfl (hI.wf.s rfl) rfl rfl rfl rfl ?_
                        refine ev_loc f_X12_ahead (nx := 189) rfl rfl rfl rfl ?_
                        refine ev_gvI f_X12_ahead (nx := 192) (w := (gi3 69 14)) rfl (hI.wf.s rfl) rfl rfl c189_2 rfl ?_
                        refine ev_subR f_X12_ahead (nx := 193) (l := (-899)) (u := 899) rfl l190 u206 l5 u15 rfl rfl (by decide) (by decide) rfl (fun z225 e225 l225 u225 => ?_)
                        refine ev_ic f_X12_ahead (nx := 194) (v := 4) rfl (by decide) rfl ?_
                        refine ev_if f_X12_ahead (t1 := 201) (t2 := 197) rfl rfl rfl (fun h226 => ?_) (fun h226 => ?_)
                        · have u227 : z225.toInt ≤ 4 := t_leu h226 (by decide : (4:Int32).toInt ≤ (4:Int))
                          refine ev_ic f_X12_ahead (nx := 202) (v := 3) rfl (by decide) rfl ?_
                          refine ev_putIT f_X12_ahead (nx := 205) rfl (hI.wf.s rfl) rfl rfl rfl (hI.putB (hI.wf.s rfl) rfl rfl (by decide : (3:Int) ≤ (3:Int32).toInt) (by decide) (by decide : (3:Int32).toInt ≤ (3:Int)) (by decide)) (hX.upI rfl) (fun g228 e228 hI hX => ?_)
                          refine ev_jmp f_X12_ahead (nx := 263) rfl rfl rfl ?_
                          exact ev_ret f_X12_ahead rfl rfl rfl ⟨_, _, _, rfl, hI, hX, ⟨rfl, (show (gi 69 14).toInt ≤ (g228 69 14).toInt ∧ ((g228 69 12).toInt ≠ 0 → (gi 69 14).toInt < (g228 69 14).toInt) from (by have ff229 : (g228 69 14).toInt = (gi189 69 14).toInt := congrArg Int32.toInt ((by rw [e228]; exact x_up2_off (Or.inr (by decide)) : g228 69 14 = gi189 69 14).trans rfl); have ff230 : (g228 69 12).toInt = 3 := (congrArg Int32.toInt (by rw [e228]; exact x_up2_at _ _ _ _ : g228 69 12 = 3)).trans (by decide); omega))⟩⟩
                        · have l231 : 5 ≤ z225.toInt := t_ltl (t_nle h226) (by decide : (4:Int) ≤ (4:Int32).toInt) rfl
                          have u232 : (gi3 69 14).toInt ≤ 894 := by have := u206; omega
                          refine ev_ic f_X12_ahead (nx := 198) (v := 1) rfl (by decide) rfl ?_
                          refine ev_jmp f_X12_ahead (nx := 202) rfl rfl rfl ?_
                          refine ev_putIT f_X12_ahead (nx := 205) rfl (hI.wf.s rfl) rfl rfl rfl (hI.putB (hI.wf.s rfl) rfl rfl (by decide : (1:Int) ≤ (1:Int32).toInt) (by decide) (by decide : (1:Int32).toInt ≤ (1:Int)) (by decide)) (hX.upI rfl) (fun g233 e233 hI hX => ?_)
                          refine ev_jmp f_X12_ahead (nx := 263) rfl rfl rfl ?_
                          exact ev_ret f_X12_ahead rfl rfl rfl ⟨_, _, _, rfl, hI, hX, ⟨rfl, (show (gi 69 14).toInt ≤ (g233 69 14).toInt ∧ ((g233 69 12).toInt ≠ 0 → (gi 69 14).toInt < (g233 69 14).toInt) from (by have ff234 : (g233 69 14).toInt = (gi189 69 14).toInt := congrArg Int32.toInt ((by rw [e233]; exact x_up2_off (Or.inr (by decide)) : g233 69 14 = gi189 69 14).trans rfl); have ff235 : (g233 69 12).toInt = 1 := (congrArg Int32.toInt (by rw [e233]; exact x_up2_at _ _ _ _ : g233 69 12 = 1)).trans (by decide); omega))⟩⟩
                      · have u236 : z208.toInt ≤ 57 := t_leu (t_nlt h223) (by decide : (57:Int32).toInt ≤ (57:Int))
                        refine ev_ic f_X12_isDigit (nx := 13) (v := 1) rfl (by decide) rfl ?_
                        refine ev_jmp f_X12_isDigit (nx := 17) rfl rfl rfl ?_
                        refine ev_retK1 f_X12_isDigit rfl rfl rfl ?_
                        refine ev_f f_X12_ahead (t1 := 183) (t2 := 142) rfl rfl rfl (by decide) ?_
                        refine ev_loc f_X12_ahead (nx := 143) rfl rfl rfl rfl ?_
                        refine ev_ldI f_X12_ahead (nx := 145) (v := 100000) rfl (by decide) rfl ?_
                        refine ev_bp f_X12_ahead (nx := 147) (v := 10) rfl (by decide) rfl ?_
                        refine ev_loc f_X12_ahead (nx := 148) rfl rfl rfl rfl ?_
                        refine ev_getI f_X12_ahead (nx := 151) rfl (hI.wf.s rfl) rfl rfl rfl ?_
                        refine ev_anyI f_X12_ahead (nx := 152) rfl rfl rfl rfl (fun z237 => ?_)
                        refine ev_loc f_X12_ahead (nx := 153) rfl rfl rfl rfl ?_
                        refine ev_loc f_X12_ahead (nx := 154) rfl rfl rfl rfl ?_
                        refine ev_gvI f_X12_ahead (nx := 157) (w := (gi189 69 14)) rfl (hI.wf.s rfl) rfl rfl rfl rfl ?_
                        refine ev_inV2 f_X12_ahead (nx := 160) (lo2 := [(0, .ref 69), (1, .int (gi189 69 14))]) rfl rfl rfl rfl f_X12_byteAt (hI.wf.s rfl) rfl rfl rfl rfl rfl ?_
                        refine ev_loc f_X12_byteAt (nx := 1) rfl rfl rfl rfl ?_
                        refine ev_loc f_X12_byteAt (nx := 2) rfl rfl rfl rfl ?_
                        refine ev_gvI f_X12_byteAt (nx := 5) (w := (g6 69 11)) rfl (hI.wf.s rfl) rfl rfl c189_0 rfl ?_
                        refine ev_if f_X12_byteAt (t1 := 21) (t2 := 8) rfl rfl rfl (fun h238 => ?_) (fun h238 => ?_)
                        · have r239 : (g6 69 11).toInt ≤ (gi189 69 14).toInt := Int32.le_iff_toInt_le.mp h238
                          have u240 : (g6 69 11).toInt ≤ 899 := t_leu h238 u206
                          have l241 : 1 ≤ (gi189 69 14).toInt := t_lel h238 l16
                          refine ev_ic f_X12_byteAt (nx := 22) (v := -1) rfl (by decide) rfl ?_
                          refine ev_retK1 f_X12_byteAt rfl rfl rfl ?_
                          refine ev_anyI f_X12_ahead (nx := 161) rfl rfl rfl rfl (fun z242 => ?_)
                          refine ev_bp f_X12_ahead (nx := 163) (v := 48) rfl (by decide) rfl ?_
                          refine ev_anyI f_X12_ahead (nx := 164) rfl rfl rfl rfl (fun z243 => ?_)
                          refine ev_mmR f_X12_ahead (nx := 167) (l := (-2147483648)) (u := 100000) rfl rfl rfl (by omega) rfl (by decide : (100000:Int) ≤ (100000:Int32).toInt) (by decide : (100000:Int32).toInt ≤ (100000:Int)) (t_lo z243) (t_hi z243) (by decide) (by decide) rfl (fun z244 l244 u244 => ?_)
                          refine ev_putIT f_X12_ahead (nx := 170) rfl (hI.wf.s rfl) rfl rfl rfl (hI.put0 (hI.wf.s rfl) rfl rfl) (hX.upI rfl) (fun g245 e245 hI hX => ?_)
                          refine ev_loc f_X12_ahead (nx := 171) rfl rfl rfl rfl ?_
                          refine ev_alu f_X12_ahead (nx := 172) rfl rfl rfl rfl ?_
                          refine ev_gvI f_X12_ahead (nx := 175) (w := (gi189 69 14)) rfl (hI.wf.s rfl) rfl rfl ((by rw [e245]; exact x_up2_off (Or.inr (by decide)) : g245 69 14 = gi189 69 14).trans rfl) rfl ?_
                          refine ev_ic f_X12_ahead (nx := 176) (v := 1) rfl (by decide) rfl ?_
                          refine ev_addC f_X12_ahead (nx := 177) (c := 1) (l := 2) (u := 900) rfl (by decide) l241 u206 rfl rfl (by decide) (by decide) rfl (fun z246 e246 l246 u246 => ?_)
                          refine ev_putIT f_X12_ahead (nx := 180) rfl (hI.wf.s rfl) rfl rfl rfl (hI.putB (hI.wf.s rfl) rfl rfl l246 (by decide) u246 (by decide)) (hX.upI rfl) (fun g247 e247 hI hX => ?_)
                          refine ev_jmp f_X12_ahead (nx := 128) rfl rfl rfl ?_
                          refine ev_sub (lo := [(1, .int z18), (0, .ref 69)]) rfl (t_sc rfl (t_sc rfl t_sn)) ?_
                          exact ih189 _ (by have ff249 : (g247 69 14).toInt = z246.toInt := congrArg Int32.toInt (by rw [e247]; exact x_up2_at _ _ _ _ : g247 69 14 = z246); omega) g247 gl189 gr189  hI hX  ((by rw [e247]; exact x_up2_off (Or.inr (by decide)) : g247 69 11 = g245 69 11).trans ((by rw [e245]; exact x_up2_off (Or.inr (by decide)) : g245 69 11 = gi189 69 11).trans c189_0)) ((by rw [e247]; exact x_up2_off (Or.inr (by decide)) : g247 69 12 = g245 69 12).trans ((by rw [e245]; exact x_up2_off (Or.inr (by decide)) : g245 69 12 = gi189 69 12).trans c189_1)) ((by rw [e247]; exact x_up2_off (Or.inr (by decide)) : g247 69 13 = g245 69 13).trans ((by rw [e245]; exact x_up2_off (Or.inr (by decide)) : g245 69 13 = gi189 69 13).trans c189_2)) (by have ff248 : (g247 69 14).toInt = z246.toInt := congrArg Int32.toInt (by rw [e247]; exact x_up2_at _ _ _ _ : g247 69 14 = z246); omega) rfl
                        · have r250 : (gi189 69 14).toInt < (g6 69 11).toInt := Int32.lt_iff_toInt_lt.mp (t_nle h238)
                          refine ev_loc f_X12_byteAt (nx := 9) rfl rfl rfl rfl ?_
                          refine ev_getR f_X12_byteAt (nx := 12) rfl (hI.wf.s rfl) rfl rfl (hI.wf.r rfl) rfl rfl ?_
                          refine ev_loc f_X12_byteAt (nx := 13) rfl rfl rfl rfl ?_
                          refine ev_baldT f_X12_byteAt (nx := 14) rfl (hI.wf.s rfl) rfl l190 (by decide) u206 (by decide) rfl (fun w251 e251 => ?_)
                          rw [e251.trans e207.symm]
                          refine ev_sp f_X12_byteAt (nx := 17) (v := 255) rfl (by decide) rfl ?_
                          refine ev_andE f_X12_byteAt (nx := 18) (c := 255) rfl (by decide) (by decide) rfl (fun z252 e252 l252 u252 => ?_)
                          rw [e252.trans e208.symm]
                          refine ev_jmp f_X12_byteAt (nx := 22) rfl rfl rfl ?_
                          refine ev_retK1 f_X12_byteAt rfl rfl rfl ?_
                          refine ev_anyI f_X12_ahead (nx := 161) rfl rfl rfl rfl (fun z253 => ?_)
                          refine ev_bp f_X12_ahead (nx := 163) (v := 48) rfl (by decide) rfl ?_
                          refine ev_anyI f_X12_ahead (nx := 164) rfl rfl rfl rfl (fun z254 => ?_)
                          refine ev_mmR f_X12_ahead (nx := 167) (l := (-2147483648)) (u := 100000) rfl rfl rfl (by omega) rfl (by decide : (100000:Int) ≤ (100000:Int32).toInt) (by decide : (100000:Int32).toInt ≤ (100000:Int)) (t_lo z254) (t_hi z254) (by decide) (by decide) rfl (fun z255 l255 u255 => ?_)
                          refine ev_putIT f_X12_ahead (nx := 170) rfl (hI.wf.s rfl) rfl rfl rfl (hI.put0 (hI.wf.s rfl) rfl rfl) (hX.upI rfl) (fun g256 e256 hI hX => ?_)
                          refine ev_loc f_X12_ahead (nx := 171) rfl rfl rfl rfl ?_
                          refine ev_alu f_X12_ahead (nx := 172) rfl rfl rfl rfl ?_
                          refine ev_gvI f_X12_ahead (nx := 175) (w := (gi189 69 14)) rfl (hI.wf.s rfl) rfl rfl ((by rw [e256]; exact x_up2_off (Or.inr (by decide)) : g256 69 14 = gi189 69 14).trans rfl) rfl ?_
                          refine ev_ic f_X12_ahead (nx := 176) (v := 1) rfl (by decide) rfl ?_
                          refine ev_addC f_X12_ahead (nx := 177) (c := 1) (l := 1) (u := 900) rfl (by decide) l190 u206 rfl rfl (by decide) (by decide) rfl (fun z257 e257 l257 u257 => ?_)
                          refine ev_putIT f_X12_ahead (nx := 180) rfl (hI.wf.s rfl) rfl rfl rfl (hI.putB (hI.wf.s rfl) rfl rfl l257 (by decide) u257 (by decide)) (hX.upI rfl) (fun g258 e258 hI hX => ?_)
                          refine ev_jmp f_X12_ahead (nx := 128) rfl rfl rfl ?_
                          refine ev_sub (lo := [(1, .int z18), (0, .ref 69)]) rfl (t_sc rfl (t_sc rfl t_sn)) ?_
                          exact ih189 _ (by have ff260 : (g258 69 14).toInt = z257.toInt := congrArg Int32.toInt (by rw [e258]; exact x_up2_at _ _ _ _ : g258 69 14 = z257); omega) g258 gl189 gr189  hI hX  ((by rw [e258]; exact x_up2_off (Or.inr (by decide)) : g258 69 11 = g256 69 11).trans ((by rw [e256]; exact x_up2_off (Or.inr (by decide)) : g256 69 11 = gi189 69 11).trans c189_0)) ((by rw [e258]; exact x_up2_off (Or.inr (by decide)) : g258 69 12 = g256 69 12).trans ((by rw [e256]; exact x_up2_off (Or.inr (by decide)) : g256 69 12 = gi189 69 12).trans c189_1)) ((by rw [e258]; exact x_up2_off (Or.inr (by decide)) : g258 69 13 = g256 69 13).trans ((by rw [e256]; exact x_up2_off (Or.inr (by decide)) : g256 69 13 = gi189 69 13).trans c189_2)) (by have ff259 : (g258 69 14).toInt = z257.toInt := congrArg Int32.toInt (by rw [e258]; exact x_up2_at _ _ _ _ : g258 69 14 = z257); omega) rfl
                refine ev_sub (lo := [(1, .int z18), (0, .ref 69)]) rfl (t_sc rfl (t_sc rfl t_sn)) ?_
                exact L189 _ g188 gl3 gr3  hI hX  ((by rw [e188]; exact x_up2_off (Or.inr (by decide)) : g188 69 11 = g186 69 11).trans ((by rw [e186]; exact x_up2_off (Or.inr (by decide)) : g186 69 11 = g80 69 11).trans ((by rw [e80]; exact x_up2_off (Or.inr (by decide)) : g80 69 11 = g19 69 11).trans ((by rw [e19]; exact x_up2_off (Or.inr (by decide)) : g19 69 11 = g6 69 11).trans rfl)))) ((by rw [e188]; exact x_up2_off (Or.inr (by decide)) : g188 69 12 = g186 69 12).trans ((by rw [e186]; exact x_up2_off (Or.inr (by decide)) : g186 69 12 = g80 69 12).trans ((by rw [e80]; exact x_up2_off (Or.inr (by decide)) : g80 69 12 = g19 69 12).trans ((by rw [e19]; exact x_up2_off (Or.inr (by decide)) : g19 69 12 = g6 69 12).trans ((by rw [e6]; exact x_up2_off (Or.inr (by decide)) : g6 69 12 = gi3 69 12).trans rfl))))) ((by rw [e188]; exact x_up2_off (Or.inr (by decide)) : g188 69 13 = g186 69 13).trans ((by rw [e186]; exact x_up2_off (Or.inr (by decide)) : g186 69 13 = g80 69 13).trans ((by rw [e80]; exact x_up2_off (Or.inr (by decide)) : g80 69 13 = g19 69 13).trans ((by rw [e19]; exact x_up2_off (Or.inr (by decide)) : g19 69 13 = g6 69 13).trans (by rw [e6]; exact x_up2_at _ _ _ _ : g6 69 13 = (gi3 69 14)))))) (by have ff261 : (g188 69 14).toInt = z187.toInt := congrArg Int32.toInt (by rw [e188]; exact x_up2_at _ _ _ _ : g188 69 14 = z187); omega) rfl
      · have l262 : 97 ≤ z18.toInt := t_lel (t_nlt h20) (by decide : (97:Int) ≤ (97:Int32).toInt)
        refine ev_loc f_X12_isSmall (nx := 7) rfl rfl rfl rfl ?_
        refine ev_bp f_X12_isSmall (nx := 9) (v := 122) rfl (by decide) rfl ?_
        refine ev_if f_X12_isSmall (t1 := 16) (t2 := 12) rfl rfl rfl (fun h263 => ?_) (fun h263 => ?_)
        · have l264 : 123 ≤ z18.toInt := t_ltl h263 (by decide : (122:Int) ≤ (122:Int32).toInt) rfl
          refine ev_ic f_X12_isSmall (nx := 17) (v := 0) rfl (by decide) rfl ?_
          refine ev_retK1 f_X12_isSmall rfl rfl rfl ?_
          refine ev_t f_X12_ahead (t1 := 116) (t2 := 81) rfl rfl rfl (by decide) ?_
          refine ev_loc f_X12_ahead (nx := 117) rfl rfl rfl rfl ?_
          refine ev_inS1 f_X12_ahead (nx := 120) (lo2 := [(0, .int z18)]) rfl rfl rfl rfl f_X12_isDigit rfl rfl rfl rfl ?_
          refine ev_loc f_X12_isDigit (nx := 1) rfl rfl rfl rfl ?_
          refine ev_bp f_X12_isDigit (nx := 3) (v := 48) rfl (by decide) rfl ?_
          refine ev_f f_X12_isDigit (t1 := 16) (t2 := 6) rfl rfl rfl (t_ltF (by decide : (48:Int32).toInt ≤ (48:Int)) l264 (by decide)) ?_
          refine ev_loc f_X12_isDigit (nx := 7) rfl rfl rfl rfl ?_
          refine ev_bp f_X12_isDigit (nx := 9) (v := 57) rfl (by decide) rfl ?_
          refine ev_t f_X12_isDigit (t1 := 16) (t2 := 12) rfl rfl rfl (t_ltT (by decide : (57:Int32).toInt ≤ (57:Int)) l264 (by decide)) ?_
          refine ev_ic f_X12_isDigit (nx := 17) (v := 0) rfl (by decide) rfl ?_
          refine ev_retK1 f_X12_isDigit rfl rfl rfl ?_
          refine ev_t f_X12_ahead (t1 := 208) (t2 := 123) rfl rfl rfl (by decide) ?_
          refine ev_loc f_X12_ahead (nx := 209) rfl rfl rfl rfl ?_
          refine ev_alu f_X12_ahead (nx := 210) rfl rfl rfl rfl ?_
          refine ev_gvI f_X12_ahead (nx := 213) (w := (gi3 69 14)) rfl (hI.wf.s rfl) rfl rfl ((by rw [e19]; exact x_up2_off (Or.inr (by decide)) : g19 69 14 = g6 69 14).trans ((by rw [e6]; exact x_up2_off (Or.inr (by decide)) : g6 69 14 = gi3 69 14).trans rfl)) rfl ?_
          refine ev_ic f_X12_ahead (nx := 214) (v := 1) rfl (by decide) rfl ?_
          refine ev_addC f_X12_ahead (nx := 215) (c := 1) (l := 1) (u := 900) rfl (by decide) l5 u15 rfl rfl (by decide) (by decide) rfl (fun z265 e265 l265 u265 => ?_)
          refine ev_putIT f_X12_ahead (nx := 218) rfl (hI.wf.s rfl) rfl rfl rfl (hI.putB (hI.wf.s rfl) rfl rfl l265 (by decide) u265 (by decide)) (hX.upI rfl) (fun g266 e266 hI hX => ?_)
          refine ev_loc f_X12_ahead (nx := 219) rfl rfl rfl rfl ?_
          refine ev_loc f_X12_ahead (nx := 220) rfl rfl rfl rfl ?_
          refine ev_bp f_X12_ahead (nx := 222) (v := 59) rfl (by decide) rfl ?_
          refine ev_f f_X12_ahead (t1 := 255) (t2 := 225) rfl rfl rfl (t_neT' (by decide : (59:Int32).toInt ≤ (59:Int)) l264 (by decide)) ?_
          refine ev_loc f_X12_ahead (nx := 226) rfl rfl rfl rfl ?_
          refine ev_bp f_X12_ahead (nx := 228) (v := 60) rfl (by decide) rfl ?_
          refine ev_f f_X12_ahead (t1 := 255) (t2 := 231) rfl rfl rfl (t_neT' (by decide : (60:Int32).toInt ≤ (60:Int)) l264 (by decide)) ?_
          refine ev_loc f_X12_ahead (nx := 232) rfl rfl rfl rfl ?_
          refine ev_bp f_X12_ahead (nx := 234) (v := 62) rfl (by decide) rfl ?_
          refine ev_f f_X12_ahead (t1 := 255) (t2 := 237) rfl rfl rfl (t_neT' (by decide : (62:Int32).toInt ≤ (62:Int)) l264 (by decide)) ?_
          refine ev_loc f_X12_ahead (nx := 238) rfl rfl rfl rfl ?_
          refine ev_bp f_X12_ahead (nx := 240) (v := 61) rfl (by decide) rfl ?_
          refine ev_f f_X12_ahead (t1 := 255) (t2 := 243) rfl rfl rfl (t_neT' (by decide : (61:Int32).toInt ≤ (61:Int)) l264 (by decide)) ?_
          refine ev_loc f_X12_ahead (nx := 244) rfl rfl rfl rfl ?_
          refine ev_bp f_X12_ahead (nx := 246) (v := 40) rfl (by decide) rfl ?_
          refine ev_f f_X12_ahead (t1 := 255) (t2 := 249) rfl rfl rfl (t_neT' (by decide : (40:Int32).toInt ≤ (40:Int)) l264 (by decide)) ?_
          refine ev_loc f_X12_ahead (nx := 250) rfl rfl rfl rfl ?_
          refine ev_bp f_X12_ahead (nx := 252) (v := 41) rfl (by decide) rfl ?_
          refine ev_f f_X12_ahead (t1 := 255) (t2 := 259) rfl rfl rfl (t_neT' (by decide : (41:Int32).toInt ≤ (41:Int)) l264 (by decide)) ?_
          refine ev_ic f_X12_ahead (nx := 260) (v := 1) rfl (by decide) rfl ?_
          refine ev_putIT f_X12_ahead (nx := 263) rfl (hI.wf.s rfl) rfl rfl rfl (hI.putB (hI.wf.s rfl) rfl rfl (by decide : (1:Int) ≤ (1:Int32).toInt) (by decide) (by decide : (1:Int32).toInt ≤ (1:Int)) (by decide)) (hX.upI rfl) (fun g267 e267 hI hX => ?_)
          exact ev_ret f_X12_ahead rfl rfl rfl ⟨_, _, _, rfl, hI, hX, ⟨rfl, (show (gi 69 14).toInt ≤ (g267 69 14).toInt ∧ ((g267 69 12).toInt ≠ 0 → (gi 69 14).toInt < (g267 69 14).toInt) from (by have ff268 : (g267 69 14).toInt = z265.toInt := congrArg Int32.toInt ((by rw [e267]; exact x_up2_off (Or.inr (by decide)) : g267 69 14 = g266 69 14).trans (by rw [e266]; exact x_up2_at _ _ _ _ : g266 69 14 = z265)); have ff269 : (g267 69 12).toInt = 1 := (congrArg Int32.toInt (by rw [e267]; exact x_up2_at _ _ _ _ : g267 69 12 = 1)).trans (by decide); omega))⟩⟩
        · have u270 : z18.toInt ≤ 122 := t_leu (t_nlt h263) (by decide : (122:Int32).toInt ≤ (122:Int))
          refine ev_ic f_X12_isSmall (nx := 13) (v := 1) rfl (by decide) rfl ?_
          refine ev_jmp f_X12_isSmall (nx := 17) rfl rfl rfl ?_
          refine ev_retK1 f_X12_isSmall rfl rfl rfl ?_
          refine ev_f f_X12_ahead (t1 := 116) (t2 := 81) rfl rfl rfl (by decide) ?_
          refine ev_loc f_X12_ahead (nx := 82) rfl rfl rfl rfl ?_
          refine ev_loc f_X12_ahead (nx := 83) rfl rfl rfl rfl ?_
          refine ev_gvI f_X12_ahead (nx := 86) (w := (gi3 69 14)) rfl (hI.wf.s rfl) rfl rfl ((by rw [e19]; exact x_up2_off (Or.inr (by decide)) : g19 69 14 = g6 69 14).trans ((by rw [e6]; exact x_up2_off (Or.inr (by decide)) : g6 69 14 = gi3 69 14).trans rfl)) rfl ?_
          refine ev_inV2 f_X12_ahead (nx := 89) (lo2 := [(0, .ref 69), (1, .int (gi3 69 14))]) rfl rfl rfl rfl f_X12_byteAt (hI.wf.s rfl) rfl rfl rfl rfl rfl ?_
          refine ev_loc f_X12_byteAt (nx := 1) rfl rfl rfl rfl ?_
          refine ev_loc f_X12_byteAt (nx := 2) rfl rfl rfl rfl ?_
          refine ev_gvI f_X12_byteAt (nx := 5) (w := (g6 69 11)) rfl (hI.wf.s rfl) rfl rfl ((by rw [e19]; exact x_up2_off (Or.inr (by decide)) : g19 69 11 = g6 69 11).trans rfl) rfl ?_
          refine ev_if f_X12_byteAt (t1 := 21) (t2 := 8) rfl rfl rfl (fun h271 => ?_) (fun h271 => ?_)
          · have r272 : (g6 69 11).toInt ≤ (gi3 69 14).toInt := Int32.le_iff_toInt_le.mp h271
            have u273 : (g6 69 11).toInt ≤ 899 := t_leu h271 u15
            have l274 : 1 ≤ (gi3 69 14).toInt := t_lel h271 l16
            refine ev_ic f_X12_byteAt (nx := 22) (v := -1) rfl (by decide) rfl ?_
            refine ev_retK1 f_X12_byteAt rfl rfl rfl ?_
            refine ev_inS1 f_X12_ahead (nx := 92) (lo2 := [(0, .int (-1))]) rfl rfl rfl rfl f_X12_isSmall rfl rfl rfl rfl ?_
            refine ev_loc f_X12_isSmall (nx := 1) rfl rfl rfl rfl ?_
            refine ev_bp f_X12_isSmall (nx := 3) (v := 97) rfl (by decide) rfl ?_
            refine ev_t f_X12_isSmall (t1 := 16) (t2 := 6) rfl rfl rfl (by decide) ?_
            refine ev_ic f_X12_isSmall (nx := 17) (v := 0) rfl (by decide) rfl ?_
            refine ev_retK1 f_X12_isSmall rfl rfl rfl ?_
            refine ev_t f_X12_ahead (t1 := 108) (t2 := 95) rfl rfl rfl (by decide) ?_
            refine ev_loc f_X12_ahead (nx := 109) rfl rfl rfl rfl ?_
            refine ev_ic f_X12_ahead (nx := 110) (v := 2) rfl (by decide) rfl ?_
            refine ev_putIT f_X12_ahead (nx := 113) rfl (hI.wf.s rfl) rfl rfl rfl (hI.putB (hI.wf.s rfl) rfl rfl (by decide : (2:Int) ≤ (2:Int32).toInt) (by decide) (by decide : (2:Int32).toInt ≤ (2:Int)) (by decide)) (hX.upI rfl) (fun g275 e275 hI hX => ?_)
            refine ev_jmp f_X12_ahead (nx := 263) rfl rfl rfl ?_
            exact ev_ret f_X12_ahead rfl rfl rfl ⟨_, _, _, rfl, hI, hX, ⟨rfl, (show (gi 69 14).toInt ≤ (g275 69 14).toInt ∧ ((g275 69 12).toInt ≠ 0 → (gi 69 14).toInt < (g275 69 14).toInt) from (by have ff276 : (g275 69 14).toInt = (gi3 69 14).toInt := congrArg Int32.toInt ((by rw [e275]; exact x_up2_off (Or.inr (by decide)) : g275 69 14 = g19 69 14).trans ((by rw [e19]; exact x_up2_off (Or.inr (by decide)) : g19 69 14 = g6 69 14).trans ((by rw [e6]; exact x_up2_off (Or.inr (by decide)) : g6 69 14 = gi3 69 14).trans rfl))); have ff277 : (g275 69 12).toInt = 2 := (congrArg Int32.toInt (by rw [e275]; exact x_up2_at _ _ _ _ : g275 69 12 = 2)).trans (by decide); omega))⟩⟩
          · have r278 : (gi3 69 14).toInt < (g6 69 11).toInt := Int32.lt_iff_toInt_lt.mp (t_nle h271)
            refine ev_loc f_X12_byteAt (nx := 9) rfl rfl rfl rfl ?_
            refine ev_getR f_X12_byteAt (nx := 12) rfl (hI.wf.s rfl) rfl rfl (hI.wf.r rfl) rfl rfl ?_
            refine ev_loc f_X12_byteAt (nx := 13) rfl rfl rfl rfl ?_
            refine ev_baldT f_X12_byteAt (nx := 14) rfl (hI.wf.s rfl) rfl l5 (by decide) u15 (by decide) rfl (fun w279 e279 => ?_)
            rw [e279.trans ((by rw [e19]; exact x_up2_off (Or.inl (by decide)) : g19 76 (gi3 69 14).toNatClampNeg = g6 76 (gi3 69 14).toNatClampNeg).trans e17.symm)]
            refine ev_sp f_X12_byteAt (nx := 17) (v := 255) rfl (by decide) rfl ?_
            refine ev_andE f_X12_byteAt (nx := 18) (c := 255) rfl (by decide) (by decide) rfl (fun z280 e280 l280 u280 => ?_)
            rw [e280.trans e18.symm]
            refine ev_jmp f_X12_byteAt (nx := 22) rfl rfl rfl ?_
            refine ev_retK1 f_X12_byteAt rfl rfl rfl ?_
            refine ev_inS1 f_X12_ahead (nx := 92) (lo2 := [(0, .int z18)]) rfl rfl rfl rfl f_X12_isSmall rfl rfl rfl rfl ?_
            refine ev_loc f_X12_isSmall (nx := 1) rfl rfl rfl rfl ?_
            refine ev_bp f_X12_isSmall (nx := 3) (v := 97) rfl (by decide) rfl ?_
            refine ev_f f_X12_isSmall (t1 := 16) (t2 := 6) rfl rfl rfl (t_ltF (by decide : (97:Int32).toInt ≤ (97:Int)) l262 (by decide)) ?_
            refine ev_loc f_X12_isSmall (nx := 7) rfl rfl rfl rfl ?_
            refine ev_bp f_X12_isSmall (nx := 9) (v := 122) rfl (by decide) rfl ?_
            refine ev_f f_X12_isSmall (t1 := 16) (t2 := 12) rfl rfl rfl (t_ltF u270 (by decide : (122:Int) ≤ (122:Int32).toInt) (by decide)) ?_
            refine ev_ic f_X12_isSmall (nx := 13) (v := 1) rfl (by decide) rfl ?_
            refine ev_jmp f_X12_isSmall (nx := 17) rfl rfl rfl ?_
            refine ev_retK1 f_X12_isSmall rfl rfl rfl ?_
            refine ev_f f_X12_ahead (t1 := 108) (t2 := 95) rfl rfl rfl (by decide) ?_
            refine ev_loc f_X12_ahead (nx := 96) rfl rfl rfl rfl ?_
            refine ev_alu f_X12_ahead (nx := 97) rfl rfl rfl rfl ?_
            refine ev_gvI f_X12_ahead (nx := 100) (w := (gi3 69 14)) rfl (hI.wf.s rfl) rfl rfl ((by rw [e19]; exact x_up2_off (Or.inr (by decide)) : g19 69 14 = g6 69 14).trans ((by rw [e6]; exact x_up2_off (Or.inr (by decide)) : g6 69 14 = gi3 69 14).trans rfl)) rfl ?_
            refine ev_ic f_X12_ahead (nx := 101) (v := 1) rfl (by decide) rfl ?_
            refine ev_addC f_X12_ahead (nx := 102) (c := 1) (l := 1) (u := 900) rfl (by decide) l5 u15 rfl rfl (by decide) (by decide) rfl (fun z281 e281 l281 u281 => ?_)
            refine ev_putIT f_X12_ahead (nx := 105) rfl (hI.wf.s rfl) rfl rfl rfl (hI.putB (hI.wf.s rfl) rfl rfl l281 (by decide) u281 (by decide)) (hX.upI rfl) (fun g282 e282 hI hX => ?_)
            refine ev_jmp f_X12_ahead (nx := 81) rfl rfl rfl ?_
            have L283 : ∀ (m283 : Nat) (gi283 : Nat → Nat → Int32) (gl283 : Nat → Nat → Int64) (gr283 : Nat → Nat → Value), t_I sh gi283 gr283 → t_X wl_m_ahead sh gi gl gr gi283 gl283 gr283 → gi283 69 11 = (g6 69 11) → gi283 69 12 = (gi3 69 12) → gi283 69 13 = (gi3 69 14) → (gi 69 14).toInt < (gi283 69 14).toInt → (900 - (gi283 69 14).toInt).toNat = m283 → x_Ev X (d + 2) n_X12_ahead 81 [(1, .int z18), (0, .ref 69)] [] (sh, gi283, gl283, gr283) (t_PN wl_m_ahead sh gi gl gr (Q_m_ahead gi gl gr)) := by
              intro m283
              induction m283 using Nat.strongRecOn with
              | _ m283 ih283 =>
              intro gi283 gl283 gr283 hI hX c283_0 c283_1 c283_2 j283_0 hm283
              obtain ⟨l284, u284⟩ := hI.b (hI.wf.s (k := 69) rfl) (t_bdK rfl : t_bd 11 14 = some (0, 900))
              refine ev_loc f_X12_ahead (nx := 82) rfl rfl rfl rfl ?_
              refine ev_loc f_X12_ahead (nx := 83) rfl rfl rfl rfl ?_
              refine ev_gvI f_X12_ahead (nx := 86) (w := (gi283 69 14)) rfl (hI.wf.s rfl) rfl rfl rfl rfl ?_
              refine ev_inV2 f_X12_ahead (nx := 89) (lo2 := [(0, .ref 69), (1, .int (gi283 69 14))]) rfl rfl rfl rfl f_X12_byteAt (hI.wf.s rfl) rfl rfl rfl rfl rfl ?_
              refine ev_loc f_X12_byteAt (nx := 1) rfl rfl rfl rfl ?_
              refine ev_loc f_X12_byteAt (nx := 2) rfl rfl rfl rfl ?_
              refine ev_gvI f_X12_byteAt (nx := 5) (w := (g6 69 11)) rfl (hI.wf.s rfl) rfl rfl c283_0 rfl ?_
              refine ev_if f_X12_byteAt (t1 := 21) (t2 := 8) rfl rfl rfl (fun h285 => ?_) (fun h285 => ?_)
              · have r286 : (g6 69 11).toInt ≤ (gi283 69 14).toInt := Int32.le_iff_toInt_le.mp h285
                have l287 : 1 ≤ (gi283 69 14).toInt := t_lel h285 l16
                refine ev_ic f_X12_byteAt (nx := 22) (v := -1) rfl (by decide) rfl ?_
                refine ev_retK1 f_X12_byteAt rfl rfl rfl ?_
                refine ev_inS1 f_X12_ahead (nx := 92) (lo2 := [(0, .int (-1))]) rfl rfl rfl rfl f_X12_isSmall rfl rfl rfl rfl ?_
                refine ev_loc f_X12_isSmall (nx := 1) rfl rfl rfl rfl ?_
                refine ev_bp f_X12_isSmall (nx := 3) (v := 97) rfl (by decide) rfl ?_
                refine ev_t f_X12_isSmall (t1 := 16) (t2 := 6) rfl rfl rfl (by decide) ?_
                refine ev_ic f_X12_isSmall (nx := 17) (v := 0) rfl (by decide) rfl ?_
                refine ev_retK1 f_X12_isSmall rfl rfl rfl ?_
                refine ev_t f_X12_ahead (t1 := 108) (t2 := 95) rfl rfl rfl (by decide) ?_
                refine ev_loc f_X12_ahead (nx := 109) rfl rfl rfl rfl ?_
                refine ev_ic f_X12_ahead (nx := 110) (v := 2) rfl (by decide) rfl ?_
                refine ev_putIT f_X12_ahead (nx := 113) rfl (hI.wf.s rfl) rfl rfl rfl (hI.putB (hI.wf.s rfl) rfl rfl (by decide : (2:Int) ≤ (2:Int32).toInt) (by decide) (by decide : (2:Int32).toInt ≤ (2:Int)) (by decide)) (hX.upI rfl) (fun g288 e288 hI hX => ?_)
                refine ev_jmp f_X12_ahead (nx := 263) rfl rfl rfl ?_
                exact ev_ret f_X12_ahead rfl rfl rfl ⟨_, _, _, rfl, hI, hX, ⟨rfl, (show (gi 69 14).toInt ≤ (g288 69 14).toInt ∧ ((g288 69 12).toInt ≠ 0 → (gi 69 14).toInt < (g288 69 14).toInt) from (by have ff289 : (g288 69 14).toInt = (gi283 69 14).toInt := congrArg Int32.toInt ((by rw [e288]; exact x_up2_off (Or.inr (by decide)) : g288 69 14 = gi283 69 14).trans rfl); have ff290 : (g288 69 12).toInt = 2 := (congrArg Int32.toInt (by rw [e288]; exact x_up2_at _ _ _ _ : g288 69 12 = 2)).trans (by decide); omega))⟩⟩
              · have r291 : (gi283 69 14).toInt < (g6 69 11).toInt := Int32.lt_iff_toInt_lt.mp (t_nle h285)
                have u292 : (gi283 69 14).toInt ≤ 899 := t_ltu (t_nle h285) u7 rfl
                refine ev_loc f_X12_byteAt (nx := 9) rfl rfl rfl rfl ?_
                refine ev_getR f_X12_byteAt (nx := 12) rfl (hI.wf.s rfl) rfl rfl (hI.wf.r rfl) rfl rfl ?_
                refine ev_loc f_X12_byteAt (nx := 13) rfl rfl rfl rfl ?_
                refine ev_baldT f_X12_byteAt (nx := 14) rfl (hI.wf.s rfl) rfl l284 (by decide) u292 (by decide) rfl (fun w293 e293 => ?_)
                refine ev_sp f_X12_byteAt (nx := 17) (v := 255) rfl (by decide) rfl ?_
                refine ev_andE f_X12_byteAt (nx := 18) (c := 255) rfl (by decide) (by decide) rfl (fun z294 e294 l294 u294 => ?_)
                refine ev_jmp f_X12_byteAt (nx := 22) rfl rfl rfl ?_
                refine ev_retK1 f_X12_byteAt rfl rfl rfl ?_
                refine ev_inS1 f_X12_ahead (nx := 92) (lo2 := [(0, .int z294)]) rfl rfl rfl rfl f_X12_isSmall rfl rfl rfl rfl ?_
                refine ev_loc f_X12_isSmall (nx := 1) rfl rfl rfl rfl ?_
                refine ev_bp f_X12_isSmall (nx := 3) (v := 97) rfl (by decide) rfl ?_
                refine ev_if f_X12_isSmall (t1 := 16) (t2 := 6) rfl rfl rfl (fun h295 => ?_) (fun h295 => ?_)
                · have u296 : z294.toInt ≤ 96 := t_ltu h295 (by decide : (97:Int32).toInt ≤ (97:Int)) rfl
                  refine ev_ic f_X12_isSmall (nx := 17) (v := 0) rfl (by decide) rfl ?_
                  refine ev_retK1 f_X12_isSmall rfl rfl rfl ?_
                  refine ev_t f_X12_ahead (t1 := 108) (t2 := 95) rfl rfl rfl (by decide) ?_
                  refine ev_loc f_X12_ahead (nx := 109) rfl rfl rfl rfl ?_
                  refine ev_ic f_X12_ahead (nx := 110) (v := 2) rfl (by decide) rfl ?_
                  refine ev_putIT f_X12_ahead (nx := 113) rfl (hI.wf.s rfl) rfl rfl rfl (hI.putB (hI.wf.s rfl) rfl rfl (by decide : (2:Int) ≤ (2:Int32).toInt) (by decide) (by decide : (2:Int32).toInt ≤ (2:Int)) (by decide)) (hX.upI rfl) (fun g297 e297 hI hX => ?_)
                  refine ev_jmp f_X12_ahead (nx := 263) rfl rfl rfl ?_
                  exact ev_ret f_X12_ahead rfl rfl rfl ⟨_, _, _, rfl, hI, hX, ⟨rfl, (show (gi 69 14).toInt ≤ (g297 69 14).toInt ∧ ((g297 69 12).toInt ≠ 0 → (gi 69 14).toInt < (g297 69 14).toInt) from (by have ff298 : (g297 69 14).toInt = (gi283 69 14).toInt := congrArg Int32.toInt ((by rw [e297]; exact x_up2_off (Or.inr (by decide)) : g297 69 14 = gi283 69 14).trans rfl); have ff299 : (g297 69 12).toInt = 2 := (congrArg Int32.toInt (by rw [e297]; exact x_up2_at _ _ _ _ : g297 69 12 = 2)).trans (by decide); omega))⟩⟩
                · have l300 : 97 ≤ z294.toInt := t_lel (t_nlt h295) (by decide : (97:Int) ≤ (97:Int32).toInt)
                  refine ev_loc f_X12_isSmall (nx := 7) rfl rfl rfl rfl ?_
                  refine ev_bp f_X12_isSmall (nx := 9) (v := 122) rfl (by decide) rfl ?_
                  refine ev_if f_X12_isSmall (t1 := 16) (t2 := 12) rfl rfl rfl (fun h301 => ?_) (fun h301 => ?_)
                  · have l302 : 123 ≤ z294.toInt := t_ltl h301 (by decide : (122:Int) ≤ (122:Int32).toInt) rfl
                    refine ev_ic f_X12_isSmall (nx := 17) (v := 0) rfl (by decide) rfl ?_
                    refine ev_retK1 f_X12_isSmall rfl rfl rfl ?_
                    refine ev_t f_X12_ahead (t1 := 108) (t2 := 95) rfl rfl rfl (by decide) ?_
                    refine ev_loc f_X12_ahead (nx := 109) rfl rfl rfl rfl ?_
                    refine ev_ic f_X12_ahead (nx := 110) (v := 2) rfl (by decide) rfl ?_
                    refine ev_putIT f_X12_ahead (nx := 113) rfl (hI.wf.s rfl) rfl rfl rfl (hI.putB (hI.wf.s rfl) rfl rfl (by decide : (2:Int) ≤ (2:Int32).toInt) (by decide) (by decide : (2:Int32).toInt ≤ (2:Int)) (by decide)) (hX.upI rfl) (fun g303 e303 hI hX => ?_)
                    refine ev_jmp f_X12_ahead (nx := 263) rfl rfl rfl ?_
                    exact ev_ret f_X12_ahead rfl rfl rfl ⟨_, _, _, rfl, hI, hX, ⟨rfl, (show (gi 69 14).toInt ≤ (g303 69 14).toInt ∧ ((g303 69 12).toInt ≠ 0 → (gi 69 14).toInt < (g303 69 14).toInt) from (by have ff304 : (g303 69 14).toInt = (gi283 69 14).toInt := congrArg Int32.toInt ((by rw [e303]; exact x_up2_off (Or.inr (by decide)) : g303 69 14 = gi283 69 14).trans rfl); have ff305 : (g303 69 12).toInt = 2 := (congrArg Int32.toInt (by rw [e303]; exact x_up2_at _ _ _ _ : g303 69 12 = 2)).trans (by decide); omega))⟩⟩
                  · have u306 : z294.toInt ≤ 122 := t_leu (t_nlt h301) (by decide : (122:Int32).toInt ≤ (122:Int))
                    refine ev_ic f_X12_isSmall (nx := 13) (v := 1) rfl (by decide) rfl ?_
                    refine ev_jmp f_X12_isSmall (nx := 17) rfl rfl rfl ?_
                    refine ev_retK1 f_X12_isSmall rfl rfl rfl ?_
                    refine ev_f f_X12_ahead (t1 := 108) (t2 := 95) rfl rfl rfl (by decide) ?_
                    refine ev_loc f_X12_ahead (nx := 96) rfl rfl rfl rfl ?_
                    refine ev_alu f_X12_ahead (nx := 97) rfl rfl rfl rfl ?_
                    refine ev_gvI f_X12_ahead (nx := 100) (w := (gi283 69 14)) rfl (hI.wf.s rfl) rfl rfl rfl rfl ?_
                    refine ev_ic f_X12_ahead (nx := 101) (v := 1) rfl (by decide) rfl ?_
                    refine ev_addC f_X12_ahead (nx := 102) (c := 1) (l := 1) (u := 900) rfl (by decide) l284 u292 rfl rfl (by decide) (by decide) rfl (fun z307 e307 l307 u307 => ?_)
                    refine ev_putIT f_X12_ahead (nx := 105) rfl (hI.wf.s rfl) rfl rfl rfl (hI.putB (hI.wf.s rfl) rfl rfl l307 (by decide) u307 (by decide)) (hX.upI rfl) (fun g308 e308 hI hX => ?_)
                    refine ev_jmp f_X12_ahead (nx := 81) rfl rfl rfl ?_
                    refine ev_sub (lo := [(1, .int z18), (0, .ref 69)]) rfl (t_sc rfl (t_sc rfl t_sn)) ?_
                    exact ih283 _ (by have ff310 : (g308 69 14).toInt = z307.toInt := congrArg Int32.toInt (by rw [e308]; exact x_up2_at _ _ _ _ : g308 69 14 = z307); omega) g308 gl283 gr283  hI hX  ((by rw [e308]; exact x_up2_off (Or.inr (by decide)) : g308 69 11 = gi283 69 11).trans c283_0) ((by rw [e308]; exact x_up2_off (Or.inr (by decide)) : g308 69 12 = gi283 69 12).trans c283_1) ((by rw [e308]; exact x_up2_off (Or.inr (by decide)) : g308 69 13 = gi283 69 13).trans c283_2) (by have ff309 : (g308 69 14).toInt = z307.toInt := congrArg Int32.toInt (by rw [e308]; exact x_up2_at _ _ _ _ : g308 69 14 = z307); omega) rfl
            refine ev_sub (lo := [(1, .int z18), (0, .ref 69)]) rfl (t_sc rfl (t_sc rfl t_sn)) ?_
            exact L283 _ g282 gl3 gr3  hI hX  ((by rw [e282]; exact x_up2_off (Or.inr (by decide)) : g282 69 11 = g19 69 11).trans ((by rw [e19]; exact x_up2_off (Or.inr (by decide)) : g19 69 11 = g6 69 11).trans rfl)) ((by rw [e282]; exact x_up2_off (Or.inr (by decide)) : g282 69 12 = g19 69 12).trans ((by rw [e19]; exact x_up2_off (Or.inr (by decide)) : g19 69 12 = g6 69 12).trans ((by rw [e6]; exact x_up2_off (Or.inr (by decide)) : g6 69 12 = gi3 69 12).trans rfl))) ((by rw [e282]; exact x_up2_off (Or.inr (by decide)) : g282 69 13 = g19 69 13).trans ((by rw [e19]; exact x_up2_off (Or.inr (by decide)) : g19 69 13 = g6 69 13).trans (by rw [e6]; exact x_up2_at _ _ _ _ : g6 69 13 = (gi3 69 14)))) (by have ff311 : (g282 69 14).toInt = z281.toInt := congrArg Int32.toInt (by rw [e282]; exact x_up2_at _ _ _ _ : g282 69 14 = z281); omega) rfl
  have L312 : ∀ (m312 : Nat) (gi312 : Nat → Nat → Int32) (gl312 : Nat → Nat → Int64) (gr312 : Nat → Nat → Value), t_I sh gi312 gr312 → t_X wl_m_ahead sh gi gl gr gi312 gl312 gr312 → gi312 69 12 = (gi 69 12) → (gi 69 14).toInt ≤ (gi312 69 14).toInt → (900 - (gi312 69 14).toInt).toNat = m312 → x_Ev X (d + 2) n_X12_ahead 0 [(0, .ref 69)] [] (sh, gi312, gl312, gr312) (t_PN wl_m_ahead sh gi gl gr (Q_m_ahead gi gl gr)) := by
    intro m312
    induction m312 using Nat.strongRecOn with
    | _ m312 ih312 =>
    intro gi312 gl312 gr312 hI hX c312_0 j312_0 hm312
    obtain ⟨l313, u313⟩ := hI.b (hI.wf.s (k := 69) rfl) (t_bdK rfl : t_bd 11 14 = some (0, 900))
    refine ev_loc f_X12_ahead (nx := 1) rfl rfl rfl rfl ?_
    refine ev_loc f_X12_ahead (nx := 2) rfl rfl rfl rfl ?_
    refine ev_gvI f_X12_ahead (nx := 5) (w := (gi312 69 14)) rfl (hI.wf.s rfl) rfl rfl rfl rfl ?_
    refine ev_inV2 f_X12_ahead (nx := 8) (lo2 := [(0, .ref 69), (1, .int (gi312 69 14))]) rfl rfl rfl rfl f_X12_byteAt (hI.wf.s rfl) rfl rfl rfl rfl rfl ?_
    refine ev_loc f_X12_byteAt (nx := 1) rfl rfl rfl rfl ?_
    refine ev_loc f_X12_byteAt (nx := 2) rfl rfl rfl rfl ?_
    refine ev_getI f_X12_byteAt (nx := 5) rfl (hI.wf.s rfl) rfl rfl rfl ?_
    obtain ⟨l314, u314⟩ := hI.b (hI.wf.s (k := 69) rfl) (t_bdK rfl : t_bd 11 11 = some (0, 900))
    refine ev_if f_X12_byteAt (t1 := 21) (t2 := 8) rfl rfl rfl (fun h315 => ?_) (fun h315 => ?_)
    · have r316 : (gi312 69 11).toInt ≤ (gi312 69 14).toInt := Int32.le_iff_toInt_le.mp h315
      refine ev_ic f_X12_byteAt (nx := 22) (v := -1) rfl (by decide) rfl ?_
      refine ev_retK1 f_X12_byteAt rfl rfl rfl ?_
      refine ev_bp f_X12_ahead (nx := 10) (v := 32) rfl (by decide) rfl ?_
      refine ev_f f_X12_ahead (t1 := 26) (t2 := 13) rfl rfl rfl (by decide) ?_
      refine ev_loc f_X12_ahead (nx := 14) rfl rfl rfl rfl ?_
      refine ev_loc f_X12_ahead (nx := 15) rfl rfl rfl rfl ?_
      refine ev_gvI f_X12_ahead (nx := 18) (w := (gi312 69 14)) rfl (hI.wf.s rfl) rfl rfl rfl rfl ?_
      refine ev_inV2 f_X12_ahead (nx := 21) (lo2 := [(0, .ref 69), (1, .int (gi312 69 14))]) rfl rfl rfl rfl f_X12_byteAt (hI.wf.s rfl) rfl rfl rfl rfl rfl ?_
      refine ev_loc f_X12_byteAt (nx := 1) rfl rfl rfl rfl ?_
      refine ev_loc f_X12_byteAt (nx := 2) rfl rfl rfl rfl ?_
      refine ev_gvI f_X12_byteAt (nx := 5) (w := (gi312 69 11)) rfl (hI.wf.s rfl) rfl rfl rfl rfl ?_
      refine ev_if f_X12_byteAt (t1 := 21) (t2 := 8) rfl rfl rfl (fun h317 => ?_) (fun h317 => ?_)
      · have r318 : (gi312 69 11).toInt ≤ (gi312 69 14).toInt := Int32.le_iff_toInt_le.mp h317
        refine ev_ic f_X12_byteAt (nx := 22) (v := -1) rfl (by decide) rfl ?_
        refine ev_retK1 f_X12_byteAt rfl rfl rfl ?_
        refine ev_bp f_X12_ahead (nx := 23) (v := 10) rfl (by decide) rfl ?_
        refine ev_f f_X12_ahead (t1 := 26) (t2 := 39) rfl rfl rfl (by decide) ?_
        refine ev_sub (lo := [(0, .ref 69)]) rfl (t_sc rfl t_sn) ?_
        exact L3 gi312 gl312 gr312  hI hX  (by omega)
      · have r319 : (gi312 69 14).toInt < (gi312 69 11).toInt := Int32.lt_iff_toInt_lt.mp (t_nle h317)
        have u320 : (gi312 69 14).toInt ≤ 899 := t_ltu (t_nle h317) u314 rfl
        have l321 : 1 ≤ (gi312 69 11).toInt := t_ltl (t_nle h317) l313 rfl
        refine ev_loc f_X12_byteAt (nx := 9) rfl rfl rfl rfl ?_
        refine ev_getR f_X12_byteAt (nx := 12) rfl (hI.wf.s rfl) rfl rfl (hI.wf.r rfl) rfl rfl ?_
        refine ev_loc f_X12_byteAt (nx := 13) rfl rfl rfl rfl ?_
        refine ev_baldT f_X12_byteAt (nx := 14) rfl (hI.wf.s rfl) rfl l313 (by decide) u320 (by decide) rfl (fun w322 e322 => ?_)
        refine ev_sp f_X12_byteAt (nx := 17) (v := 255) rfl (by decide) rfl ?_
        refine ev_andE f_X12_byteAt (nx := 18) (c := 255) rfl (by decide) (by decide) rfl (fun z323 e323 l323 u323 => ?_)
        refine ev_jmp f_X12_byteAt (nx := 22) rfl rfl rfl ?_
        refine ev_retK1 f_X12_byteAt rfl rfl rfl ?_
        refine ev_bp f_X12_ahead (nx := 23) (v := 10) rfl (by decide) rfl ?_
        refine ev_if f_X12_ahead (t1 := 26) (t2 := 39) rfl rfl rfl (fun h324 => ?_) (fun h324 => ?_)
        · have u325 : z323.toInt ≤ 10 := t_equ h324 (by decide : (10:Int32).toInt ≤ (10:Int))
          have l326 : 10 ≤ z323.toInt := t_eql h324 (by decide : (10:Int) ≤ (10:Int32).toInt)
          refine ev_loc f_X12_ahead (nx := 27) rfl rfl rfl rfl ?_
          refine ev_alu f_X12_ahead (nx := 28) rfl rfl rfl rfl ?_
          refine ev_gvI f_X12_ahead (nx := 31) (w := (gi312 69 14)) rfl (hI.wf.s rfl) rfl rfl rfl rfl ?_
          refine ev_ic f_X12_ahead (nx := 32) (v := 1) rfl (by decide) rfl ?_
          refine ev_addC f_X12_ahead (nx := 33) (c := 1) (l := 1) (u := 900) rfl (by decide) l313 u320 rfl rfl (by decide) (by decide) rfl (fun z327 e327 l327 u327 => ?_)
          refine ev_putIT f_X12_ahead (nx := 36) rfl (hI.wf.s rfl) rfl rfl rfl (hI.putB (hI.wf.s rfl) rfl rfl l327 (by decide) u327 (by decide)) (hX.upI rfl) (fun g328 e328 hI hX => ?_)
          refine ev_jmp f_X12_ahead (nx := 0) rfl rfl rfl ?_
          refine ev_sub (lo := [(0, .ref 69)]) rfl (t_sc rfl t_sn) ?_
          exact ih312 _ (by have ff330 : (g328 69 14).toInt = z327.toInt := congrArg Int32.toInt (by rw [e328]; exact x_up2_at _ _ _ _ : g328 69 14 = z327); omega) g328 gl312 gr312  hI hX  ((by rw [e328]; exact x_up2_off (Or.inr (by decide)) : g328 69 12 = gi312 69 12).trans c312_0) (by have ff329 : (g328 69 14).toInt = z327.toInt := congrArg Int32.toInt (by rw [e328]; exact x_up2_at _ _ _ _ : g328 69 14 = z327); omega) rfl
        · have r331 : z323.toInt ≠ 10 := fun e => h324 (Int32.toInt_inj.mp (e.trans (by decide : (10:Int) = (10 : Int32).toInt)))
          refine ev_sub (lo := [(0, .ref 69)]) rfl (t_sc rfl t_sn) ?_
          exact L3 gi312 gl312 gr312  hI hX  (by omega)
    · have r332 : (gi312 69 14).toInt < (gi312 69 11).toInt := Int32.lt_iff_toInt_lt.mp (t_nle h315)
      have u333 : (gi312 69 14).toInt ≤ 899 := t_ltu (t_nle h315) u314 rfl
      have l334 : 1 ≤ (gi312 69 11).toInt := t_ltl (t_nle h315) l313 rfl
      refine ev_loc f_X12_byteAt (nx := 9) rfl rfl rfl rfl ?_
      refine ev_getR f_X12_byteAt (nx := 12) rfl (hI.wf.s rfl) rfl rfl (hI.wf.r rfl) rfl rfl ?_
      refine ev_loc f_X12_byteAt (nx := 13) rfl rfl rfl rfl ?_
      refine ev_baldT f_X12_byteAt (nx := 14) rfl (hI.wf.s rfl) rfl l313 (by decide) u333 (by decide) rfl (fun w335 e335 => ?_)
      refine ev_sp f_X12_byteAt (nx := 17) (v := 255) rfl (by decide) rfl ?_
      refine ev_andE f_X12_byteAt (nx := 18) (c := 255) rfl (by decide) (by decide) rfl (fun z336 e336 l336 u336 => ?_)
      refine ev_jmp f_X12_byteAt (nx := 22) rfl rfl rfl ?_
      refine ev_retK1 f_X12_byteAt rfl rfl rfl ?_
      refine ev_bp f_X12_ahead (nx := 10) (v := 32) rfl (by decide) rfl ?_
      refine ev_if f_X12_ahead (t1 := 26) (t2 := 13) rfl rfl rfl (fun h337 => ?_) (fun h337 => ?_)
      · have u338 : z336.toInt ≤ 32 := t_equ h337 (by decide : (32:Int32).toInt ≤ (32:Int))
        have l339 : 32 ≤ z336.toInt := t_eql h337 (by decide : (32:Int) ≤ (32:Int32).toInt)
        refine ev_loc f_X12_ahead (nx := 27) rfl rfl rfl rfl ?_
        refine ev_alu f_X12_ahead (nx := 28) rfl rfl rfl rfl ?_
        refine ev_gvI f_X12_ahead (nx := 31) (w := (gi312 69 14)) rfl (hI.wf.s rfl) rfl rfl rfl rfl ?_
        refine ev_ic f_X12_ahead (nx := 32) (v := 1) rfl (by decide) rfl ?_
        refine ev_addC f_X12_ahead (nx := 33) (c := 1) (l := 1) (u := 900) rfl (by decide) l313 u333 rfl rfl (by decide) (by decide) rfl (fun z340 e340 l340 u340 => ?_)
        refine ev_putIT f_X12_ahead (nx := 36) rfl (hI.wf.s rfl) rfl rfl rfl (hI.putB (hI.wf.s rfl) rfl rfl l340 (by decide) u340 (by decide)) (hX.upI rfl) (fun g341 e341 hI hX => ?_)
        refine ev_jmp f_X12_ahead (nx := 0) rfl rfl rfl ?_
        refine ev_sub (lo := [(0, .ref 69)]) rfl (t_sc rfl t_sn) ?_
        exact ih312 _ (by have ff343 : (g341 69 14).toInt = z340.toInt := congrArg Int32.toInt (by rw [e341]; exact x_up2_at _ _ _ _ : g341 69 14 = z340); omega) g341 gl312 gr312  hI hX  ((by rw [e341]; exact x_up2_off (Or.inr (by decide)) : g341 69 12 = gi312 69 12).trans c312_0) (by have ff342 : (g341 69 14).toInt = z340.toInt := congrArg Int32.toInt (by rw [e341]; exact x_up2_at _ _ _ _ : g341 69 14 = z340); omega) rfl
      · have r344 : z336.toInt ≠ 32 := fun e => h337 (Int32.toInt_inj.mp (e.trans (by decide : (32:Int) = (32 : Int32).toInt)))
        refine ev_loc f_X12_ahead (nx := 14) rfl rfl rfl rfl ?_
        refine ev_loc f_X12_ahead (nx := 15) rfl rfl rfl rfl ?_
        refine ev_gvI f_X12_ahead (nx := 18) (w := (gi312 69 14)) rfl (hI.wf.s rfl) rfl rfl rfl rfl ?_
        refine ev_inV2 f_X12_ahead (nx := 21) (lo2 := [(0, .ref 69), (1, .int (gi312 69 14))]) rfl rfl rfl rfl f_X12_byteAt (hI.wf.s rfl) rfl rfl rfl rfl rfl ?_
        refine ev_loc f_X12_byteAt (nx := 1) rfl rfl rfl rfl ?_
        refine ev_loc f_X12_byteAt (nx := 2) rfl rfl rfl rfl ?_
        refine ev_gvI f_X12_byteAt (nx := 5) (w := (gi312 69 11)) rfl (hI.wf.s rfl) rfl rfl rfl rfl ?_
        refine ev_if f_X12_byteAt (t1 := 21) (t2 := 8) rfl rfl rfl (fun h345 => ?_) (fun h345 => ?_)
        · have r346 : (gi312 69 11).toInt ≤ (gi312 69 14).toInt := Int32.le_iff_toInt_le.mp h345
          have u347 : (gi312 69 11).toInt ≤ 899 := t_leu h345 u333
          have l348 : 1 ≤ (gi312 69 14).toInt := t_lel h345 l334
          refine ev_ic f_X12_byteAt (nx := 22) (v := -1) rfl (by decide) rfl ?_
          refine ev_retK1 f_X12_byteAt rfl rfl rfl ?_
          refine ev_bp f_X12_ahead (nx := 23) (v := 10) rfl (by decide) rfl ?_
          refine ev_f f_X12_ahead (t1 := 26) (t2 := 39) rfl rfl rfl (by decide) ?_
          refine ev_sub (lo := [(0, .ref 69)]) rfl (t_sc rfl t_sn) ?_
          exact L3 gi312 gl312 gr312  hI hX  (by omega)
        · have r349 : (gi312 69 14).toInt < (gi312 69 11).toInt := Int32.lt_iff_toInt_lt.mp (t_nle h345)
          refine ev_loc f_X12_byteAt (nx := 9) rfl rfl rfl rfl ?_
          refine ev_getR f_X12_byteAt (nx := 12) rfl (hI.wf.s rfl) rfl rfl (hI.wf.r rfl) rfl rfl ?_
          refine ev_loc f_X12_byteAt (nx := 13) rfl rfl rfl rfl ?_
          refine ev_baldT f_X12_byteAt (nx := 14) rfl (hI.wf.s rfl) rfl l313 (by decide) u333 (by decide) rfl (fun w350 e350 => ?_)
          rw [e350.trans e335.symm]
          refine ev_sp f_X12_byteAt (nx := 17) (v := 255) rfl (by decide) rfl ?_
          refine ev_andE f_X12_byteAt (nx := 18) (c := 255) rfl (by decide) (by decide) rfl (fun z351 e351 l351 u351 => ?_)
          rw [e351.trans e336.symm]
          refine ev_jmp f_X12_byteAt (nx := 22) rfl rfl rfl ?_
          refine ev_retK1 f_X12_byteAt rfl rfl rfl ?_
          refine ev_bp f_X12_ahead (nx := 23) (v := 10) rfl (by decide) rfl ?_
          refine ev_if f_X12_ahead (t1 := 26) (t2 := 39) rfl rfl rfl (fun h352 => ?_) (fun h352 => ?_)
          · have u353 : z336.toInt ≤ 10 := t_equ h352 (by decide : (10:Int32).toInt ≤ (10:Int))
            have l354 : 10 ≤ z336.toInt := t_eql h352 (by decide : (10:Int) ≤ (10:Int32).toInt)
            refine ev_loc f_X12_ahead (nx := 27) rfl rfl rfl rfl ?_
            refine ev_alu f_X12_ahead (nx := 28) rfl rfl rfl rfl ?_
            refine ev_gvI f_X12_ahead (nx := 31) (w := (gi312 69 14)) rfl (hI.wf.s rfl) rfl rfl rfl rfl ?_
            refine ev_ic f_X12_ahead (nx := 32) (v := 1) rfl (by decide) rfl ?_
            refine ev_addC f_X12_ahead (nx := 33) (c := 1) (l := 1) (u := 900) rfl (by decide) l313 u333 rfl rfl (by decide) (by decide) rfl (fun z355 e355 l355 u355 => ?_)
            refine ev_putIT f_X12_ahead (nx := 36) rfl (hI.wf.s rfl) rfl rfl rfl (hI.putB (hI.wf.s rfl) rfl rfl l355 (by decide) u355 (by decide)) (hX.upI rfl) (fun g356 e356 hI hX => ?_)
            refine ev_jmp f_X12_ahead (nx := 0) rfl rfl rfl ?_
            refine ev_sub (lo := [(0, .ref 69)]) rfl (t_sc rfl t_sn) ?_
            exact ih312 _ (by have ff358 : (g356 69 14).toInt = z355.toInt := congrArg Int32.toInt (by rw [e356]; exact x_up2_at _ _ _ _ : g356 69 14 = z355); omega) g356 gl312 gr312  hI hX  ((by rw [e356]; exact x_up2_off (Or.inr (by decide)) : g356 69 12 = gi312 69 12).trans c312_0) (by have ff357 : (g356 69 14).toInt = z355.toInt := congrArg Int32.toInt (by rw [e356]; exact x_up2_at _ _ _ _ : g356 69 14 = z355); omega) rfl
          · have r359 : z336.toInt ≠ 10 := fun e => h352 (Int32.toInt_inj.mp (e.trans (by decide : (10:Int) = (10 : Int32).toInt)))
            refine ev_sub (lo := [(0, .ref 69)]) rfl (t_sc rfl t_sn) ?_
            exact L3 gi312 gl312 gr312  hI hX  (by omega)
  refine ev_sub (lo := [(0, .ref 69)]) rfl (t_sc rfl t_sn) ?_
  exact L312 _ gi gl gr  hI hX  rfl (by omega) rfl
noncomputable def wl_m_begins : List (Nat × Nat) := [(69, 10), (69, 11), (69, 12), (69, 13), (69, 14), (69, 15), (69, 17), (69, 18), (69, 19), (76, 9999)]
noncomputable def Q_m_begins (gi : Nat → Nat → Int32) (gl : Nat → Nat → Int64) (gr : Nat → Nat → Value) (ar1 : Int32) (ar2 : Int32) : Int32 → (Nat → Nat → Int32) → (Nat → Nat → Int64) → (Nat → Nat → Value) → Prop := fun (v : Int32) (gi2 : Nat → Nat → Int32) (gl2 : Nat → Nat → Int64) (gr2 : Nat → Nat → Value) => (v.toInt = 1 → (0 ≤ ar1.toInt ∧ ar1.toInt ≤ (gi 69 10).toInt ∧ ar1.toInt ≤ ar2.toInt) ∧ (gi2 69 10).toInt = 0) ∧ (v.toInt = 0 → ¬ (0 ≤ ar1.toInt ∧ ar1.toInt ≤ (gi 69 10).toInt ∧ ar1.toInt ≤ ar2.toInt) ∧ (gi2 69 10).toInt = (gi 69 10).toInt)
theorem c_m_begins {X : x_Ext} {d : Nat} {sh : List (Nat ⊕ (Nat × Nat))} {gi : Nat → Nat → Int32} {gl : Nat → Nat → Int64} {gr : Nat → Nat → Value} (hI : t_I sh gi gr) (ar1 : Int32) (ar2 : Int32) : x_Me X (d + 3) n_X12_begins [.ref 69, .int ar1, .int ar2] (sh, gi, gl, gr) (t_PI wl_m_begins sh gi gl gr 0 1 (Q_m_begins gi gl gr ar1 ar2)) := by
  have hX : t_X wl_m_begins sh gi gl gr gi gl gr := t_X.rf
  refine me_i f_X12_begins (hI.wf.s rfl) rfl rfl rfl ?_
  obtain ⟨l1, u1⟩ := hI.b (hI.wf.s (k := 69) rfl) (t_bdK rfl : t_bd 11 10 = some (0, 900))
  refine ev_loc f_X12_begins (nx := 1) rfl rfl rfl rfl ?_
  refine ev_if f_X12_begins (t1 := 17) (t2 := 4) rfl rfl rfl (fun h2 => ?_) (fun h2 => ?_)
  · have u3 : ar1.toInt ≤ (-1) := t_ltu h2 (by decide : (0:Int32).toInt ≤ (0:Int)) rfl
    refine ev_ic f_X12_begins (nx := 18) (v := 0) rfl (by decide) rfl ?_
    exact ev_ret f_X12_begins rfl rfl rfl ⟨_, _, _, rfl, hI, hX, ⟨_, rfl, (by decide : (0:Int) ≤ (0:Int32).toInt), (Int.le_trans (by decide : (0:Int32).toInt ≤ (0:Int)) (by decide : (0:Int) ≤ 1)), (show (0 = 1 → (0 ≤ ar1.toInt ∧ ar1.toInt ≤ (gi 69 10).toInt ∧ ar1.toInt ≤ ar2.toInt) ∧ (gi 69 10).toInt = 0) ∧ (0 = 0 → ¬ (0 ≤ ar1.toInt ∧ ar1.toInt ≤ (gi 69 10).toInt ∧ ar1.toInt ≤ ar2.toInt) ∧ (gi 69 10).toInt = (gi 69 10).toInt) from (by omega))⟩⟩
  · have l4 : 0 ≤ ar1.toInt := t_lel (t_nlt h2) (by decide : (0:Int) ≤ (0:Int32).toInt)
    refine ev_loc f_X12_begins (nx := 5) rfl rfl rfl rfl ?_
    refine ev_loc f_X12_begins (nx := 6) rfl rfl rfl rfl ?_
    refine ev_gvI f_X12_begins (nx := 9) (w := (gi 69 10)) rfl (hI.wf.s rfl) rfl rfl rfl rfl ?_
    refine ev_if f_X12_begins (t1 := 17) (t2 := 12) rfl rfl rfl (fun h5 => ?_) (fun h5 => ?_)
    · have r6 : (gi 69 10).toInt < ar1.toInt := Int32.lt_iff_toInt_lt.mp h5
      have l7 : 1 ≤ ar1.toInt := t_ltl h5 l1 rfl
      refine ev_ic f_X12_begins (nx := 18) (v := 0) rfl (by decide) rfl ?_
      exact ev_ret f_X12_begins rfl rfl rfl ⟨_, _, _, rfl, hI, hX, ⟨_, rfl, (by decide : (0:Int) ≤ (0:Int32).toInt), (Int.le_trans (by decide : (0:Int32).toInt ≤ (0:Int)) (by decide : (0:Int) ≤ 1)), (show (0 = 1 → (0 ≤ ar1.toInt ∧ ar1.toInt ≤ (gi 69 10).toInt ∧ ar1.toInt ≤ ar2.toInt) ∧ (gi 69 10).toInt = 0) ∧ (0 = 0 → ¬ (0 ≤ ar1.toInt ∧ ar1.toInt ≤ (gi 69 10).toInt ∧ ar1.toInt ≤ ar2.toInt) ∧ (gi 69 10).toInt = (gi 69 10).toInt) from (by omega))⟩⟩
    · have r8 : ar1.toInt ≤ (gi 69 10).toInt := Int32.le_iff_toInt_le.mp (t_nlt h5)
      have u9 : ar1.toInt ≤ 900 := t_leu (t_nlt h5) u1
      refine ev_loc f_X12_begins (nx := 13) rfl rfl rfl rfl ?_
      refine ev_loc f_X12_begins (nx := 14) rfl rfl rfl rfl ?_
      refine ev_if f_X12_begins (t1 := 19) (t2 := 17) rfl rfl rfl (fun h10 => ?_) (fun h10 => ?_)
      · have r11 : ar1.toInt ≤ ar2.toInt := Int32.le_iff_toInt_le.mp h10
        have l12 : 0 ≤ ar2.toInt := t_lel h10 l4
        refine ev_loc f_X12_begins (nx := 20) rfl rfl rfl rfl ?_
        refine ev_loc f_X12_begins (nx := 21) rfl rfl rfl rfl ?_
        refine ev_putIT f_X12_begins (nx := 24) rfl (hI.wf.s rfl) rfl rfl rfl (hI.putB (hI.wf.s rfl) rfl rfl l4 (by decide) u9 (by decide)) (hX.upI rfl) (fun g13 e13 hI hX => ?_)
        refine ev_ic f_X12_begins (nx := 25) (v := 0) rfl (by decide) rfl ?_
        refine ev_loc f_X12_begins (nx := 26) (lo' := [(3, .int 0), (0, .ref 69), (1, .int ar1), (2, .int ar2)]) rfl rfl rfl rfl ?_
        have L14 : ∀ (m14 : Nat) (gi14 : Nat → Nat → Int32) (gl14 : Nat → Nat → Int64) (gr14 : Nat → Nat → Value) (y14_3 : Int32), t_I sh gi14 gr14 → t_X wl_m_begins sh gi gl gr gi14 gl14 gr14 → 0 ≤ y14_3.toInt → y14_3.toInt ≤ 900 → gi14 69 10 = (gi 69 10) → gi14 69 11 = ar1 → (900 - y14_3.toInt).toNat = m14 → x_Ev X (d + 3) n_X12_begins 26 [(3, .int y14_3), (0, .ref 69), (1, .int ar1), (2, .int ar2)] [] (sh, gi14, gl14, gr14) (t_PI wl_m_begins sh gi gl gr 0 1 (Q_m_begins gi gl gr ar1 ar2)) := by
          intro m14
          induction m14 using Nat.strongRecOn with
          | _ m14 ih14 =>
          intro gi14 gl14 gr14 y14_3 hI hX l14_3 u14_3 c14_0 c14_1 hm14
          refine ev_loc f_X12_begins (nx := 27) rfl rfl rfl rfl ?_
          refine ev_loc f_X12_begins (nx := 28) rfl rfl rfl rfl ?_
          refine ev_if f_X12_begins (t1 := 49) (t2 := 31) rfl rfl rfl (fun h15 => ?_) (fun h15 => ?_)
          · have r16 : ar1.toInt ≤ y14_3.toInt := Int32.le_iff_toInt_le.mp h15
            refine ev_loc f_X12_begins (nx := 50) rfl rfl rfl rfl ?_
            refine ev_ic f_X12_begins (nx := 51) (v := 0) rfl (by decide) rfl ?_
            refine ev_putIT f_X12_begins (nx := 54) rfl (hI.wf.s rfl) rfl rfl rfl (hI.putB (hI.wf.s rfl) rfl rfl (by decide : (0:Int) ≤ (0:Int32).toInt) (by decide) (by decide : (0:Int32).toInt ≤ (0:Int)) (by decide)) (hX.upI rfl) (fun g17 e17 hI hX => ?_)
            refine ev_loc f_X12_begins (nx := 55) rfl rfl rfl rfl ?_
            refine ev_ic f_X12_begins (nx := 56) (v := 0) rfl (by decide) rfl ?_
            refine ev_putIT f_X12_begins (nx := 59) rfl (hI.wf.s rfl) rfl rfl rfl (hI.put0 (hI.wf.s rfl) rfl rfl) (hX.upI rfl) (fun g18 e18 hI hX => ?_)
            refine ev_loc f_X12_begins (nx := 60) rfl rfl rfl rfl ?_
            refine ev_ic f_X12_begins (nx := 61) (v := -1) rfl (by decide) rfl ?_
            refine ev_putIT f_X12_begins (nx := 64) rfl (hI.wf.s rfl) rfl rfl rfl (hI.put0 (hI.wf.s rfl) rfl rfl) (hX.upI rfl) (fun g19 e19 hI hX => ?_)
            refine ev_loc f_X12_begins (nx := 65) rfl rfl rfl rfl ?_
            refine ev_ic f_X12_begins (nx := 66) (v := 0) rfl (by decide) rfl ?_
            refine ev_putIT f_X12_begins (nx := 69) rfl (hI.wf.s rfl) rfl rfl rfl (hI.putB (hI.wf.s rfl) rfl rfl (by decide : (0:Int) ≤ (0:Int32).toInt) (by decide) (by decide : (0:Int32).toInt ≤ (0:Int)) (by decide)) (hX.upI rfl) (fun g20 e20 hI hX => ?_)
            refine ev_loc f_X12_begins (nx := 70) rfl rfl rfl rfl ?_
            refine ev_ic f_X12_begins (nx := 71) (v := 0) rfl (by decide) rfl ?_
            refine ev_putIT f_X12_begins (nx := 74) rfl (hI.wf.s rfl) rfl rfl rfl (hI.put0 (hI.wf.s rfl) rfl rfl) (hX.upI rfl) (fun g21 e21 hI hX => ?_)
            refine ev_loc f_X12_begins (nx := 75) rfl rfl rfl rfl ?_
            refine ev_qN f_X12_begins (nx := 78) (r := []) rfl rfl rfl rfl rfl rfl rfl (c_m_ahead hI ) rfl hX rfl (fun gi22 gl22 gr22 hI hX hC22 q22 => ?_)
            have ff23 : (g21 69 14).toInt = 0 := (congrArg Int32.toInt ((by rw [e21]; exact x_up2_off (Or.inr (by decide)) : g21 69 14 = g20 69 14).trans (by rw [e20]; exact x_up2_at _ _ _ _ : g20 69 14 = 0))).trans (by decide)
            have q22 : (g21 69 14).toInt ≤ (gi22 69 14).toInt ∧ ((gi22 69 12).toInt ≠ 0 → (g21 69 14).toInt < (gi22 69 14).toInt) := q22
            refine ev_ic f_X12_begins (nx := 79) (v := 1) rfl (by decide) rfl ?_
            exact ev_ret f_X12_begins rfl rfl rfl ⟨_, _, _, rfl, hI, hX, ⟨_, rfl, (Int.le_trans (by decide : (0:Int) ≤ 1) (by decide : (1:Int) ≤ (1:Int32).toInt)), (by decide : (1:Int32).toInt ≤ (1:Int)), (show (1 = 1 → (0 ≤ ar1.toInt ∧ ar1.toInt ≤ (gi 69 10).toInt ∧ ar1.toInt ≤ ar2.toInt) ∧ (gi22 69 10).toInt = 0) ∧ (1 = 0 → ¬ (0 ≤ ar1.toInt ∧ ar1.toInt ≤ (gi 69 10).toInt ∧ ar1.toInt ≤ ar2.toInt) ∧ (gi22 69 10).toInt = (gi 69 10).toInt) from (by have ff24 : (gi22 69 10).toInt = 0 := (congrArg Int32.toInt ((hC22.1 69 10 rfl).1.trans ((by rw [e21]; exact x_up2_off (Or.inr (by decide)) : g21 69 10 = g20 69 10).trans ((by rw [e20]; exact x_up2_off (Or.inr (by decide)) : g20 69 10 = g19 69 10).trans ((by rw [e19]; exact x_up2_off (Or.inr (by decide)) : g19 69 10 = g18 69 10).trans ((by rw [e18]; exact x_up2_off (Or.inr (by decide)) : g18 69 10 = g17 69 10).trans (by rw [e17]; exact x_up2_at _ _ _ _ : g17 69 10 = 0))))))).trans (by decide); omega))⟩⟩
          · have r25 : y14_3.toInt < ar1.toInt := Int32.lt_iff_toInt_lt.mp (t_nle h15)
            have u26 : y14_3.toInt ≤ 899 := t_ltu (t_nle h15) u9 rfl
            have l27 : 1 ≤ ar1.toInt := t_ltl (t_nle h15) l14_3 rfl
            refine ev_loc f_X12_begins (nx := 32) rfl rfl rfl rfl ?_
            refine ev_getR f_X12_begins (nx := 35) rfl (hI.wf.s rfl) rfl rfl (hI.wf.r rfl) rfl rfl ?_
            refine ev_loc f_X12_begins (nx := 36) rfl rfl rfl rfl ?_
            refine ev_loc f_X12_begins (nx := 37) rfl rfl rfl rfl ?_
            refine ev_getR f_X12_begins (nx := 40) rfl (hI.wf.s rfl) rfl rfl (hI.wf.r rfl) rfl rfl ?_
            refine ev_loc f_X12_begins (nx := 41) rfl rfl rfl rfl ?_
            refine ev_baldT f_X12_begins (nx := 42) rfl (hI.wf.s rfl) rfl l14_3 (by decide) u26 (by decide) rfl (fun w28 e28 => ?_)
            refine ev_bastT f_X12_begins (nx := 43) rfl (hI.wf.s rfl) l14_3 (by decide) u26 (by decide) rfl (fun x => (hI.astG (hI.wf.s rfl) (fun lo hi e => absurd e (t_nob (by decide +kernel) _)) (fun k hk e => by have := hk.2.1; omega))) (fun x => hX.upI (t_inA_ok rfl)) (fun g29 x29 e29 hI hX => ?_)
            refine ev_incR f_X12_begins (nx := 46) (c := 1) (l := 1) (u := 900) rfl rfl (by decide) (by decide) l14_3 u26 rfl rfl (by decide) (by decide) rfl (fun z30 e30 l30 u30 => ?_)
            refine ev_jmp f_X12_begins (nx := 26) rfl rfl rfl ?_
            refine ev_sub (lo := [(3, .int z30), (0, .ref 69), (1, .int ar1), (2, .int ar2)]) rfl (t_sc rfl (t_sc rfl (t_sc rfl (t_sc rfl t_sn)))) ?_
            exact ih14 _ (by omega) g29 gl14 gr14 (z30) hI hX  (Int.le_trans (by decide : (0:Int) ≤ 1) l30) u30 ((by rw [e29]; exact x_up2_off (Or.inl (by decide)) : g29 69 10 = gi14 69 10).trans c14_0) ((by rw [e29]; exact x_up2_off (Or.inl (by decide)) : g29 69 11 = gi14 69 11).trans c14_1) rfl
        refine ev_sub (lo := [(3, .int 0), (0, .ref 69), (1, .int ar1), (2, .int ar2)]) rfl (t_sc rfl (t_sc rfl (t_sc rfl (t_sc rfl t_sn)))) ?_
        exact L14 _ g13 gl gr (0) hI hX  (by decide : (0:Int) ≤ (0:Int32).toInt) (Int.le_trans (by decide : (0:Int32).toInt ≤ (0:Int)) (by decide : (0:Int) ≤ 900)) ((by rw [e13]; exact x_up2_off (Or.inr (by decide)) : g13 69 10 = gi 69 10).trans rfl) (by rw [e13]; exact x_up2_at _ _ _ _ : g13 69 11 = ar1) rfl
      · have r31 : ar2.toInt < ar1.toInt := Int32.lt_iff_toInt_lt.mp (t_nle h10)
        have u32 : ar2.toInt ≤ 899 := t_ltu (t_nle h10) u9 rfl
        refine ev_ic f_X12_begins (nx := 18) (v := 0) rfl (by decide) rfl ?_
        exact ev_ret f_X12_begins rfl rfl rfl ⟨_, _, _, rfl, hI, hX, ⟨_, rfl, (by decide : (0:Int) ≤ (0:Int32).toInt), (Int.le_trans (by decide : (0:Int32).toInt ≤ (0:Int)) (by decide : (0:Int) ≤ 1)), (show (0 = 1 → (0 ≤ ar1.toInt ∧ ar1.toInt ≤ (gi 69 10).toInt ∧ ar1.toInt ≤ ar2.toInt) ∧ (gi 69 10).toInt = 0) ∧ (0 = 0 → ¬ (0 ≤ ar1.toInt ∧ ar1.toInt ≤ (gi 69 10).toInt ∧ ar1.toInt ≤ ar2.toInt) ∧ (gi 69 10).toInt = (gi 69 10).toInt) from (by omega))⟩⟩
noncomputable def wl_m_wantSign : List (Nat × Nat) := [(69, 12), (69, 13), (69, 14), (69, 15), (69, 17), (69, 18)]
noncomputable def Q_m_wantSign (gi : Nat → Nat → Int32) (gl : Nat → Nat → Int64) (gr : Nat → Nat → Value) (ar1 : Int32) : Int32 → (Nat → Nat → Int32) → (Nat → Nat → Int64) → (Nat → Nat → Value) → Prop := fun (v : Int32) (gi2 : Nat → Nat → Int32) (gl2 : Nat → Nat → Int64) (gr2 : Nat → Nat → Value) => (gi 69 14).toInt ≤ (gi2 69 14).toInt ∧ (v.toInt = 1 → (gi2 69 12).toInt ≠ 0 → (gi 69 14).toInt < (gi2 69 14).toInt)
theorem c_m_wantSign {X : x_Ext} {d : Nat} {sh : List (Nat ⊕ (Nat × Nat))} {gi : Nat → Nat → Int32} {gl : Nat → Nat → Int64} {gr : Nat → Nat → Value} (hI : t_I sh gi gr) (ar1 : Int32) : x_Me X (d + 3) n_X12_wantSign [.ref 69, .int ar1] (sh, gi, gl, gr) (t_PI wl_m_wantSign sh gi gl gr 0 1 (Q_m_wantSign gi gl gr ar1)) := by
  have hX : t_X wl_m_wantSign sh gi gl gr gi gl gr := t_X.rf
  refine me_i f_X12_wantSign (hI.wf.s rfl) rfl rfl rfl ?_
  obtain ⟨l1, u1⟩ := hI.b (hI.wf.s (k := 69) rfl) (t_bdK rfl : t_bd 11 12 = some (0, 4))
  obtain ⟨l2, u2⟩ := hI.b (hI.wf.s (k := 69) rfl) (t_bdK rfl : t_bd 11 14 = some (0, 900))
  refine ev_loc f_X12_wantSign (nx := 1) rfl rfl rfl rfl ?_
  refine ev_loc f_X12_wantSign (nx := 2) rfl rfl rfl rfl ?_
  refine ev_inV2 f_X12_wantSign (nx := 5) (lo2 := [(0, .ref 69), (1, .int ar1)]) rfl rfl rfl rfl f_X12_isSign (hI.wf.s rfl) rfl rfl rfl rfl rfl ?_
  refine ev_loc f_X12_isSign (nx := 1) rfl rfl rfl rfl ?_
  refine ev_gvI f_X12_isSign (nx := 4) (w := (gi 69 12)) rfl (hI.wf.s rfl) rfl rfl rfl rfl ?_
  refine ev_ic f_X12_isSign (nx := 5) (v := 4) rfl (by decide) rfl ?_
  refine ev_if f_X12_isSign (t1 := 8) (t2 := 20) rfl rfl rfl (fun h3 => ?_) (fun h3 => ?_)
  · have l4 : 4 ≤ (gi 69 12).toInt := t_eql h3 (by decide : (4:Int) ≤ (4:Int32).toInt)
    refine ev_loc f_X12_isSign (nx := 9) rfl rfl rfl rfl ?_
    refine ev_getI f_X12_isSign (nx := 12) rfl (hI.wf.s rfl) rfl rfl rfl ?_
    refine ev_loc f_X12_isSign (nx := 13) rfl rfl rfl rfl ?_
    refine ev_if f_X12_isSign (t1 := 16) (t2 := 20) rfl rfl rfl (fun h5 => ?_) (fun h5 => ?_)
    · have r6 : (gi 69 15).toInt = ar1.toInt := t_eqi h5
      refine ev_ic f_X12_isSign (nx := 17) (v := 1) rfl (by decide) rfl ?_
      refine ev_jmp f_X12_isSign (nx := 21) rfl rfl rfl ?_
      refine ev_retK1 f_X12_isSign rfl rfl rfl ?_
      refine ev_f f_X12_wantSign (t1 := 8) (t2 := 14) rfl rfl rfl (by decide) ?_
      refine ev_loc f_X12_wantSign (nx := 15) rfl rfl rfl rfl ?_
      refine ev_qN f_X12_wantSign (nx := 18) (r := []) rfl rfl rfl rfl rfl rfl rfl (c_m_ahead hI ) rfl hX rfl (fun gi7 gl7 gr7 hI hX hC7 q7 => ?_)
      have q7 : (gi 69 14).toInt ≤ (gi7 69 14).toInt ∧ ((gi7 69 12).toInt ≠ 0 → (gi 69 14).toInt < (gi7 69 14).toInt) := q7
      obtain ⟨l8, u8⟩ := hI.b (hI.wf.s (k := 69) rfl) (t_bdK rfl : t_bd 11 12 = some (0, 4))
      obtain ⟨l9, u9⟩ := hI.b (hI.wf.s (k := 69) rfl) (t_bdK rfl : t_bd 11 14 = some (0, 900))
      refine ev_ic f_X12_wantSign (nx := 19) (v := 1) rfl (by decide) rfl ?_
      exact ev_ret f_X12_wantSign rfl rfl rfl ⟨_, _, _, rfl, hI, hX, ⟨_, rfl, (Int.le_trans (by decide : (0:Int) ≤ 1) (by decide : (1:Int) ≤ (1:Int32).toInt)), (by decide : (1:Int32).toInt ≤ (1:Int)), (show (gi 69 14).toInt ≤ (gi7 69 14).toInt ∧ (1 = 1 → (gi7 69 12).toInt ≠ 0 → (gi 69 14).toInt < (gi7 69 14).toInt) from (by omega))⟩⟩
    · have r10 : (gi 69 15).toInt ≠ ar1.toInt := t_nei h5
      refine ev_ic f_X12_isSign (nx := 21) (v := 0) rfl (by decide) rfl ?_
      refine ev_retK1 f_X12_isSign rfl rfl rfl ?_
      refine ev_t f_X12_wantSign (t1 := 8) (t2 := 14) rfl rfl rfl (by decide) ?_
      refine ev_loc f_X12_wantSign (nx := 9) rfl rfl rfl rfl ?_
      refine ev_ic f_X12_wantSign (nx := 10) (v := 2) rfl (by decide) rfl ?_
      refine ev_inV2 f_X12_wantSign (nx := 13) (lo2 := [(0, .ref 69), (1, .int 2)]) rfl rfl rfl rfl f_X12_fails (hI.wf.s rfl) rfl rfl rfl rfl rfl ?_
      refine ev_loc f_X12_fails (nx := 1) rfl rfl rfl rfl ?_
      refine ev_getI f_X12_fails (nx := 4) rfl (hI.wf.s rfl) rfl rfl rfl ?_
      refine ev_if f_X12_fails (t1 := 7) (t2 := 32) rfl rfl rfl (fun h11 => ?_) (fun h11 => ?_)
      · have u12 : (gi 69 18).toInt ≤ 0 := t_equ h11 (by decide : (0:Int32).toInt ≤ (0:Int))
        have l13 : 0 ≤ (gi 69 18).toInt := t_eql h11 (by decide : (0:Int) ≤ (0:Int32).toInt)
        refine ev_loc f_X12_fails (nx := 8) rfl rfl rfl rfl ?_
        refine ev_loc f_X12_fails (nx := 9) rfl rfl rfl rfl ?_
        refine ev_gvI f_X12_fails (nx := 12) (w := (gi 69 12)) rfl (hI.wf.s rfl) rfl rfl rfl rfl ?_
        refine ev_ic f_X12_fails (nx := 13) (v := 1) rfl (by decide) rfl ?_
        refine ev_f f_X12_fails (t1 := 16) (t2 := 20) rfl rfl rfl (t_neT' (by decide : (1:Int32).toInt ≤ (1:Int)) l4 (by decide)) ?_
        refine ev_loc f_X12_fails (nx := 21) rfl rfl rfl rfl ?_
        refine ev_putIT f_X12_fails (nx := 24) rfl (hI.wf.s rfl) rfl rfl rfl (hI.put0 (hI.wf.s rfl) rfl rfl) (hX.upI rfl) (fun g14 e14 hI hX => ?_)
        refine ev_loc f_X12_fails (nx := 25) rfl rfl rfl rfl ?_
        refine ev_loc f_X12_fails (nx := 26) rfl rfl rfl rfl ?_
        refine ev_getI f_X12_fails (nx := 29) rfl (hI.wf.s rfl) rfl rfl rfl ?_
        obtain ⟨l15, u15⟩ := hI.b (hI.wf.s (k := 69) rfl) (t_bdK rfl : t_bd 11 13 = some (0, 900))
        refine ev_putIT f_X12_fails (nx := 32) rfl (hI.wf.s rfl) rfl rfl rfl (hI.put0 (hI.wf.s rfl) rfl rfl) (hX.upI rfl) (fun g16 e16 hI hX => ?_)
        refine ev_ic f_X12_fails (nx := 33) (v := 0) rfl (by decide) rfl ?_
        refine ev_retK1 f_X12_fails rfl rfl rfl ?_
        exact ev_ret f_X12_wantSign rfl rfl rfl ⟨_, _, _, rfl, hI, hX, ⟨_, rfl, (by decide : (0:Int) ≤ (0:Int32).toInt), (Int.le_trans (by decide : (0:Int32).toInt ≤ (0:Int)) (by decide : (0:Int) ≤ 1)), (show (gi 69 14).toInt ≤ (g16 69 14).toInt ∧ (0 = 1 → (g16 69 12).toInt ≠ 0 → (gi 69 14).toInt < (g16 69 14).toInt) from (by have ff17 : (g16 69 14).toInt = (gi 69 14).toInt := congrArg Int32.toInt ((by rw [e16]; exact x_up2_off (Or.inr (by decide)) : g16 69 14 = g14 69 14).trans ((by rw [e14]; exact x_up2_off (Or.inr (by decide)) : g14 69 14 = gi 69 14).trans rfl)); have ff18 : (g16 69 12).toInt = (gi 69 12).toInt := congrArg Int32.toInt ((by rw [e16]; exact x_up2_off (Or.inr (by decide)) : g16 69 12 = g14 69 12).trans ((by rw [e14]; exact x_up2_off (Or.inr (by decide)) : g14 69 12 = gi 69 12).trans rfl)); omega))⟩⟩
      · have r19 : (gi 69 18).toInt ≠ 0 := fun e => h11 (Int32.toInt_inj.mp (e.trans (by decide : (0:Int) = (0 : Int32).toInt)))
        refine ev_ic f_X12_fails (nx := 33) (v := 0) rfl (by decide) rfl ?_
        refine ev_retK1 f_X12_fails rfl rfl rfl ?_
        exact ev_ret f_X12_wantSign rfl rfl rfl ⟨_, _, _, rfl, hI, hX, ⟨_, rfl, (by decide : (0:Int) ≤ (0:Int32).toInt), (Int.le_trans (by decide : (0:Int32).toInt ≤ (0:Int)) (by decide : (0:Int) ≤ 1)), (show (gi 69 14).toInt ≤ (gi 69 14).toInt ∧ (0 = 1 → (gi 69 12).toInt ≠ 0 → (gi 69 14).toInt < (gi 69 14).toInt) from (by omega))⟩⟩
  · have r20 : (gi 69 12).toInt ≠ 4 := fun e => h3 (Int32.toInt_inj.mp (e.trans (by decide : (4:Int) = (4 : Int32).toInt)))
    have u21 : (gi 69 12).toInt ≤ 3 := t_neu h3 u1 rfl rfl
    refine ev_ic f_X12_isSign (nx := 21) (v := 0) rfl (by decide) rfl ?_
    refine ev_retK1 f_X12_isSign rfl rfl rfl ?_
    refine ev_t f_X12_wantSign (t1 := 8) (t2 := 14) rfl rfl rfl (by decide) ?_
    refine ev_loc f_X12_wantSign (nx := 9) rfl rfl rfl rfl ?_
    refine ev_ic f_X12_wantSign (nx := 10) (v := 2) rfl (by decide) rfl ?_
    refine ev_inV2 f_X12_wantSign (nx := 13) (lo2 := [(0, .ref 69), (1, .int 2)]) rfl rfl rfl rfl f_X12_fails (hI.wf.s rfl) rfl rfl rfl rfl rfl ?_
    refine ev_loc f_X12_fails (nx := 1) rfl rfl rfl rfl ?_
    refine ev_getI f_X12_fails (nx := 4) rfl (hI.wf.s rfl) rfl rfl rfl ?_
    refine ev_if f_X12_fails (t1 := 7) (t2 := 32) rfl rfl rfl (fun h22 => ?_) (fun h22 => ?_)
    · have u23 : (gi 69 18).toInt ≤ 0 := t_equ h22 (by decide : (0:Int32).toInt ≤ (0:Int))
      have l24 : 0 ≤ (gi 69 18).toInt := t_eql h22 (by decide : (0:Int) ≤ (0:Int32).toInt)
      refine ev_loc f_X12_fails (nx := 8) rfl rfl rfl rfl ?_
      refine ev_loc f_X12_fails (nx := 9) rfl rfl rfl rfl ?_
      refine ev_gvI f_X12_fails (nx := 12) (w := (gi 69 12)) rfl (hI.wf.s rfl) rfl rfl rfl rfl ?_
      refine ev_ic f_X12_fails (nx := 13) (v := 1) rfl (by decide) rfl ?_
      refine ev_if f_X12_fails (t1 := 16) (t2 := 20) rfl rfl rfl (fun h25 => ?_) (fun h25 => ?_)
      · have u26 : (gi 69 12).toInt ≤ 1 := t_equ h25 (by decide : (1:Int32).toInt ≤ (1:Int))
        have l27 : 1 ≤ (gi 69 12).toInt := t_eql h25 (by decide : (1:Int) ≤ (1:Int32).toInt)
        refine ev_ic f_X12_fails (nx := 17) (v := 1) rfl (by decide) rfl ?_
        refine ev_jmp f_X12_fails (nx := 21) rfl rfl rfl ?_
        refine ev_putIT f_X12_fails (nx := 24) rfl (hI.wf.s rfl) rfl rfl rfl (hI.put0 (hI.wf.s rfl) rfl rfl) (hX.upI rfl) (fun g28 e28 hI hX => ?_)
        refine ev_loc f_X12_fails (nx := 25) rfl rfl rfl rfl ?_
        refine ev_loc f_X12_fails (nx := 26) rfl rfl rfl rfl ?_
        refine ev_getI f_X12_fails (nx := 29) rfl (hI.wf.s rfl) rfl rfl rfl ?_
        obtain ⟨l29, u29⟩ := hI.b (hI.wf.s (k := 69) rfl) (t_bdK rfl : t_bd 11 13 = some (0, 900))
        refine ev_putIT f_X12_fails (nx := 32) rfl (hI.wf.s rfl) rfl rfl rfl (hI.put0 (hI.wf.s rfl) rfl rfl) (hX.upI rfl) (fun g30 e30 hI hX => ?_)
        refine ev_ic f_X12_fails (nx := 33) (v := 0) rfl (by decide) rfl ?_
        refine ev_retK1 f_X12_fails rfl rfl rfl ?_
        exact ev_ret f_X12_wantSign rfl rfl rfl ⟨_, _, _, rfl, hI, hX, ⟨_, rfl, (by decide : (0:Int) ≤ (0:Int32).toInt), (Int.le_trans (by decide : (0:Int32).toInt ≤ (0:Int)) (by decide : (0:Int) ≤ 1)), (show (gi 69 14).toInt ≤ (g30 69 14).toInt ∧ (0 = 1 → (g30 69 12).toInt ≠ 0 → (gi 69 14).toInt < (g30 69 14).toInt) from (by have ff31 : (g30 69 14).toInt = (gi 69 14).toInt := congrArg Int32.toInt ((by rw [e30]; exact x_up2_off (Or.inr (by decide)) : g30 69 14 = g28 69 14).trans ((by rw [e28]; exact x_up2_off (Or.inr (by decide)) : g28 69 14 = gi 69 14).trans rfl)); have ff32 : (g30 69 12).toInt = (gi 69 12).toInt := congrArg Int32.toInt ((by rw [e30]; exact x_up2_off (Or.inr (by decide)) : g30 69 12 = g28 69 12).trans ((by rw [e28]; exact x_up2_off (Or.inr (by decide)) : g28 69 12 = gi 69 12).trans rfl)); omega))⟩⟩
      · have r33 : (gi 69 12).toInt ≠ 1 := fun e => h25 (Int32.toInt_inj.mp (e.trans (by decide : (1:Int) = (1 : Int32).toInt)))
        refine ev_loc f_X12_fails (nx := 21) rfl rfl rfl rfl ?_
        refine ev_putIT f_X12_fails (nx := 24) rfl (hI.wf.s rfl) rfl rfl rfl (hI.put0 (hI.wf.s rfl) rfl rfl) (hX.upI rfl) (fun g34 e34 hI hX => ?_)
        refine ev_loc f_X12_fails (nx := 25) rfl rfl rfl rfl ?_
        refine ev_loc f_X12_fails (nx := 26) rfl rfl rfl rfl ?_
        refine ev_getI f_X12_fails (nx := 29) rfl (hI.wf.s rfl) rfl rfl rfl ?_
        obtain ⟨l35, u35⟩ := hI.b (hI.wf.s (k := 69) rfl) (t_bdK rfl : t_bd 11 13 = some (0, 900))
        refine ev_putIT f_X12_fails (nx := 32) rfl (hI.wf.s rfl) rfl rfl rfl (hI.put0 (hI.wf.s rfl) rfl rfl) (hX.upI rfl) (fun g36 e36 hI hX => ?_)
        refine ev_ic f_X12_fails (nx := 33) (v := 0) rfl (by decide) rfl ?_
        refine ev_retK1 f_X12_fails rfl rfl rfl ?_
        exact ev_ret f_X12_wantSign rfl rfl rfl ⟨_, _, _, rfl, hI, hX, ⟨_, rfl, (by decide : (0:Int) ≤ (0:Int32).toInt), (Int.le_trans (by decide : (0:Int32).toInt ≤ (0:Int)) (by decide : (0:Int) ≤ 1)), (show (gi 69 14).toInt ≤ (g36 69 14).toInt ∧ (0 = 1 → (g36 69 12).toInt ≠ 0 → (gi 69 14).toInt < (g36 69 14).toInt) from (by have ff37 : (g36 69 14).toInt = (gi 69 14).toInt := congrArg Int32.toInt ((by rw [e36]; exact x_up2_off (Or.inr (by decide)) : g36 69 14 = g34 69 14).trans ((by rw [e34]; exact x_up2_off (Or.inr (by decide)) : g34 69 14 = gi 69 14).trans rfl)); have ff38 : (g36 69 12).toInt = (gi 69 12).toInt := congrArg Int32.toInt ((by rw [e36]; exact x_up2_off (Or.inr (by decide)) : g36 69 12 = g34 69 12).trans ((by rw [e34]; exact x_up2_off (Or.inr (by decide)) : g34 69 12 = gi 69 12).trans rfl)); omega))⟩⟩
    · have r39 : (gi 69 18).toInt ≠ 0 := fun e => h22 (Int32.toInt_inj.mp (e.trans (by decide : (0:Int) = (0 : Int32).toInt)))
      refine ev_ic f_X12_fails (nx := 33) (v := 0) rfl (by decide) rfl ?_
      refine ev_retK1 f_X12_fails rfl rfl rfl ?_
      exact ev_ret f_X12_wantSign rfl rfl rfl ⟨_, _, _, rfl, hI, hX, ⟨_, rfl, (by decide : (0:Int) ≤ (0:Int32).toInt), (Int.le_trans (by decide : (0:Int32).toInt ≤ (0:Int)) (by decide : (0:Int) ≤ 1)), (show (gi 69 14).toInt ≤ (gi 69 14).toInt ∧ (0 = 1 → (gi 69 12).toInt ≠ 0 → (gi 69 14).toInt < (gi 69 14).toInt) from (by omega))⟩⟩
noncomputable def wl_m_wantWord : List (Nat × Nat) := [(69, 12), (69, 13), (69, 14), (69, 15), (69, 17), (69, 18)]
noncomputable def Q_m_wantWord (gi : Nat → Nat → Int32) (gl : Nat → Nat → Int64) (gr : Nat → Nat → Value) (ar2 : Int32) : Int32 → (Nat → Nat → Int32) → (Nat → Nat → Int64) → (Nat → Nat → Value) → Prop := fun (v : Int32) (gi2 : Nat → Nat → Int32) (gl2 : Nat → Nat → Int64) (gr2 : Nat → Nat → Value) => (gi 69 14).toInt ≤ (gi2 69 14).toInt ∧ (v.toInt = 1 → (gi2 69 12).toInt ≠ 0 → (gi 69 14).toInt < (gi2 69 14).toInt)
theorem c_m_wantWord {X : x_Ext} {d : Nat} {sh : List (Nat ⊕ (Nat × Nat))} {gi : Nat → Nat → Int32} {gl : Nat → Nat → Int64} {gr : Nat → Nat → Value} (hI : t_I sh gi gr) (ar2 : Int32) : x_Me X (d + 6) n_X12_wantWord [.ref 69, .retAddr 28, .int ar2] (sh, gi, gl, gr) (t_PI wl_m_wantWord sh gi gl gr 0 1 (Q_m_wantWord gi gl gr ar2)) := by
  have hX : t_X wl_m_wantWord sh gi gl gr gi gl gr := t_X.rf
  refine me_i f_X12_wantWord (hI.wf.s rfl) rfl rfl rfl ?_
  obtain ⟨l1, u1⟩ := hI.b (hI.wf.s (k := 69) rfl) (t_bdK rfl : t_bd 11 12 = some (0, 4))
  obtain ⟨l2, u2⟩ := hI.b (hI.wf.s (k := 69) rfl) (t_bdK rfl : t_bd 11 14 = some (0, 900))
  refine ev_loc f_X12_wantWord (nx := 1) rfl rfl rfl rfl ?_
  refine ev_loc f_X12_wantWord (nx := 2) rfl rfl rfl rfl ?_
  refine ev_qI f_X12_wantWord (nx := 5) (r := []) rfl rfl rfl rfl rfl rfl rfl (c_m_inWords hI ) rfl hX rfl (fun w3 gi3 gl3 gr3 l3 u3 hI hX hC3 q3 => ?_)
  have q3 : 0 ≤ w3.toInt → (gi 69 12).toInt = 2 := q3
  refine ev_loc f_X12_wantWord (nx := 6) rfl rfl rfl rfl ?_
  refine ev_if f_X12_wantWord (t1 := 15) (t2 := 9) rfl rfl rfl (fun h4 => ?_) (fun h4 => ?_)
  · have r5 : w3.toInt = ar2.toInt := t_eqi h4
    refine ev_loc f_X12_wantWord (nx := 16) rfl rfl rfl rfl ?_
    refine ev_qN f_X12_wantWord (nx := 19) (r := []) rfl rfl rfl rfl rfl rfl rfl (c_m_ahead hI ) rfl hX rfl (fun gi6 gl6 gr6 hI hX hC6 q6 => ?_)
    have ff7 : (gi3 69 14).toInt = (gi 69 14).toInt := congrArg Int32.toInt ((hC3.1 69 14 rfl).1.trans rfl)
    have q6 : (gi3 69 14).toInt ≤ (gi6 69 14).toInt ∧ ((gi6 69 12).toInt ≠ 0 → (gi3 69 14).toInt < (gi6 69 14).toInt) := q6
    obtain ⟨l8, u8⟩ := hI.b (hI.wf.s (k := 69) rfl) (t_bdK rfl : t_bd 11 12 = some (0, 4))
    obtain ⟨l9, u9⟩ := hI.b (hI.wf.s (k := 69) rfl) (t_bdK rfl : t_bd 11 14 = some (0, 900))
    refine ev_ic f_X12_wantWord (nx := 20) (v := 1) rfl (by decide) rfl ?_
    exact ev_ret f_X12_wantWord rfl rfl rfl ⟨_, _, _, rfl, hI, hX, ⟨_, rfl, (Int.le_trans (by decide : (0:Int) ≤ 1) (by decide : (1:Int) ≤ (1:Int32).toInt)), (by decide : (1:Int32).toInt ≤ (1:Int)), (show (gi 69 14).toInt ≤ (gi6 69 14).toInt ∧ (1 = 1 → (gi6 69 12).toInt ≠ 0 → (gi 69 14).toInt < (gi6 69 14).toInt) from (by omega))⟩⟩
  · have r10 : w3.toInt ≠ ar2.toInt := t_nei h4
    refine ev_loc f_X12_wantWord (nx := 10) rfl rfl rfl rfl ?_
    refine ev_ic f_X12_wantWord (nx := 11) (v := 2) rfl (by decide) rfl ?_
    refine ev_inV2 f_X12_wantWord (nx := 14) (lo2 := [(0, .ref 69), (1, .int 2)]) rfl rfl rfl rfl f_X12_fails (hI.wf.s rfl) rfl rfl rfl rfl rfl ?_
    refine ev_loc f_X12_fails (nx := 1) rfl rfl rfl rfl ?_
    refine ev_getI f_X12_fails (nx := 4) rfl (hI.wf.s rfl) rfl rfl rfl ?_
    refine ev_if f_X12_fails (t1 := 7) (t2 := 32) rfl rfl rfl (fun h11 => ?_) (fun h11 => ?_)
    · have u12 : (gi3 69 18).toInt ≤ 0 := t_equ h11 (by decide : (0:Int32).toInt ≤ (0:Int))
      have l13 : 0 ≤ (gi3 69 18).toInt := t_eql h11 (by decide : (0:Int) ≤ (0:Int32).toInt)
      refine ev_loc f_X12_fails (nx := 8) rfl rfl rfl rfl ?_
      refine ev_loc f_X12_fails (nx := 9) rfl rfl rfl rfl ?_
      refine ev_gvI f_X12_fails (nx := 12) (w := (gi 69 12)) rfl (hI.wf.s rfl) rfl rfl ((hC3.1 69 12 rfl).1.trans rfl) rfl ?_
      refine ev_ic f_X12_fails (nx := 13) (v := 1) rfl (by decide) rfl ?_
      refine ev_if f_X12_fails (t1 := 16) (t2 := 20) rfl rfl rfl (fun h14 => ?_) (fun h14 => ?_)
      · have u15 : (gi 69 12).toInt ≤ 1 := t_equ h14 (by decide : (1:Int32).toInt ≤ (1:Int))
        have l16 : 1 ≤ (gi 69 12).toInt := t_eql h14 (by decide : (1:Int) ≤ (1:Int32).toInt)
        refine ev_ic f_X12_fails (nx := 17) (v := 1) rfl (by decide) rfl ?_
        refine ev_jmp f_X12_fails (nx := 21) rfl rfl rfl ?_
        refine ev_putIT f_X12_fails (nx := 24) rfl (hI.wf.s rfl) rfl rfl rfl (hI.put0 (hI.wf.s rfl) rfl rfl) (hX.upI rfl) (fun g17 e17 hI hX => ?_)
        refine ev_loc f_X12_fails (nx := 25) rfl rfl rfl rfl ?_
        refine ev_loc f_X12_fails (nx := 26) rfl rfl rfl rfl ?_
        refine ev_getI f_X12_fails (nx := 29) rfl (hI.wf.s rfl) rfl rfl rfl ?_
        obtain ⟨l18, u18⟩ := hI.b (hI.wf.s (k := 69) rfl) (t_bdK rfl : t_bd 11 13 = some (0, 900))
        refine ev_putIT f_X12_fails (nx := 32) rfl (hI.wf.s rfl) rfl rfl rfl (hI.put0 (hI.wf.s rfl) rfl rfl) (hX.upI rfl) (fun g19 e19 hI hX => ?_)
        refine ev_ic f_X12_fails (nx := 33) (v := 0) rfl (by decide) rfl ?_
        refine ev_retK1 f_X12_fails rfl rfl rfl ?_
        exact ev_ret f_X12_wantWord rfl rfl rfl ⟨_, _, _, rfl, hI, hX, ⟨_, rfl, (by decide : (0:Int) ≤ (0:Int32).toInt), (Int.le_trans (by decide : (0:Int32).toInt ≤ (0:Int)) (by decide : (0:Int) ≤ 1)), (show (gi 69 14).toInt ≤ (g19 69 14).toInt ∧ (0 = 1 → (g19 69 12).toInt ≠ 0 → (gi 69 14).toInt < (g19 69 14).toInt) from (by have ff20 : (g19 69 14).toInt = (gi 69 14).toInt := congrArg Int32.toInt ((by rw [e19]; exact x_up2_off (Or.inr (by decide)) : g19 69 14 = g17 69 14).trans ((by rw [e17]; exact x_up2_off (Or.inr (by decide)) : g17 69 14 = gi3 69 14).trans ((hC3.1 69 14 rfl).1.trans rfl))); have ff21 : (g19 69 12).toInt = (gi 69 12).toInt := congrArg Int32.toInt ((by rw [e19]; exact x_up2_off (Or.inr (by decide)) : g19 69 12 = g17 69 12).trans ((by rw [e17]; exact x_up2_off (Or.inr (by decide)) : g17 69 12 = gi3 69 12).trans ((hC3.1 69 12 rfl).1.trans rfl))); omega))⟩⟩
      · have r22 : (gi 69 12).toInt ≠ 1 := fun e => h14 (Int32.toInt_inj.mp (e.trans (by decide : (1:Int) = (1 : Int32).toInt)))
        refine ev_loc f_X12_fails (nx := 21) rfl rfl rfl rfl ?_
        refine ev_putIT f_X12_fails (nx := 24) rfl (hI.wf.s rfl) rfl rfl rfl (hI.put0 (hI.wf.s rfl) rfl rfl) (hX.upI rfl) (fun g23 e23 hI hX => ?_)
        refine ev_loc f_X12_fails (nx := 25) rfl rfl rfl rfl ?_
        refine ev_loc f_X12_fails (nx := 26) rfl rfl rfl rfl ?_
        refine ev_getI f_X12_fails (nx := 29) rfl (hI.wf.s rfl) rfl rfl rfl ?_
        obtain ⟨l24, u24⟩ := hI.b (hI.wf.s (k := 69) rfl) (t_bdK rfl : t_bd 11 13 = some (0, 900))
        refine ev_putIT f_X12_fails (nx := 32) rfl (hI.wf.s rfl) rfl rfl rfl (hI.put0 (hI.wf.s rfl) rfl rfl) (hX.upI rfl) (fun g25 e25 hI hX => ?_)
        refine ev_ic f_X12_fails (nx := 33) (v := 0) rfl (by decide) rfl ?_
        refine ev_retK1 f_X12_fails rfl rfl rfl ?_
        exact ev_ret f_X12_wantWord rfl rfl rfl ⟨_, _, _, rfl, hI, hX, ⟨_, rfl, (by decide : (0:Int) ≤ (0:Int32).toInt), (Int.le_trans (by decide : (0:Int32).toInt ≤ (0:Int)) (by decide : (0:Int) ≤ 1)), (show (gi 69 14).toInt ≤ (g25 69 14).toInt ∧ (0 = 1 → (g25 69 12).toInt ≠ 0 → (gi 69 14).toInt < (g25 69 14).toInt) from (by have ff26 : (g25 69 14).toInt = (gi 69 14).toInt := congrArg Int32.toInt ((by rw [e25]; exact x_up2_off (Or.inr (by decide)) : g25 69 14 = g23 69 14).trans ((by rw [e23]; exact x_up2_off (Or.inr (by decide)) : g23 69 14 = gi3 69 14).trans ((hC3.1 69 14 rfl).1.trans rfl))); have ff27 : (g25 69 12).toInt = (gi 69 12).toInt := congrArg Int32.toInt ((by rw [e25]; exact x_up2_off (Or.inr (by decide)) : g25 69 12 = g23 69 12).trans ((by rw [e23]; exact x_up2_off (Or.inr (by decide)) : g23 69 12 = gi3 69 12).trans ((hC3.1 69 12 rfl).1.trans rfl))); omega))⟩⟩
    · have r28 : (gi3 69 18).toInt ≠ 0 := fun e => h11 (Int32.toInt_inj.mp (e.trans (by decide : (0:Int) = (0 : Int32).toInt)))
      refine ev_ic f_X12_fails (nx := 33) (v := 0) rfl (by decide) rfl ?_
      refine ev_retK1 f_X12_fails rfl rfl rfl ?_
      exact ev_ret f_X12_wantWord rfl rfl rfl ⟨_, _, _, rfl, hI, hX, ⟨_, rfl, (by decide : (0:Int) ≤ (0:Int32).toInt), (Int.le_trans (by decide : (0:Int32).toInt ≤ (0:Int)) (by decide : (0:Int) ≤ 1)), (show (gi 69 14).toInt ≤ (gi3 69 14).toInt ∧ (0 = 1 → (gi3 69 12).toInt ≠ 0 → (gi 69 14).toInt < (gi3 69 14).toInt) from (by have ff29 : (gi3 69 14).toInt = (gi 69 14).toInt := congrArg Int32.toInt ((hC3.1 69 14 rfl).1.trans rfl); have ff30 : (gi3 69 12).toInt = (gi 69 12).toInt := congrArg Int32.toInt ((hC3.1 69 12 rfl).1.trans rfl); omega))⟩⟩
noncomputable def wl_m_nameHere : List (Nat × Nat) := []
theorem c_m_nameHere {X : x_Ext} {d : Nat} {sh : List (Nat ⊕ (Nat × Nat))} {gi : Nat → Nat → Int32} {gl : Nat → Nat → Int64} {gr : Nat → Nat → Value} (hI : t_I sh gi gr) : x_Me X (d + 2) n_X12_nameHere [.ref 69] (sh, gi, gl, gr) (t_P wl_m_nameHere sh gi gl gr t_Rl) := by
  have hX : t_X wl_m_nameHere sh gi gl gr gi gl gr := t_X.rf
  refine me_i f_X12_nameHere (hI.wf.s rfl) rfl rfl rfl ?_
  refine ev_lc f_X12_nameHere (nx := 1) (v := 0) rfl (by decide) rfl ?_
  refine ev_loc f_X12_nameHere (nx := 2) (lo' := [(1, .long 0), (0, .ref 69)]) rfl rfl rfl rfl ?_
  refine ev_loc f_X12_nameHere (nx := 3) rfl rfl rfl rfl ?_
  refine ev_getI f_X12_nameHere (nx := 6) rfl (hI.wf.s rfl) rfl rfl rfl ?_
  obtain ⟨l1, u1⟩ := hI.b (hI.wf.s (k := 69) rfl) (t_bdK rfl : t_bd 11 13 = some (0, 900))
  refine ev_loc f_X12_nameHere (nx := 7) (lo' := [(3, .int (gi 69 13)), (1, .long 0), (0, .ref 69)]) rfl rfl rfl rfl ?_
  have L2 : ∀ (m2 : Nat) (gi2 : Nat → Nat → Int32) (gl2 : Nat → Nat → Int64) (gr2 : Nat → Nat → Value) (y2_3 : Int32) (y2_1 : Int64), t_I sh gi2 gr2 → t_X wl_m_nameHere sh gi gl gr gi2 gl2 gr2 → 0 ≤ y2_3.toInt → y2_3.toInt ≤ 900 → gi2 69 13 = (gi 69 13) → (900 - y2_3.toInt).toNat = m2 → x_Ev X (d + 2) n_X12_nameHere 7 [(3, .int y2_3), (1, .long y2_1), (0, .ref 69)] [] (sh, gi2, gl2, gr2) (t_P wl_m_nameHere sh gi gl gr t_Rl) := by
    intro m2
    induction m2 using Nat.strongRecOn with
    | _ m2 ih2 =>
    intro gi2 gl2 gr2 y2_3 y2_1 hI hX l2_3 u2_3 c2_0 hm2
    refine ev_loc f_X12_nameHere (nx := 8) rfl rfl rfl rfl ?_
    refine ev_loc f_X12_nameHere (nx := 9) rfl rfl rfl rfl ?_
    refine ev_getI f_X12_nameHere (nx := 12) rfl (hI.wf.s rfl) rfl rfl rfl ?_
    obtain ⟨l3, u3⟩ := hI.b (hI.wf.s (k := 69) rfl) (t_bdK rfl : t_bd 11 14 = some (0, 900))
    refine ev_if f_X12_nameHere (t1 := 33) (t2 := 15) rfl rfl rfl (fun h4 => ?_) (fun h4 => ?_)
    · refine ev_loc f_X12_nameHere (nx := 34) rfl rfl rfl rfl ?_
      exact ev_ret f_X12_nameHere rfl rfl rfl ⟨_, _, _, rfl, hI, hX, ⟨_, rfl⟩⟩
    · have u5 : y2_3.toInt ≤ 899 := t_ltu (t_nle h4) u3 rfl
      have l6 : 1 ≤ (gi2 69 14).toInt := t_ltl (t_nle h4) l2_3 rfl
      refine ev_loc f_X12_nameHere (nx := 16) rfl rfl rfl rfl ?_
      refine ev_bp f_X12_nameHere (nx := 18) (v := 8) rfl (by decide) rfl ?_
      refine ev_anyL f_X12_nameHere (nx := 19) rfl rfl rfl rfl (fun z7 => ?_)
      refine ev_loc f_X12_nameHere (nx := 20) rfl rfl rfl rfl ?_
      refine ev_loc f_X12_nameHere (nx := 21) rfl rfl rfl rfl ?_
      refine ev_inV2 f_X12_nameHere (nx := 24) (lo2 := [(0, .ref 69), (1, .int y2_3)]) rfl rfl rfl rfl f_X12_byteAt (hI.wf.s rfl) rfl rfl rfl rfl rfl ?_
      refine ev_loc f_X12_byteAt (nx := 1) rfl rfl rfl rfl ?_
      refine ev_loc f_X12_byteAt (nx := 2) rfl rfl rfl rfl ?_
      refine ev_getI f_X12_byteAt (nx := 5) rfl (hI.wf.s rfl) rfl rfl rfl ?_
      obtain ⟨l8, u8⟩ := hI.b (hI.wf.s (k := 69) rfl) (t_bdK rfl : t_bd 11 11 = some (0, 900))
      refine ev_if f_X12_byteAt (t1 := 21) (t2 := 8) rfl rfl rfl (fun h9 => ?_) (fun h9 => ?_)
      · have u10 : (gi2 69 11).toInt ≤ 899 := t_leu h9 u5
        refine ev_ic f_X12_byteAt (nx := 22) (v := -1) rfl (by decide) rfl ?_
        refine ev_retK1 f_X12_byteAt rfl rfl rfl ?_
        refine ev_aluvL f_X12_nameHere (nx := 25) (w := -1) rfl rfl rfl (by decide) rfl ?_
        refine ev_anyL f_X12_nameHere (nx := 26) rfl rfl rfl rfl (fun z11 => ?_)
        refine ev_loc f_X12_nameHere (nx := 27) (lo' := [(1, .long z11), (3, .int y2_3), (0, .ref 69)]) rfl rfl rfl rfl ?_
        refine ev_incR f_X12_nameHere (nx := 30) (c := 1) (l := 1) (u := 900) rfl rfl (by decide) (by decide) l2_3 u5 rfl rfl (by decide) (by decide) rfl (fun z12 e12 l12 u12 => ?_)
        refine ev_jmp f_X12_nameHere (nx := 7) rfl rfl rfl ?_
        refine ev_sub (lo := [(3, .int z12), (1, .long z11), (0, .ref 69)]) rfl (t_sc rfl (t_sc rfl (t_sc rfl t_sn))) ?_
        exact ih2 _ (by omega) gi2 gl2 gr2 (z12) (z11) hI hX  (Int.le_trans (by decide : (0:Int) ≤ 1) l12) u12 c2_0 rfl
      · have l13 : 1 ≤ (gi2 69 11).toInt := t_ltl (t_nle h9) l2_3 rfl
        refine ev_loc f_X12_byteAt (nx := 9) rfl rfl rfl rfl ?_
        refine ev_getR f_X12_byteAt (nx := 12) rfl (hI.wf.s rfl) rfl rfl (hI.wf.r rfl) rfl rfl ?_
        refine ev_loc f_X12_byteAt (nx := 13) rfl rfl rfl rfl ?_
        refine ev_baldT f_X12_byteAt (nx := 14) rfl (hI.wf.s rfl) rfl l2_3 (by decide) u5 (by decide) rfl (fun w14 e14 => ?_)
        refine ev_sp f_X12_byteAt (nx := 17) (v := 255) rfl (by decide) rfl ?_
        refine ev_andR f_X12_byteAt (nx := 18) (c := 255) rfl (by decide) (by decide) rfl (fun z15 l15 u15 => ?_)
        refine ev_jmp f_X12_byteAt (nx := 22) rfl rfl rfl ?_
        refine ev_retK1 f_X12_byteAt rfl rfl rfl ?_
        refine ev_anyL f_X12_nameHere (nx := 25) rfl rfl rfl rfl (fun z16 => ?_)
        refine ev_anyL f_X12_nameHere (nx := 26) rfl rfl rfl rfl (fun z17 => ?_)
        refine ev_loc f_X12_nameHere (nx := 27) (lo' := [(1, .long z17), (3, .int y2_3), (0, .ref 69)]) rfl rfl rfl rfl ?_
        refine ev_incR f_X12_nameHere (nx := 30) (c := 1) (l := 1) (u := 900) rfl rfl (by decide) (by decide) l2_3 u5 rfl rfl (by decide) (by decide) rfl (fun z18 e18 l18 u18 => ?_)
        refine ev_jmp f_X12_nameHere (nx := 7) rfl rfl rfl ?_
        refine ev_sub (lo := [(3, .int z18), (1, .long z17), (0, .ref 69)]) rfl (t_sc rfl (t_sc rfl (t_sc rfl t_sn))) ?_
        exact ih2 _ (by omega) gi2 gl2 gr2 (z18) (z17) hI hX  (Int.le_trans (by decide : (0:Int) ≤ 1) l18) u18 c2_0 rfl
  refine ev_sub (lo := [(3, .int (gi 69 13)), (1, .long 0), (0, .ref 69)]) rfl (t_sc rfl (t_sc rfl (t_sc rfl t_sn))) ?_
  exact L2 _ gi gl gr ((gi 69 13)) (0) hI hX  l1 u1 rfl rfl
noncomputable def wl_m_findHere : List (Nat × Nat) := []
theorem c_m_findHere {X : x_Ext} {d : Nat} {sh : List (Nat ⊕ (Nat × Nat))} {gi : Nat → Nat → Int32} {gl : Nat → Nat → Int64} {gr : Nat → Nat → Value} (hI : t_I sh gi gr) (ar1 : Int32) (l_a1 : 72 ≤ ar1.toInt) (u_a1 : ar1.toInt ≤ 84) (ar2 : Int32) (l_a2 : 0 ≤ ar2.toInt) (u_a2 : ar2.toInt ≤ 6) : x_Me X (d + 3) n_X12_findHere [.ref 69, .int ar1, .int ar2] (sh, gi, gl, gr) (t_P wl_m_findHere sh gi gl gr (t_Ri (-1) 5)) := by
  have hX : t_X wl_m_findHere sh gi gl gr gi gl gr := t_X.rf
  refine me_i f_X12_findHere (hI.wf.s rfl) rfl rfl rfl ?_
  refine ev_ic f_X12_findHere (nx := 1) (v := 0) rfl (by decide) rfl ?_
  refine ev_loc f_X12_findHere (nx := 2) (lo' := [(3, .int 0), (0, .ref 69), (1, .int ar1), (2, .int ar2)]) rfl rfl rfl rfl ?_
  have L1 : ∀ (m1 : Nat) (gi1 : Nat → Nat → Int32) (gl1 : Nat → Nat → Int64) (gr1 : Nat → Nat → Value) (y1_3 : Int32), t_I sh gi1 gr1 → t_X wl_m_findHere sh gi gl gr gi1 gl1 gr1 → 0 ≤ y1_3.toInt → y1_3.toInt ≤ 6 → (6 - y1_3.toInt).toNat = m1 → x_Ev X (d + 3) n_X12_findHere 2 [(3, .int y1_3), (0, .ref 69), (1, .int ar1), (2, .int ar2)] [] (sh, gi1, gl1, gr1) (t_P wl_m_findHere sh gi gl gr (t_Ri (-1) 5)) := by
    intro m1
    induction m1 using Nat.strongRecOn with
    | _ m1 ih1 =>
    intro gi1 gl1 gr1 y1_3 hI hX l1_3 u1_3 hm1
    refine ev_loc f_X12_findHere (nx := 3) rfl rfl rfl rfl ?_
    refine ev_loc f_X12_findHere (nx := 4) rfl rfl rfl rfl ?_
    refine ev_if f_X12_findHere (t1 := 31) (t2 := 7) rfl rfl rfl (fun h2 => ?_) (fun h2 => ?_)
    · refine ev_ic f_X12_findHere (nx := 32) (v := -1) rfl (by decide) rfl ?_
      exact ev_ret f_X12_findHere rfl rfl rfl ⟨_, _, _, rfl, hI, hX, ⟨_, rfl, (by decide : ((-1):Int) ≤ ((-1):Int32).toInt), (Int.le_trans (by decide : ((-1):Int32).toInt ≤ ((-1):Int)) (by decide : ((-1):Int) ≤ 5))⟩⟩
    · have u3 : y1_3.toInt ≤ 5 := t_ltu (t_nle h2) u_a2 rfl
      have l4 : 1 ≤ ar2.toInt := t_ltl (t_nle h2) l1_3 rfl
      refine ev_loc f_X12_findHere (nx := 8) rfl rfl rfl rfl ?_
      refine ev_getR f_X12_findHere (nx := 11) rfl (hI.wf.s rfl) rfl rfl (hI.wf.r rfl) rfl rfl ?_
      refine ev_loc f_X12_findHere (nx := 12) rfl rfl rfl rfl ?_
      refine ev_loc f_X12_findHere (nx := 13) rfl rfl rfl rfl ?_
      refine ev_addR f_X12_findHere (nx := 14) (l := 72) (u := 89) rfl l_a1 u_a1 l1_3 u3 rfl rfl (by decide) (by decide) rfl (fun z5 e5 l5 u5 => ?_)
      refine ev_laldT f_X12_findHere (nx := 15) rfl (hI.wf.s rfl) l5 (by decide) u5 (by decide) rfl (fun w6 e6 => ?_)
      refine ev_loc f_X12_findHere (nx := 16) rfl rfl rfl rfl ?_
      refine ev_cL f_X12_findHere (nx := 19) (r := [.long w6]) rfl rfl rfl rfl rfl rfl rfl (c_m_nameHere hI ) rfl hX rfl (fun w7 gi7 gl7 gr7 hI hX hC7 => ?_)
      refine ev_anyI f_X12_findHere (nx := 20) rfl rfl rfl rfl (fun z8 => ?_)
      refine ev_if f_X12_findHere (t1 := 23) (t2 := 25) rfl rfl rfl (fun h9 => ?_) (fun h9 => ?_)
      · have u10 : z8.toInt ≤ 0 := t_equ h9 (by decide : (0:Int32).toInt ≤ (0:Int))
        have l11 : 0 ≤ z8.toInt := t_eql h9 (by decide : (0:Int) ≤ (0:Int32).toInt)
        refine ev_loc f_X12_findHere (nx := 24) rfl rfl rfl rfl ?_
        exact ev_ret f_X12_findHere rfl rfl rfl ⟨_, _, _, rfl, hI, hX, ⟨_, rfl, (Int.le_trans (by decide : ((-1):Int) ≤ 0) l1_3), u3⟩⟩
      · refine ev_incR f_X12_findHere (nx := 28) (c := 1) (l := 1) (u := 6) rfl rfl (by decide) (by decide) l1_3 u3 rfl rfl (by decide) (by decide) rfl (fun z12 e12 l12 u12 => ?_)
        refine ev_jmp f_X12_findHere (nx := 2) rfl rfl rfl ?_
        refine ev_sub (lo := [(3, .int z12), (0, .ref 69), (1, .int ar1), (2, .int ar2)]) rfl (t_sc rfl (t_sc rfl (t_sc rfl (t_sc rfl t_sn)))) ?_
        exact ih1 _ (by omega) gi7 gl7 gr7 (z12) hI hX  (Int.le_trans (by decide : (0:Int) ≤ 1) l12) u12 rfl
  refine ev_sub (lo := [(3, .int 0), (0, .ref 69), (1, .int ar1), (2, .int ar2)]) rfl (t_sc rfl (t_sc rfl (t_sc rfl (t_sc rfl t_sn)))) ?_
  exact L1 _ gi gl gr (0) hI hX  (by decide : (0:Int) ≤ (0:Int32).toInt) (Int.le_trans (by decide : (0:Int32).toInt ≤ (0:Int)) (by decide : (0:Int) ≤ 6)) rfl
noncomputable def wl_m_aNewName : List (Nat × Nat) := [(69, 12), (69, 13), (69, 14), (69, 15), (69, 17), (69, 18), (71, 7210089)]
noncomputable def Q_m_aNewName (gi : Nat → Nat → Int32) (gl : Nat → Nat → Int64) (gr : Nat → Nat → Value) (ar1 : Int32) : Int32 → (Nat → Nat → Int32) → (Nat → Nat → Int64) → (Nat → Nat → Value) → Prop := fun (v : Int32) (gi2 : Nat → Nat → Int32) (gl2 : Nat → Nat → Int64) (gr2 : Nat → Nat → Value) => (gi 69 14).toInt ≤ (gi2 69 14).toInt ∧ (v.toInt = 1 → (gi2 69 12).toInt ≠ 0 → (gi 69 14).toInt < (gi2 69 14).toInt)
theorem c_m_aNewName {X : x_Ext} {d : Nat} {sh : List (Nat ⊕ (Nat × Nat))} {gi : Nat → Nat → Int32} {gl : Nat → Nat → Int64} {gr : Nat → Nat → Value} (hI : t_I sh gi gr) (ar1 : Int32) (l_a1 : 0 ≤ ar1.toInt) (u_a1 : ar1.toInt ≤ 17) : x_Me X (d + 7) n_X12_aNewName [.ref 69, .int ar1] (sh, gi, gl, gr) (t_PI wl_m_aNewName sh gi gl gr 0 1 (Q_m_aNewName gi gl gr ar1)) := by
  have hX : t_X wl_m_aNewName sh gi gl gr gi gl gr := t_X.rf
  refine me_i f_X12_aNewName (hI.wf.s rfl) rfl rfl rfl ?_
  obtain ⟨l1, u1⟩ := hI.b (hI.wf.s (k := 69) rfl) (t_bdK rfl : t_bd 11 12 = some (0, 4))
  obtain ⟨l2, u2⟩ := hI.b (hI.wf.s (k := 69) rfl) (t_bdK rfl : t_bd 11 14 = some (0, 900))
  refine ev_loc f_X12_aNewName (nx := 1) rfl rfl rfl rfl ?_
  refine ev_qN f_X12_aNewName (nx := 4) (r := []) rfl rfl rfl rfl rfl rfl rfl (c_m_ahead hI ) rfl hX rfl (fun gi3 gl3 gr3 hI hX hC3 q3 => ?_)
  have q3 : (gi 69 14).toInt ≤ (gi3 69 14).toInt ∧ ((gi3 69 12).toInt ≠ 0 → (gi 69 14).toInt < (gi3 69 14).toInt) := q3
  obtain ⟨l4, u4⟩ := hI.b (hI.wf.s (k := 69) rfl) (t_bdK rfl : t_bd 11 12 = some (0, 4))
  obtain ⟨l5, u5⟩ := hI.b (hI.wf.s (k := 69) rfl) (t_bdK rfl : t_bd 11 14 = some (0, 900))
  refine ev_loc f_X12_aNewName (nx := 5) rfl rfl rfl rfl ?_
  refine ev_heap f_X12_aNewName (nx := 7) rfl rfl rfl rfl ?_
  refine ev_inV2 f_X12_aNewName (nx := 10) (lo2 := [(0, .ref 69), (1, .retAddr 28)]) rfl rfl rfl rfl f_X12_isName (hI.wf.s rfl) rfl rfl rfl rfl rfl ?_
  refine ev_loc f_X12_isName (nx := 1) rfl rfl rfl rfl ?_
  refine ev_gvI f_X12_isName (nx := 4) (w := (gi3 69 12)) rfl (hI.wf.s rfl) rfl rfl rfl rfl ?_
  refine ev_ic f_X12_isName (nx := 5) (v := 2) rfl (by decide) rfl ?_
  refine ev_if f_X12_isName (t1 := 8) (t2 := 35) rfl rfl rfl (fun h6 => ?_) (fun h6 => ?_)
  · have u7 : (gi3 69 12).toInt ≤ 2 := t_equ h6 (by decide : (2:Int32).toInt ≤ (2:Int))
    have l8 : 2 ≤ (gi3 69 12).toInt := t_eql h6 (by decide : (2:Int) ≤ (2:Int32).toInt)
    refine ev_loc f_X12_isName (nx := 9) rfl rfl rfl rfl ?_
    refine ev_gvI f_X12_isName (nx := 12) (w := (gi3 69 14)) rfl (hI.wf.s rfl) rfl rfl rfl rfl ?_
    refine ev_loc f_X12_isName (nx := 13) rfl rfl rfl rfl ?_
    refine ev_getI f_X12_isName (nx := 16) rfl (hI.wf.s rfl) rfl rfl rfl ?_
    obtain ⟨l9, u9⟩ := hI.b (hI.wf.s (k := 69) rfl) (t_bdK rfl : t_bd 11 13 = some (0, 900))
    refine ev_subR f_X12_isName (nx := 17) (l := (-900)) (u := 900) rfl l5 u5 l9 u9 rfl rfl (by decide) (by decide) rfl (fun z10 e10 l10 u10 => ?_)
    refine ev_bp f_X12_isName (nx := 19) (v := 8) rfl (by decide) rfl ?_
    refine ev_if f_X12_isName (t1 := 35) (t2 := 22) rfl rfl rfl (fun h11 => ?_) (fun h11 => ?_)
    · have l12 : 9 ≤ z10.toInt := t_ltl h11 (by decide : (8:Int) ≤ (8:Int32).toInt) rfl
      have u13 : (gi3 69 13).toInt ≤ 891 := by have := u5; omega
      refine ev_ic f_X12_isName (nx := 36) (v := 0) rfl (by decide) rfl ?_
      refine ev_retK1 f_X12_isName rfl rfl rfl ?_
      refine ev_t f_X12_aNewName (t1 := 13) (t2 := 19) rfl rfl rfl (by decide) ?_
      refine ev_loc f_X12_aNewName (nx := 14) rfl rfl rfl rfl ?_
      refine ev_ic f_X12_aNewName (nx := 15) (v := 2) rfl (by decide) rfl ?_
      refine ev_inV2 f_X12_aNewName (nx := 18) (lo2 := [(0, .ref 69), (1, .int 2)]) rfl rfl rfl rfl f_X12_fails (hI.wf.s rfl) rfl rfl rfl rfl rfl ?_
      refine ev_loc f_X12_fails (nx := 1) rfl rfl rfl rfl ?_
      refine ev_getI f_X12_fails (nx := 4) rfl (hI.wf.s rfl) rfl rfl rfl ?_
      refine ev_if f_X12_fails (t1 := 7) (t2 := 32) rfl rfl rfl (fun h14 => ?_) (fun h14 => ?_)
      · have u15 : (gi3 69 18).toInt ≤ 0 := t_equ h14 (by decide : (0:Int32).toInt ≤ (0:Int))
        have l16 : 0 ≤ (gi3 69 18).toInt := t_eql h14 (by decide : (0:Int) ≤ (0:Int32).toInt)
        refine ev_loc f_X12_fails (nx := 8) rfl rfl rfl rfl ?_
        refine ev_loc f_X12_fails (nx := 9) rfl rfl rfl rfl ?_
        refine ev_gvI f_X12_fails (nx := 12) (w := (gi3 69 12)) rfl (hI.wf.s rfl) rfl rfl rfl rfl ?_
        refine ev_ic f_X12_fails (nx := 13) (v := 1) rfl (by decide) rfl ?_
        refine ev_f f_X12_fails (t1 := 16) (t2 := 20) rfl rfl rfl (t_neT' (by decide : (1:Int32).toInt ≤ (1:Int)) l8 (by decide)) ?_
        refine ev_loc f_X12_fails (nx := 21) rfl rfl rfl rfl ?_
        refine ev_putIT f_X12_fails (nx := 24) rfl (hI.wf.s rfl) rfl rfl rfl (hI.put0 (hI.wf.s rfl) rfl rfl) (hX.upI rfl) (fun g17 e17 hI hX => ?_)
        refine ev_loc f_X12_fails (nx := 25) rfl rfl rfl rfl ?_
        refine ev_loc f_X12_fails (nx := 26) rfl rfl rfl rfl ?_
        refine ev_gvI f_X12_fails (nx := 29) (w := (gi3 69 13)) rfl (hI.wf.s rfl) rfl rfl ((by rw [e17]; exact x_up2_off (Or.inr (by decide)) : g17 69 13 = gi3 69 13).trans rfl) rfl ?_
        refine ev_putIT f_X12_fails (nx := 32) rfl (hI.wf.s rfl) rfl rfl rfl (hI.put0 (hI.wf.s rfl) rfl rfl) (hX.upI rfl) (fun g18 e18 hI hX => ?_)
        refine ev_ic f_X12_fails (nx := 33) (v := 0) rfl (by decide) rfl ?_
        refine ev_retK1 f_X12_fails rfl rfl rfl ?_
        exact ev_ret f_X12_aNewName rfl rfl rfl ⟨_, _, _, rfl, hI, hX, ⟨_, rfl, (by decide : (0:Int) ≤ (0:Int32).toInt), (Int.le_trans (by decide : (0:Int32).toInt ≤ (0:Int)) (by decide : (0:Int) ≤ 1)), (show (gi 69 14).toInt ≤ (g18 69 14).toInt ∧ (0 = 1 → (g18 69 12).toInt ≠ 0 → (gi 69 14).toInt < (g18 69 14).toInt) from (by have ff19 : (g18 69 14).toInt = (gi3 69 14).toInt := congrArg Int32.toInt ((by rw [e18]; exact x_up2_off (Or.inr (by decide)) : g18 69 14 = g17 69 14).trans ((by rw [e17]; exact x_up2_off (Or.inr (by decide)) : g17 69 14 = gi3 69 14).trans rfl)); have ff20 : (g18 69 12).toInt = (gi3 69 12).toInt := congrArg Int32.toInt ((by rw [e18]; exact x_up2_off (Or.inr (by decide)) : g18 69 12 = g17 69 12).trans ((by rw [e17]; exact x_up2_off (Or.inr (by decide)) : g17 69 12 = gi3 69 12).trans rfl)); omega))⟩⟩
      · have r21 : (gi3 69 18).toInt ≠ 0 := fun e => h14 (Int32.toInt_inj.mp (e.trans (by decide : (0:Int) = (0 : Int32).toInt)))
        refine ev_ic f_X12_fails (nx := 33) (v := 0) rfl (by decide) rfl ?_
        refine ev_retK1 f_X12_fails rfl rfl rfl ?_
        exact ev_ret f_X12_aNewName rfl rfl rfl ⟨_, _, _, rfl, hI, hX, ⟨_, rfl, (by decide : (0:Int) ≤ (0:Int32).toInt), (Int.le_trans (by decide : (0:Int32).toInt ≤ (0:Int)) (by decide : (0:Int) ≤ 1)), (show (gi 69 14).toInt ≤ (gi3 69 14).toInt ∧ (0 = 1 → (gi3 69 12).toInt ≠ 0 → (gi 69 14).toInt < (gi3 69 14).toInt) from (by omega))⟩⟩
    · have u22 : z10.toInt ≤ 8 := t_leu (t_nlt h11) (by decide : (8:Int32).toInt ≤ (8:Int))
      refine ev_loc f_X12_isName (nx := 23) rfl rfl rfl rfl ?_
      refine ev_loc f_X12_isName (nx := 24) rfl rfl rfl rfl ?_
      refine ev_qI f_X12_isName (nx := 27) (r := []) rfl rfl rfl rfl rfl rfl rfl (c_m_inWords hI ) rfl hX rfl (fun w23 gi23 gl23 gr23 l23 u23 hI hX hC23 q23 => ?_)
      have q23 : 0 ≤ w23.toInt → (gi3 69 12).toInt = 2 := q23
      refine ev_ic f_X12_isName (nx := 28) (v := -1) rfl (by decide) rfl ?_
      refine ev_if f_X12_isName (t1 := 31) (t2 := 35) rfl rfl rfl (fun h24 => ?_) (fun h24 => ?_)
      · have u25 : w23.toInt ≤ (-1) := t_equ h24 (by decide : ((-1):Int32).toInt ≤ ((-1):Int))
        have l26 : (-1) ≤ w23.toInt := t_eql h24 (by decide : ((-1):Int) ≤ ((-1):Int32).toInt)
        refine ev_ic f_X12_isName (nx := 32) (v := 1) rfl (by decide) rfl ?_
        refine ev_jmp f_X12_isName (nx := 36) rfl rfl rfl ?_
        refine ev_retK1 f_X12_isName rfl rfl rfl ?_
        refine ev_f f_X12_aNewName (t1 := 13) (t2 := 19) rfl rfl rfl (by decide) ?_
        refine ev_loc f_X12_aNewName (nx := 20) rfl rfl rfl rfl ?_
        refine ev_bp f_X12_aNewName (nx := 22) (v := 72) rfl (by decide) rfl ?_
        refine ev_loc f_X12_aNewName (nx := 23) rfl rfl rfl rfl ?_
        refine ev_getR f_X12_aNewName (nx := 26) rfl (hI.wf.s rfl) rfl rfl (hI.wf.r rfl) rfl rfl ?_
        refine ev_sp f_X12_aNewName (nx := 29) (v := 1400) rfl (by decide) rfl ?_
        obtain ⟨l27, u27⟩ := hI.ab (by decide +kernel : t_abr 70 1400 1400 0 6 = true) (Nat.le_refl _) (Nat.le_refl _)
        refine ev_ialdv f_X12_aNewName (nx := 30) (w := (gi23 70 1400)) rfl (hI.wf.s rfl) (by decide) (rfl : (1400 : Int32).toNatClampNeg = 1400) (by decide) rfl rfl ?_
        refine ev_cI f_X12_aNewName (nx := 33) (r := []) rfl rfl rfl rfl rfl rfl rfl (c_m_findHere hI (72) (by decide : (72:Int) ≤ (72:Int32).toInt) (Int.le_trans (by decide : (72:Int32).toInt ≤ (72:Int)) (by decide : (72:Int) ≤ 84)) ((gi23 70 1400)) l27 u27) rfl hX rfl (fun w28 gi28 gl28 gr28 l28 u28 hI hX hC28 => ?_)
        refine ev_ic f_X12_aNewName (nx := 34) (v := -1) rfl (by decide) rfl ?_
        refine ev_if f_X12_aNewName (t1 := 37) (t2 := 73) rfl rfl rfl (fun h29 => ?_) (fun h29 => ?_)
        · have u30 : w28.toInt ≤ (-1) := t_equ h29 (by decide : ((-1):Int32).toInt ≤ ((-1):Int))
          refine ev_loc f_X12_aNewName (nx := 38) rfl rfl rfl rfl ?_
          refine ev_bp f_X12_aNewName (nx := 40) (v := 78) rfl (by decide) rfl ?_
          refine ev_loc f_X12_aNewName (nx := 41) rfl rfl rfl rfl ?_
          refine ev_getR f_X12_aNewName (nx := 44) rfl (hI.wf.s rfl) rfl rfl (hI.wf.r rfl) rfl rfl ?_
          refine ev_sp f_X12_aNewName (nx := 47) (v := 1401) rfl (by decide) rfl ?_
          obtain ⟨l31, u31⟩ := hI.ab (by decide +kernel : t_abr 70 1401 1401 0 6 = true) (Nat.le_refl _) (Nat.le_refl _)
          refine ev_ialdv f_X12_aNewName (nx := 48) (w := (gi28 70 1401)) rfl (hI.wf.s rfl) (by decide) (rfl : (1401 : Int32).toNatClampNeg = 1401) (by decide) rfl rfl ?_
          refine ev_cI f_X12_aNewName (nx := 51) (r := []) rfl rfl rfl rfl rfl rfl rfl (c_m_findHere hI (78) (Int.le_trans (by decide : (72:Int) ≤ 78) (by decide : (78:Int) ≤ (78:Int32).toInt)) (Int.le_trans (by decide : (78:Int32).toInt ≤ (78:Int)) (by decide : (78:Int) ≤ 84)) ((gi28 70 1401)) l31 u31) rfl hX rfl (fun w32 gi32 gl32 gr32 l32 u32 hI hX hC32 => ?_)
          refine ev_ic f_X12_aNewName (nx := 52) (v := -1) rfl (by decide) rfl ?_
          refine ev_if f_X12_aNewName (t1 := 55) (t2 := 73) rfl rfl rfl (fun h33 => ?_) (fun h33 => ?_)
          · have u34 : w32.toInt ≤ (-1) := t_equ h33 (by decide : ((-1):Int32).toInt ≤ ((-1):Int))
            refine ev_loc f_X12_aNewName (nx := 56) rfl rfl rfl rfl ?_
            refine ev_bp f_X12_aNewName (nx := 58) (v := 84) rfl (by decide) rfl ?_
            refine ev_loc f_X12_aNewName (nx := 59) rfl rfl rfl rfl ?_
            refine ev_getR f_X12_aNewName (nx := 62) rfl (hI.wf.s rfl) rfl rfl (hI.wf.r rfl) rfl rfl ?_
            refine ev_sp f_X12_aNewName (nx := 65) (v := 1402) rfl (by decide) rfl ?_
            obtain ⟨l35, u35⟩ := hI.ab (by decide +kernel : t_abr 70 1402 1402 0 6 = true) (Nat.le_refl _) (Nat.le_refl _)
            refine ev_ialdv f_X12_aNewName (nx := 66) (w := (gi32 70 1402)) rfl (hI.wf.s rfl) (by decide) (rfl : (1402 : Int32).toNatClampNeg = 1402) (by decide) rfl rfl ?_
            refine ev_cI f_X12_aNewName (nx := 69) (r := []) rfl rfl rfl rfl rfl rfl rfl (c_m_findHere hI (84) (Int.le_trans (by decide : (72:Int) ≤ 84) (by decide : (84:Int) ≤ (84:Int32).toInt)) (by decide : (84:Int32).toInt ≤ (84:Int)) ((gi32 70 1402)) l35 u35) rfl hX rfl (fun w36 gi36 gl36 gr36 l36 u36 hI hX hC36 => ?_)
            refine ev_ic f_X12_aNewName (nx := 70) (v := -1) rfl (by decide) rfl ?_
            refine ev_if f_X12_aNewName (t1 := 79) (t2 := 73) rfl rfl rfl (fun h37 => ?_) (fun h37 => ?_)
            · have u38 : w36.toInt ≤ (-1) := t_equ h37 (by decide : ((-1):Int32).toInt ≤ ((-1):Int))
              refine ev_loc f_X12_aNewName (nx := 80) rfl rfl rfl rfl ?_
              refine ev_getR f_X12_aNewName (nx := 83) rfl (hI.wf.s rfl) rfl rfl (hI.wf.r rfl) rfl rfl ?_
              refine ev_bp f_X12_aNewName (nx := 85) (v := 72) rfl (by decide) rfl ?_
              refine ev_loc f_X12_aNewName (nx := 86) rfl rfl rfl rfl ?_
              refine ev_addK f_X12_aNewName (nx := 87) (c := 72) (l := 72) (u := 89) rfl (by decide) l_a1 u_a1 rfl rfl (by decide) (by decide) rfl (fun z39 e39 l39 u39 => ?_)
              refine ev_loc f_X12_aNewName (nx := 88) rfl rfl rfl rfl ?_
              refine ev_cL f_X12_aNewName (nx := 91) (r := [.int z39, .ref 71]) rfl rfl rfl rfl rfl rfl rfl (c_m_nameHere hI ) rfl hX rfl (fun w40 gi40 gl40 gr40 hI hX hC40 => ?_)
              refine ev_lastT f_X12_aNewName (nx := 92) rfl (hI.wf.s rfl) l39 (by decide) u39 (by decide) rfl (hX.upL (t_inR (p := 72) (m := 89) rfl l39 (by decide) u39 (by decide) (by decide))) (fun g41 e41 hX => ?_)
              refine ev_loc f_X12_aNewName (nx := 93) rfl rfl rfl rfl ?_
              refine ev_qN f_X12_aNewName (nx := 96) (r := []) rfl rfl rfl rfl rfl rfl rfl (c_m_ahead hI ) rfl hX rfl (fun gi42 gl42 gr42 hI hX hC42 q42 => ?_)
              have ff43 : (gi40 69 14).toInt = (gi3 69 14).toInt := congrArg Int32.toInt ((hC40.1 69 14 rfl).1.trans ((hC36.1 69 14 rfl).1.trans ((hC32.1 69 14 rfl).1.trans ((hC28.1 69 14 rfl).1.trans ((hC23.1 69 14 rfl).1.trans rfl)))))
              have q42 : (gi40 69 14).toInt ≤ (gi42 69 14).toInt ∧ ((gi42 69 12).toInt ≠ 0 → (gi40 69 14).toInt < (gi42 69 14).toInt) := q42
              obtain ⟨l44, u44⟩ := hI.b (hI.wf.s (k := 69) rfl) (t_bdK rfl : t_bd 11 12 = some (0, 4))
              obtain ⟨l45, u45⟩ := hI.b (hI.wf.s (k := 69) rfl) (t_bdK rfl : t_bd 11 14 = some (0, 900))
              refine ev_ic f_X12_aNewName (nx := 97) (v := 1) rfl (by decide) rfl ?_
              exact ev_ret f_X12_aNewName rfl rfl rfl ⟨_, _, _, rfl, hI, hX, ⟨_, rfl, (Int.le_trans (by decide : (0:Int) ≤ 1) (by decide : (1:Int) ≤ (1:Int32).toInt)), (by decide : (1:Int32).toInt ≤ (1:Int)), (show (gi 69 14).toInt ≤ (gi42 69 14).toInt ∧ (1 = 1 → (gi42 69 12).toInt ≠ 0 → (gi 69 14).toInt < (gi42 69 14).toInt) from (by omega))⟩⟩
            · have r46 : w36.toInt ≠ (-1) := fun e => h37 (Int32.toInt_inj.mp (e.trans (by decide : ((-1):Int) = ((-1) : Int32).toInt)))
              have l47 : 0 ≤ w36.toInt := t_nel h37 l36 rfl rfl
              refine ev_loc f_X12_aNewName (nx := 74) rfl rfl rfl rfl ?_
              refine ev_ic f_X12_aNewName (nx := 75) (v := 3) rfl (by decide) rfl ?_
              refine ev_inV2 f_X12_aNewName (nx := 78) (lo2 := [(0, .ref 69), (1, .int 3)]) rfl rfl rfl rfl f_X12_fails (hI.wf.s rfl) rfl rfl rfl rfl rfl ?_
              refine ev_loc f_X12_fails (nx := 1) rfl rfl rfl rfl ?_
              refine ev_getI f_X12_fails (nx := 4) rfl (hI.wf.s rfl) rfl rfl rfl ?_
              refine ev_if f_X12_fails (t1 := 7) (t2 := 32) rfl rfl rfl (fun h48 => ?_) (fun h48 => ?_)
              · have u49 : (gi36 69 18).toInt ≤ 0 := t_equ h48 (by decide : (0:Int32).toInt ≤ (0:Int))
                have l50 : 0 ≤ (gi36 69 18).toInt := t_eql h48 (by decide : (0:Int) ≤ (0:Int32).toInt)
                refine ev_loc f_X12_fails (nx := 8) rfl rfl rfl rfl ?_
                refine ev_loc f_X12_fails (nx := 9) rfl rfl rfl rfl ?_
                refine ev_gvI f_X12_fails (nx := 12) (w := (gi3 69 12)) rfl (hI.wf.s rfl) rfl rfl ((hC36.1 69 12 rfl).1.trans ((hC32.1 69 12 rfl).1.trans ((hC28.1 69 12 rfl).1.trans ((hC23.1 69 12 rfl).1.trans rfl)))) rfl ?_
                refine ev_ic f_X12_fails (nx := 13) (v := 1) rfl (by decide) rfl ?_
                refine ev_f f_X12_fails (t1 := 16) (t2 := 20) rfl rfl rfl (t_neT' (by decide : (1:Int32).toInt ≤ (1:Int)) l8 (by decide)) ?_
                refine ev_loc f_X12_fails (nx := 21) rfl rfl rfl rfl ?_
                refine ev_putIT f_X12_fails (nx := 24) rfl (hI.wf.s rfl) rfl rfl rfl (hI.put0 (hI.wf.s rfl) rfl rfl) (hX.upI rfl) (fun g51 e51 hI hX => ?_)
                refine ev_loc f_X12_fails (nx := 25) rfl rfl rfl rfl ?_
                refine ev_loc f_X12_fails (nx := 26) rfl rfl rfl rfl ?_
                refine ev_gvI f_X12_fails (nx := 29) (w := (gi3 69 13)) rfl (hI.wf.s rfl) rfl rfl ((by rw [e51]; exact x_up2_off (Or.inr (by decide)) : g51 69 13 = gi36 69 13).trans ((hC36.1 69 13 rfl).1.trans ((hC32.1 69 13 rfl).1.trans ((hC28.1 69 13 rfl).1.trans ((hC23.1 69 13 rfl).1.trans rfl))))) rfl ?_
                refine ev_putIT f_X12_fails (nx := 32) rfl (hI.wf.s rfl) rfl rfl rfl (hI.put0 (hI.wf.s rfl) rfl rfl) (hX.upI rfl) (fun g52 e52 hI hX => ?_)
                refine ev_ic f_X12_fails (nx := 33) (v := 0) rfl (by decide) rfl ?_
                refine ev_retK1 f_X12_fails rfl rfl rfl ?_
                exact ev_ret f_X12_aNewName rfl rfl rfl ⟨_, _, _, rfl, hI, hX, ⟨_, rfl, (by decide : (0:Int) ≤ (0:Int32).toInt), (Int.le_trans (by decide : (0:Int32).toInt ≤ (0:Int)) (by decide : (0:Int) ≤ 1)), (show (gi 69 14).toInt ≤ (g52 69 14).toInt ∧ (0 = 1 → (g52 69 12).toInt ≠ 0 → (gi 69 14).toInt < (g52 69 14).toInt) from (by have ff53 : (g52 69 14).toInt = (gi3 69 14).toInt := congrArg Int32.toInt ((by rw [e52]; exact x_up2_off (Or.inr (by decide)) : g52 69 14 = g51 69 14).trans ((by rw [e51]; exact x_up2_off (Or.inr (by decide)) : g51 69 14 = gi36 69 14).trans ((hC36.1 69 14 rfl).1.trans ((hC32.1 69 14 rfl).1.trans ((hC28.1 69 14 rfl).1.trans ((hC23.1 69 14 rfl).1.trans rfl)))))); have ff54 : (g52 69 12).toInt = (gi3 69 12).toInt := congrArg Int32.toInt ((by rw [e52]; exact x_up2_off (Or.inr (by decide)) : g52 69 12 = g51 69 12).trans ((by rw [e51]; exact x_up2_off (Or.inr (by decide)) : g51 69 12 = gi36 69 12).trans ((hC36.1 69 12 rfl).1.trans ((hC32.1 69 12 rfl).1.trans ((hC28.1 69 12 rfl).1.trans ((hC23.1 69 12 rfl).1.trans rfl)))))); omega))⟩⟩
              · have r55 : (gi36 69 18).toInt ≠ 0 := fun e => h48 (Int32.toInt_inj.mp (e.trans (by decide : (0:Int) = (0 : Int32).toInt)))
                refine ev_ic f_X12_fails (nx := 33) (v := 0) rfl (by decide) rfl ?_
                refine ev_retK1 f_X12_fails rfl rfl rfl ?_
                exact ev_ret f_X12_aNewName rfl rfl rfl ⟨_, _, _, rfl, hI, hX, ⟨_, rfl, (by decide : (0:Int) ≤ (0:Int32).toInt), (Int.le_trans (by decide : (0:Int32).toInt ≤ (0:Int)) (by decide : (0:Int) ≤ 1)), (show (gi 69 14).toInt ≤ (gi36 69 14).toInt ∧ (0 = 1 → (gi36 69 12).toInt ≠ 0 → (gi 69 14).toInt < (gi36 69 14).toInt) from (by have ff56 : (gi36 69 14).toInt = (gi3 69 14).toInt := congrArg Int32.toInt ((hC36.1 69 14 rfl).1.trans ((hC32.1 69 14 rfl).1.trans ((hC28.1 69 14 rfl).1.trans ((hC23.1 69 14 rfl).1.trans rfl)))); have ff57 : (gi36 69 12).toInt = (gi3 69 12).toInt := congrArg Int32.toInt ((hC36.1 69 12 rfl).1.trans ((hC32.1 69 12 rfl).1.trans ((hC28.1 69 12 rfl).1.trans ((hC23.1 69 12 rfl).1.trans rfl)))); omega))⟩⟩
          · have r58 : w32.toInt ≠ (-1) := fun e => h33 (Int32.toInt_inj.mp (e.trans (by decide : ((-1):Int) = ((-1) : Int32).toInt)))
            have l59 : 0 ≤ w32.toInt := t_nel h33 l32 rfl rfl
            refine ev_loc f_X12_aNewName (nx := 74) rfl rfl rfl rfl ?_
            refine ev_ic f_X12_aNewName (nx := 75) (v := 3) rfl (by decide) rfl ?_
            refine ev_inV2 f_X12_aNewName (nx := 78) (lo2 := [(0, .ref 69), (1, .int 3)]) rfl rfl rfl rfl f_X12_fails (hI.wf.s rfl) rfl rfl rfl rfl rfl ?_
            refine ev_loc f_X12_fails (nx := 1) rfl rfl rfl rfl ?_
            refine ev_getI f_X12_fails (nx := 4) rfl (hI.wf.s rfl) rfl rfl rfl ?_
            refine ev_if f_X12_fails (t1 := 7) (t2 := 32) rfl rfl rfl (fun h60 => ?_) (fun h60 => ?_)
            · have u61 : (gi32 69 18).toInt ≤ 0 := t_equ h60 (by decide : (0:Int32).toInt ≤ (0:Int))
              have l62 : 0 ≤ (gi32 69 18).toInt := t_eql h60 (by decide : (0:Int) ≤ (0:Int32).toInt)
              refine ev_loc f_X12_fails (nx := 8) rfl rfl rfl rfl ?_
              refine ev_loc f_X12_fails (nx := 9) rfl rfl rfl rfl ?_
              refine ev_gvI f_X12_fails (nx := 12) (w := (gi3 69 12)) rfl (hI.wf.s rfl) rfl rfl ((hC32.1 69 12 rfl).1.trans ((hC28.1 69 12 rfl).1.trans ((hC23.1 69 12 rfl).1.trans rfl))) rfl ?_
              refine ev_ic f_X12_fails (nx := 13) (v := 1) rfl (by decide) rfl ?_
              refine ev_f f_X12_fails (t1 := 16) (t2 := 20) rfl rfl rfl (t_neT' (by decide : (1:Int32).toInt ≤ (1:Int)) l8 (by decide)) ?_
              refine ev_loc f_X12_fails (nx := 21) rfl rfl rfl rfl ?_
              refine ev_putIT f_X12_fails (nx := 24) rfl (hI.wf.s rfl) rfl rfl rfl (hI.put0 (hI.wf.s rfl) rfl rfl) (hX.upI rfl) (fun g63 e63 hI hX => ?_)
              refine ev_loc f_X12_fails (nx := 25) rfl rfl rfl rfl ?_
              refine ev_loc f_X12_fails (nx := 26) rfl rfl rfl rfl ?_
              refine ev_gvI f_X12_fails (nx := 29) (w := (gi3 69 13)) rfl (hI.wf.s rfl) rfl rfl ((by rw [e63]; exact x_up2_off (Or.inr (by decide)) : g63 69 13 = gi32 69 13).trans ((hC32.1 69 13 rfl).1.trans ((hC28.1 69 13 rfl).1.trans ((hC23.1 69 13 rfl).1.trans rfl)))) rfl ?_
              refine ev_putIT f_X12_fails (nx := 32) rfl (hI.wf.s rfl) rfl rfl rfl (hI.put0 (hI.wf.s rfl) rfl rfl) (hX.upI rfl) (fun g64 e64 hI hX => ?_)
              refine ev_ic f_X12_fails (nx := 33) (v := 0) rfl (by decide) rfl ?_
              refine ev_retK1 f_X12_fails rfl rfl rfl ?_
              exact ev_ret f_X12_aNewName rfl rfl rfl ⟨_, _, _, rfl, hI, hX, ⟨_, rfl, (by decide : (0:Int) ≤ (0:Int32).toInt), (Int.le_trans (by decide : (0:Int32).toInt ≤ (0:Int)) (by decide : (0:Int) ≤ 1)), (show (gi 69 14).toInt ≤ (g64 69 14).toInt ∧ (0 = 1 → (g64 69 12).toInt ≠ 0 → (gi 69 14).toInt < (g64 69 14).toInt) from (by have ff65 : (g64 69 14).toInt = (gi3 69 14).toInt := congrArg Int32.toInt ((by rw [e64]; exact x_up2_off (Or.inr (by decide)) : g64 69 14 = g63 69 14).trans ((by rw [e63]; exact x_up2_off (Or.inr (by decide)) : g63 69 14 = gi32 69 14).trans ((hC32.1 69 14 rfl).1.trans ((hC28.1 69 14 rfl).1.trans ((hC23.1 69 14 rfl).1.trans rfl))))); have ff66 : (g64 69 12).toInt = (gi3 69 12).toInt := congrArg Int32.toInt ((by rw [e64]; exact x_up2_off (Or.inr (by decide)) : g64 69 12 = g63 69 12).trans ((by rw [e63]; exact x_up2_off (Or.inr (by decide)) : g63 69 12 = gi32 69 12).trans ((hC32.1 69 12 rfl).1.trans ((hC28.1 69 12 rfl).1.trans ((hC23.1 69 12 rfl).1.trans rfl))))); omega))⟩⟩
            · have r67 : (gi32 69 18).toInt ≠ 0 := fun e => h60 (Int32.toInt_inj.mp (e.trans (by decide : (0:Int) = (0 : Int32).toInt)))
              refine ev_ic f_X12_fails (nx := 33) (v := 0) rfl (by decide) rfl ?_
              refine ev_retK1 f_X12_fails rfl rfl rfl ?_
              exact ev_ret f_X12_aNewName rfl rfl rfl ⟨_, _, _, rfl, hI, hX, ⟨_, rfl, (by decide : (0:Int) ≤ (0:Int32).toInt), (Int.le_trans (by decide : (0:Int32).toInt ≤ (0:Int)) (by decide : (0:Int) ≤ 1)), (show (gi 69 14).toInt ≤ (gi32 69 14).toInt ∧ (0 = 1 → (gi32 69 12).toInt ≠ 0 → (gi 69 14).toInt < (gi32 69 14).toInt) from (by have ff68 : (gi32 69 14).toInt = (gi3 69 14).toInt := congrArg Int32.toInt ((hC32.1 69 14 rfl).1.trans ((hC28.1 69 14 rfl).1.trans ((hC23.1 69 14 rfl).1.trans rfl))); have ff69 : (gi32 69 12).toInt = (gi3 69 12).toInt := congrArg Int32.toInt ((hC32.1 69 12 rfl).1.trans ((hC28.1 69 12 rfl).1.trans ((hC23.1 69 12 rfl).1.trans rfl))); omega))⟩⟩
        · have r70 : w28.toInt ≠ (-1) := fun e => h29 (Int32.toInt_inj.mp (e.trans (by decide : ((-1):Int) = ((-1) : Int32).toInt)))
          have l71 : 0 ≤ w28.toInt := t_nel h29 l28 rfl rfl
          refine ev_loc f_X12_aNewName (nx := 74) rfl rfl rfl rfl ?_
          refine ev_ic f_X12_aNewName (nx := 75) (v := 3) rfl (by decide) rfl ?_
          refine ev_inV2 f_X12_aNewName (nx := 78) (lo2 := [(0, .ref 69), (1, .int 3)]) rfl rfl rfl rfl f_X12_fails (hI.wf.s rfl) rfl rfl rfl rfl rfl ?_
          refine ev_loc f_X12_fails (nx := 1) rfl rfl rfl rfl ?_
          refine ev_getI f_X12_fails (nx := 4) rfl (hI.wf.s rfl) rfl rfl rfl ?_
          refine ev_if f_X12_fails (t1 := 7) (t2 := 32) rfl rfl rfl (fun h72 => ?_) (fun h72 => ?_)
          · have u73 : (gi28 69 18).toInt ≤ 0 := t_equ h72 (by decide : (0:Int32).toInt ≤ (0:Int))
            have l74 : 0 ≤ (gi28 69 18).toInt := t_eql h72 (by decide : (0:Int) ≤ (0:Int32).toInt)
            refine ev_loc f_X12_fails (nx := 8) rfl rfl rfl rfl ?_
            refine ev_loc f_X12_fails (nx := 9) rfl rfl rfl rfl ?_
            refine ev_gvI f_X12_fails (nx := 12) (w := (gi3 69 12)) rfl (hI.wf.s rfl) rfl rfl ((hC28.1 69 12 rfl).1.trans ((hC23.1 69 12 rfl).1.trans rfl)) rfl ?_
            refine ev_ic f_X12_fails (nx := 13) (v := 1) rfl (by decide) rfl ?_
            refine ev_f f_X12_fails (t1 := 16) (t2 := 20) rfl rfl rfl (t_neT' (by decide : (1:Int32).toInt ≤ (1:Int)) l8 (by decide)) ?_
            refine ev_loc f_X12_fails (nx := 21) rfl rfl rfl rfl ?_
            refine ev_putIT f_X12_fails (nx := 24) rfl (hI.wf.s rfl) rfl rfl rfl (hI.put0 (hI.wf.s rfl) rfl rfl) (hX.upI rfl) (fun g75 e75 hI hX => ?_)
            refine ev_loc f_X12_fails (nx := 25) rfl rfl rfl rfl ?_
            refine ev_loc f_X12_fails (nx := 26) rfl rfl rfl rfl ?_
            refine ev_gvI f_X12_fails (nx := 29) (w := (gi3 69 13)) rfl (hI.wf.s rfl) rfl rfl ((by rw [e75]; exact x_up2_off (Or.inr (by decide)) : g75 69 13 = gi28 69 13).trans ((hC28.1 69 13 rfl).1.trans ((hC23.1 69 13 rfl).1.trans rfl))) rfl ?_
            refine ev_putIT f_X12_fails (nx := 32) rfl (hI.wf.s rfl) rfl rfl rfl (hI.put0 (hI.wf.s rfl) rfl rfl) (hX.upI rfl) (fun g76 e76 hI hX => ?_)
            refine ev_ic f_X12_fails (nx := 33) (v := 0) rfl (by decide) rfl ?_
            refine ev_retK1 f_X12_fails rfl rfl rfl ?_
            exact ev_ret f_X12_aNewName rfl rfl rfl ⟨_, _, _, rfl, hI, hX, ⟨_, rfl, (by decide : (0:Int) ≤ (0:Int32).toInt), (Int.le_trans (by decide : (0:Int32).toInt ≤ (0:Int)) (by decide : (0:Int) ≤ 1)), (show (gi 69 14).toInt ≤ (g76 69 14).toInt ∧ (0 = 1 → (g76 69 12).toInt ≠ 0 → (gi 69 14).toInt < (g76 69 14).toInt) from (by have ff77 : (g76 69 14).toInt = (gi3 69 14).toInt := congrArg Int32.toInt ((by rw [e76]; exact x_up2_off (Or.inr (by decide)) : g76 69 14 = g75 69 14).trans ((by rw [e75]; exact x_up2_off (Or.inr (by decide)) : g75 69 14 = gi28 69 14).trans ((hC28.1 69 14 rfl).1.trans ((hC23.1 69 14 rfl).1.trans rfl)))); have ff78 : (g76 69 12).toInt = (gi3 69 12).toInt := congrArg Int32.toInt ((by rw [e76]; exact x_up2_off (Or.inr (by decide)) : g76 69 12 = g75 69 12).trans ((by rw [e75]; exact x_up2_off (Or.inr (by decide)) : g75 69 12 = gi28 69 12).trans ((hC28.1 69 12 rfl).1.trans ((hC23.1 69 12 rfl).1.trans rfl)))); omega))⟩⟩
          · have r79 : (gi28 69 18).toInt ≠ 0 := fun e => h72 (Int32.toInt_inj.mp (e.trans (by decide : (0:Int) = (0 : Int32).toInt)))
            refine ev_ic f_X12_fails (nx := 33) (v := 0) rfl (by decide) rfl ?_
            refine ev_retK1 f_X12_fails rfl rfl rfl ?_
            exact ev_ret f_X12_aNewName rfl rfl rfl ⟨_, _, _, rfl, hI, hX, ⟨_, rfl, (by decide : (0:Int) ≤ (0:Int32).toInt), (Int.le_trans (by decide : (0:Int32).toInt ≤ (0:Int)) (by decide : (0:Int) ≤ 1)), (show (gi 69 14).toInt ≤ (gi28 69 14).toInt ∧ (0 = 1 → (gi28 69 12).toInt ≠ 0 → (gi 69 14).toInt < (gi28 69 14).toInt) from (by have ff80 : (gi28 69 14).toInt = (gi3 69 14).toInt := congrArg Int32.toInt ((hC28.1 69 14 rfl).1.trans ((hC23.1 69 14 rfl).1.trans rfl)); have ff81 : (gi28 69 12).toInt = (gi3 69 12).toInt := congrArg Int32.toInt ((hC28.1 69 12 rfl).1.trans ((hC23.1 69 12 rfl).1.trans rfl)); omega))⟩⟩
      · have r82 : w23.toInt ≠ (-1) := fun e => h24 (Int32.toInt_inj.mp (e.trans (by decide : ((-1):Int) = ((-1) : Int32).toInt)))
        refine ev_ic f_X12_isName (nx := 36) (v := 0) rfl (by decide) rfl ?_
        refine ev_retK1 f_X12_isName rfl rfl rfl ?_
        refine ev_t f_X12_aNewName (t1 := 13) (t2 := 19) rfl rfl rfl (by decide) ?_
        refine ev_loc f_X12_aNewName (nx := 14) rfl rfl rfl rfl ?_
        refine ev_ic f_X12_aNewName (nx := 15) (v := 2) rfl (by decide) rfl ?_
        refine ev_inV2 f_X12_aNewName (nx := 18) (lo2 := [(0, .ref 69), (1, .int 2)]) rfl rfl rfl rfl f_X12_fails (hI.wf.s rfl) rfl rfl rfl rfl rfl ?_
        refine ev_loc f_X12_fails (nx := 1) rfl rfl rfl rfl ?_
        refine ev_getI f_X12_fails (nx := 4) rfl (hI.wf.s rfl) rfl rfl rfl ?_
        refine ev_if f_X12_fails (t1 := 7) (t2 := 32) rfl rfl rfl (fun h83 => ?_) (fun h83 => ?_)
        · have u84 : (gi23 69 18).toInt ≤ 0 := t_equ h83 (by decide : (0:Int32).toInt ≤ (0:Int))
          have l85 : 0 ≤ (gi23 69 18).toInt := t_eql h83 (by decide : (0:Int) ≤ (0:Int32).toInt)
          refine ev_loc f_X12_fails (nx := 8) rfl rfl rfl rfl ?_
          refine ev_loc f_X12_fails (nx := 9) rfl rfl rfl rfl ?_
          refine ev_gvI f_X12_fails (nx := 12) (w := (gi3 69 12)) rfl (hI.wf.s rfl) rfl rfl ((hC23.1 69 12 rfl).1.trans rfl) rfl ?_
          refine ev_ic f_X12_fails (nx := 13) (v := 1) rfl (by decide) rfl ?_
          refine ev_f f_X12_fails (t1 := 16) (t2 := 20) rfl rfl rfl (t_neT' (by decide : (1:Int32).toInt ≤ (1:Int)) l8 (by decide)) ?_
          refine ev_loc f_X12_fails (nx := 21) rfl rfl rfl rfl ?_
          refine ev_putIT f_X12_fails (nx := 24) rfl (hI.wf.s rfl) rfl rfl rfl (hI.put0 (hI.wf.s rfl) rfl rfl) (hX.upI rfl) (fun g86 e86 hI hX => ?_)
          refine ev_loc f_X12_fails (nx := 25) rfl rfl rfl rfl ?_
          refine ev_loc f_X12_fails (nx := 26) rfl rfl rfl rfl ?_
          refine ev_gvI f_X12_fails (nx := 29) (w := (gi3 69 13)) rfl (hI.wf.s rfl) rfl rfl ((by rw [e86]; exact x_up2_off (Or.inr (by decide)) : g86 69 13 = gi23 69 13).trans ((hC23.1 69 13 rfl).1.trans rfl)) rfl ?_
          refine ev_putIT f_X12_fails (nx := 32) rfl (hI.wf.s rfl) rfl rfl rfl (hI.put0 (hI.wf.s rfl) rfl rfl) (hX.upI rfl) (fun g87 e87 hI hX => ?_)
          refine ev_ic f_X12_fails (nx := 33) (v := 0) rfl (by decide) rfl ?_
          refine ev_retK1 f_X12_fails rfl rfl rfl ?_
          exact ev_ret f_X12_aNewName rfl rfl rfl ⟨_, _, _, rfl, hI, hX, ⟨_, rfl, (by decide : (0:Int) ≤ (0:Int32).toInt), (Int.le_trans (by decide : (0:Int32).toInt ≤ (0:Int)) (by decide : (0:Int) ≤ 1)), (show (gi 69 14).toInt ≤ (g87 69 14).toInt ∧ (0 = 1 → (g87 69 12).toInt ≠ 0 → (gi 69 14).toInt < (g87 69 14).toInt) from (by have ff88 : (g87 69 14).toInt = (gi3 69 14).toInt := congrArg Int32.toInt ((by rw [e87]; exact x_up2_off (Or.inr (by decide)) : g87 69 14 = g86 69 14).trans ((by rw [e86]; exact x_up2_off (Or.inr (by decide)) : g86 69 14 = gi23 69 14).trans ((hC23.1 69 14 rfl).1.trans rfl))); have ff89 : (g87 69 12).toInt = (gi3 69 12).toInt := congrArg Int32.toInt ((by rw [e87]; exact x_up2_off (Or.inr (by decide)) : g87 69 12 = g86 69 12).trans ((by rw [e86]; exact x_up2_off (Or.inr (by decide)) : g86 69 12 = gi23 69 12).trans ((hC23.1 69 12 rfl).1.trans rfl))); omega))⟩⟩
        · have r90 : (gi23 69 18).toInt ≠ 0 := fun e => h83 (Int32.toInt_inj.mp (e.trans (by decide : (0:Int) = (0 : Int32).toInt)))
          refine ev_ic f_X12_fails (nx := 33) (v := 0) rfl (by decide) rfl ?_
          refine ev_retK1 f_X12_fails rfl rfl rfl ?_
          exact ev_ret f_X12_aNewName rfl rfl rfl ⟨_, _, _, rfl, hI, hX, ⟨_, rfl, (by decide : (0:Int) ≤ (0:Int32).toInt), (Int.le_trans (by decide : (0:Int32).toInt ≤ (0:Int)) (by decide : (0:Int) ≤ 1)), (show (gi 69 14).toInt ≤ (gi23 69 14).toInt ∧ (0 = 1 → (gi23 69 12).toInt ≠ 0 → (gi 69 14).toInt < (gi23 69 14).toInt) from (by have ff91 : (gi23 69 14).toInt = (gi3 69 14).toInt := congrArg Int32.toInt ((hC23.1 69 14 rfl).1.trans rfl); have ff92 : (gi23 69 12).toInt = (gi3 69 12).toInt := congrArg Int32.toInt ((hC23.1 69 12 rfl).1.trans rfl); omega))⟩⟩
  · have r93 : (gi3 69 12).toInt ≠ 2 := fun e => h6 (Int32.toInt_inj.mp (e.trans (by decide : (2:Int) = (2 : Int32).toInt)))
    refine ev_ic f_X12_isName (nx := 36) (v := 0) rfl (by decide) rfl ?_
    refine ev_retK1 f_X12_isName rfl rfl rfl ?_
    refine ev_t f_X12_aNewName (t1 := 13) (t2 := 19) rfl rfl rfl (by decide) ?_
    refine ev_loc f_X12_aNewName (nx := 14) rfl rfl rfl rfl ?_
    refine ev_ic f_X12_aNewName (nx := 15) (v := 2) rfl (by decide) rfl ?_
    refine ev_inV2 f_X12_aNewName (nx := 18) (lo2 := [(0, .ref 69), (1, .int 2)]) rfl rfl rfl rfl f_X12_fails (hI.wf.s rfl) rfl rfl rfl rfl rfl ?_
    refine ev_loc f_X12_fails (nx := 1) rfl rfl rfl rfl ?_
    refine ev_getI f_X12_fails (nx := 4) rfl (hI.wf.s rfl) rfl rfl rfl ?_
    refine ev_if f_X12_fails (t1 := 7) (t2 := 32) rfl rfl rfl (fun h94 => ?_) (fun h94 => ?_)
    · have u95 : (gi3 69 18).toInt ≤ 0 := t_equ h94 (by decide : (0:Int32).toInt ≤ (0:Int))
      have l96 : 0 ≤ (gi3 69 18).toInt := t_eql h94 (by decide : (0:Int) ≤ (0:Int32).toInt)
      refine ev_loc f_X12_fails (nx := 8) rfl rfl rfl rfl ?_
      refine ev_loc f_X12_fails (nx := 9) rfl rfl rfl rfl ?_
      refine ev_gvI f_X12_fails (nx := 12) (w := (gi3 69 12)) rfl (hI.wf.s rfl) rfl rfl rfl rfl ?_
      refine ev_ic f_X12_fails (nx := 13) (v := 1) rfl (by decide) rfl ?_
      refine ev_if f_X12_fails (t1 := 16) (t2 := 20) rfl rfl rfl (fun h97 => ?_) (fun h97 => ?_)
      · have u98 : (gi3 69 12).toInt ≤ 1 := t_equ h97 (by decide : (1:Int32).toInt ≤ (1:Int))
        have l99 : 1 ≤ (gi3 69 12).toInt := t_eql h97 (by decide : (1:Int) ≤ (1:Int32).toInt)
        refine ev_ic f_X12_fails (nx := 17) (v := 1) rfl (by decide) rfl ?_
        refine ev_jmp f_X12_fails (nx := 21) rfl rfl rfl ?_
        refine ev_putIT f_X12_fails (nx := 24) rfl (hI.wf.s rfl) rfl rfl rfl (hI.put0 (hI.wf.s rfl) rfl rfl) (hX.upI rfl) (fun g100 e100 hI hX => ?_)
        refine ev_loc f_X12_fails (nx := 25) rfl rfl rfl rfl ?_
        refine ev_loc f_X12_fails (nx := 26) rfl rfl rfl rfl ?_
        refine ev_getI f_X12_fails (nx := 29) rfl (hI.wf.s rfl) rfl rfl rfl ?_
        obtain ⟨l101, u101⟩ := hI.b (hI.wf.s (k := 69) rfl) (t_bdK rfl : t_bd 11 13 = some (0, 900))
        refine ev_putIT f_X12_fails (nx := 32) rfl (hI.wf.s rfl) rfl rfl rfl (hI.put0 (hI.wf.s rfl) rfl rfl) (hX.upI rfl) (fun g102 e102 hI hX => ?_)
        refine ev_ic f_X12_fails (nx := 33) (v := 0) rfl (by decide) rfl ?_
        refine ev_retK1 f_X12_fails rfl rfl rfl ?_
        exact ev_ret f_X12_aNewName rfl rfl rfl ⟨_, _, _, rfl, hI, hX, ⟨_, rfl, (by decide : (0:Int) ≤ (0:Int32).toInt), (Int.le_trans (by decide : (0:Int32).toInt ≤ (0:Int)) (by decide : (0:Int) ≤ 1)), (show (gi 69 14).toInt ≤ (g102 69 14).toInt ∧ (0 = 1 → (g102 69 12).toInt ≠ 0 → (gi 69 14).toInt < (g102 69 14).toInt) from (by have ff103 : (g102 69 14).toInt = (gi3 69 14).toInt := congrArg Int32.toInt ((by rw [e102]; exact x_up2_off (Or.inr (by decide)) : g102 69 14 = g100 69 14).trans ((by rw [e100]; exact x_up2_off (Or.inr (by decide)) : g100 69 14 = gi3 69 14).trans rfl)); have ff104 : (g102 69 12).toInt = (gi3 69 12).toInt := congrArg Int32.toInt ((by rw [e102]; exact x_up2_off (Or.inr (by decide)) : g102 69 12 = g100 69 12).trans ((by rw [e100]; exact x_up2_off (Or.inr (by decide)) : g100 69 12 = gi3 69 12).trans rfl)); omega))⟩⟩
      · have r105 : (gi3 69 12).toInt ≠ 1 := fun e => h97 (Int32.toInt_inj.mp (e.trans (by decide : (1:Int) = (1 : Int32).toInt)))
        refine ev_loc f_X12_fails (nx := 21) rfl rfl rfl rfl ?_
        refine ev_putIT f_X12_fails (nx := 24) rfl (hI.wf.s rfl) rfl rfl rfl (hI.put0 (hI.wf.s rfl) rfl rfl) (hX.upI rfl) (fun g106 e106 hI hX => ?_)
        refine ev_loc f_X12_fails (nx := 25) rfl rfl rfl rfl ?_
        refine ev_loc f_X12_fails (nx := 26) rfl rfl rfl rfl ?_
        refine ev_getI f_X12_fails (nx := 29) rfl (hI.wf.s rfl) rfl rfl rfl ?_
        obtain ⟨l107, u107⟩ := hI.b (hI.wf.s (k := 69) rfl) (t_bdK rfl : t_bd 11 13 = some (0, 900))
        refine ev_putIT f_X12_fails (nx := 32) rfl (hI.wf.s rfl) rfl rfl rfl (hI.put0 (hI.wf.s rfl) rfl rfl) (hX.upI rfl) (fun g108 e108 hI hX => ?_)
        refine ev_ic f_X12_fails (nx := 33) (v := 0) rfl (by decide) rfl ?_
        refine ev_retK1 f_X12_fails rfl rfl rfl ?_
        exact ev_ret f_X12_aNewName rfl rfl rfl ⟨_, _, _, rfl, hI, hX, ⟨_, rfl, (by decide : (0:Int) ≤ (0:Int32).toInt), (Int.le_trans (by decide : (0:Int32).toInt ≤ (0:Int)) (by decide : (0:Int) ≤ 1)), (show (gi 69 14).toInt ≤ (g108 69 14).toInt ∧ (0 = 1 → (g108 69 12).toInt ≠ 0 → (gi 69 14).toInt < (g108 69 14).toInt) from (by have ff109 : (g108 69 14).toInt = (gi3 69 14).toInt := congrArg Int32.toInt ((by rw [e108]; exact x_up2_off (Or.inr (by decide)) : g108 69 14 = g106 69 14).trans ((by rw [e106]; exact x_up2_off (Or.inr (by decide)) : g106 69 14 = gi3 69 14).trans rfl)); have ff110 : (g108 69 12).toInt = (gi3 69 12).toInt := congrArg Int32.toInt ((by rw [e108]; exact x_up2_off (Or.inr (by decide)) : g108 69 12 = g106 69 12).trans ((by rw [e106]; exact x_up2_off (Or.inr (by decide)) : g106 69 12 = gi3 69 12).trans rfl)); omega))⟩⟩
    · have r111 : (gi3 69 18).toInt ≠ 0 := fun e => h94 (Int32.toInt_inj.mp (e.trans (by decide : (0:Int) = (0 : Int32).toInt)))
      refine ev_ic f_X12_fails (nx := 33) (v := 0) rfl (by decide) rfl ?_
      refine ev_retK1 f_X12_fails rfl rfl rfl ?_
      exact ev_ret f_X12_aNewName rfl rfl rfl ⟨_, _, _, rfl, hI, hX, ⟨_, rfl, (by decide : (0:Int) ≤ (0:Int32).toInt), (Int.le_trans (by decide : (0:Int32).toInt ≤ (0:Int)) (by decide : (0:Int) ≤ 1)), (show (gi 69 14).toInt ≤ (gi3 69 14).toInt ∧ (0 = 1 → (gi3 69 12).toInt ≠ 0 → (gi 69 14).toInt < (gi3 69 14).toInt) from (by omega))⟩⟩
noncomputable def wl_m_areBlasts : List (Nat × Nat) := []
noncomputable def Q_m_areBlasts (gi : Nat → Nat → Int32) (gl : Nat → Nat → Int64) (gr : Nat → Nat → Value) : Int32 → (Nat → Nat → Int32) → (Nat → Nat → Int64) → (Nat → Nat → Value) → Prop := fun (v : Int32) (gi2 : Nat → Nat → Int32) (gl2 : Nat → Nat → Int64) (gr2 : Nat → Nat → Value) => (v.toInt = 1 → (gi 69 14).toInt - (gi 69 13).toInt ≤ 6)
theorem c_m_areBlasts {X : x_Ext} {d : Nat} {sh : List (Nat ⊕ (Nat × Nat))} {gi : Nat → Nat → Int32} {gl : Nat → Nat → Int64} {gr : Nat → Nat → Value} (hI : t_I sh gi gr) : x_Me X (d + 2) n_X12_areBlasts [.ref 69] (sh, gi, gl, gr) (t_PI wl_m_areBlasts sh gi gl gr 0 1 (Q_m_areBlasts gi gl gr)) := by
  have hX : t_X wl_m_areBlasts sh gi gl gr gi gl gr := t_X.rf
  refine me_i f_X12_areBlasts (hI.wf.s rfl) rfl rfl rfl ?_
  obtain ⟨l1, u1⟩ := hI.b (hI.wf.s (k := 69) rfl) (t_bdK rfl : t_bd 11 13 = some (0, 900))
  obtain ⟨l2, u2⟩ := hI.b (hI.wf.s (k := 69) rfl) (t_bdK rfl : t_bd 11 14 = some (0, 900))
  refine ev_loc f_X12_areBlasts (nx := 1) rfl rfl rfl rfl ?_
  refine ev_getI f_X12_areBlasts (nx := 4) rfl (hI.wf.s rfl) rfl rfl rfl ?_
  obtain ⟨l3, u3⟩ := hI.b (hI.wf.s (k := 69) rfl) (t_bdK rfl : t_bd 11 12 = some (0, 4))
  refine ev_ic f_X12_areBlasts (nx := 5) (v := 2) rfl (by decide) rfl ?_
  refine ev_if f_X12_areBlasts (t1 := 8) (t2 := 22) rfl rfl rfl (fun h4 => ?_) (fun h4 => ?_)
  · have u5 : (gi 69 12).toInt ≤ 2 := t_equ h4 (by decide : (2:Int32).toInt ≤ (2:Int))
    have l6 : 2 ≤ (gi 69 12).toInt := t_eql h4 (by decide : (2:Int) ≤ (2:Int32).toInt)
    refine ev_loc f_X12_areBlasts (nx := 9) rfl rfl rfl rfl ?_
    refine ev_gvI f_X12_areBlasts (nx := 12) (w := (gi 69 14)) rfl (hI.wf.s rfl) rfl rfl rfl rfl ?_
    refine ev_loc f_X12_areBlasts (nx := 13) rfl rfl rfl rfl ?_
    refine ev_gvI f_X12_areBlasts (nx := 16) (w := (gi 69 13)) rfl (hI.wf.s rfl) rfl rfl rfl rfl ?_
    refine ev_subR f_X12_areBlasts (nx := 17) (l := (-900)) (u := 900) rfl l2 u2 l1 u1 rfl rfl (by decide) (by decide) rfl (fun z7 e7 l7 u7 => ?_)
    refine ev_bp f_X12_areBlasts (nx := 19) (v := 6) rfl (by decide) rfl ?_
    refine ev_if f_X12_areBlasts (t1 := 24) (t2 := 22) rfl rfl rfl (fun h8 => ?_) (fun h8 => ?_)
    · have u9 : z7.toInt ≤ 6 := t_leu h8 (by decide : (6:Int32).toInt ≤ (6:Int))
      refine ev_loc f_X12_areBlasts (nx := 25) rfl rfl rfl rfl ?_
      refine ev_gvI f_X12_areBlasts (nx := 28) (w := (gi 69 13)) rfl (hI.wf.s rfl) rfl rfl rfl rfl ?_
      refine ev_loc f_X12_areBlasts (nx := 29) (lo' := [(1, .int (gi 69 13)), (0, .ref 69)]) rfl rfl rfl rfl ?_
      have L10 : ∀ (m10 : Nat) (gi10 : Nat → Nat → Int32) (gl10 : Nat → Nat → Int64) (gr10 : Nat → Nat → Value) (y10_1 : Int32), t_I sh gi10 gr10 → t_X wl_m_areBlasts sh gi gl gr gi10 gl10 gr10 → 0 ≤ y10_1.toInt → y10_1.toInt ≤ 900 → gi10 69 12 = (gi 69 12) → gi10 69 13 = (gi 69 13) → gi10 69 14 = (gi 69 14) → (900 - y10_1.toInt).toNat = m10 → x_Ev X (d + 2) n_X12_areBlasts 29 [(1, .int y10_1), (0, .ref 69)] [] (sh, gi10, gl10, gr10) (t_PI wl_m_areBlasts sh gi gl gr 0 1 (Q_m_areBlasts gi gl gr)) := by
        intro m10
        induction m10 using Nat.strongRecOn with
        | _ m10 ih10 =>
        intro gi10 gl10 gr10 y10_1 hI hX l10_1 u10_1 c10_0 c10_1 c10_2 hm10
        refine ev_loc f_X12_areBlasts (nx := 30) rfl rfl rfl rfl ?_
        refine ev_loc f_X12_areBlasts (nx := 31) rfl rfl rfl rfl ?_
        refine ev_gvI f_X12_areBlasts (nx := 34) (w := (gi 69 14)) rfl (hI.wf.s rfl) rfl rfl c10_2 rfl ?_
        refine ev_if f_X12_areBlasts (t1 := 65) (t2 := 37) rfl rfl rfl (fun h11 => ?_) (fun h11 => ?_)
        · have r12 : (gi 69 14).toInt ≤ y10_1.toInt := Int32.le_iff_toInt_le.mp h11
          refine ev_ic f_X12_areBlasts (nx := 66) (v := 1) rfl (by decide) rfl ?_
          exact ev_ret f_X12_areBlasts rfl rfl rfl ⟨_, _, _, rfl, hI, hX, ⟨_, rfl, (Int.le_trans (by decide : (0:Int) ≤ 1) (by decide : (1:Int) ≤ (1:Int32).toInt)), (by decide : (1:Int32).toInt ≤ (1:Int)), (show (1 = 1 → (gi 69 14).toInt - (gi 69 13).toInt ≤ 6) from (by omega))⟩⟩
        · have r13 : y10_1.toInt < (gi 69 14).toInt := Int32.lt_iff_toInt_lt.mp (t_nle h11)
          have u14 : y10_1.toInt ≤ 899 := t_ltu (t_nle h11) u2 rfl
          have l15 : 1 ≤ (gi 69 14).toInt := t_ltl (t_nle h11) l10_1 rfl
          refine ev_loc f_X12_areBlasts (nx := 38) rfl rfl rfl rfl ?_
          refine ev_loc f_X12_areBlasts (nx := 39) rfl rfl rfl rfl ?_
          refine ev_inV2 f_X12_areBlasts (nx := 42) (lo2 := [(0, .ref 69), (1, .int y10_1)]) rfl rfl rfl rfl f_X12_byteAt (hI.wf.s rfl) rfl rfl rfl rfl rfl ?_
          refine ev_loc f_X12_byteAt (nx := 1) rfl rfl rfl rfl ?_
          refine ev_loc f_X12_byteAt (nx := 2) rfl rfl rfl rfl ?_
          refine ev_getI f_X12_byteAt (nx := 5) rfl (hI.wf.s rfl) rfl rfl rfl ?_
          obtain ⟨l16, u16⟩ := hI.b (hI.wf.s (k := 69) rfl) (t_bdK rfl : t_bd 11 11 = some (0, 900))
          refine ev_if f_X12_byteAt (t1 := 21) (t2 := 8) rfl rfl rfl (fun h17 => ?_) (fun h17 => ?_)
          · have r18 : (gi10 69 11).toInt ≤ y10_1.toInt := Int32.le_iff_toInt_le.mp h17
            have u19 : (gi10 69 11).toInt ≤ 899 := t_leu h17 u14
            refine ev_ic f_X12_byteAt (nx := 22) (v := -1) rfl (by decide) rfl ?_
            refine ev_retK1 f_X12_byteAt rfl rfl rfl ?_
            refine ev_bp f_X12_areBlasts (nx := 44) (v := 108) rfl (by decide) rfl ?_
            refine ev_f f_X12_areBlasts (t1 := 59) (t2 := 47) rfl rfl rfl (by decide) ?_
            refine ev_loc f_X12_areBlasts (nx := 48) rfl rfl rfl rfl ?_
            refine ev_loc f_X12_areBlasts (nx := 49) rfl rfl rfl rfl ?_
            refine ev_inV2 f_X12_areBlasts (nx := 52) (lo2 := [(0, .ref 69), (1, .int y10_1)]) rfl rfl rfl rfl f_X12_byteAt (hI.wf.s rfl) rfl rfl rfl rfl rfl ?_
            refine ev_loc f_X12_byteAt (nx := 1) rfl rfl rfl rfl ?_
            refine ev_loc f_X12_byteAt (nx := 2) rfl rfl rfl rfl ?_
            refine ev_gvI f_X12_byteAt (nx := 5) (w := (gi10 69 11)) rfl (hI.wf.s rfl) rfl rfl rfl rfl ?_
            refine ev_if f_X12_byteAt (t1 := 21) (t2 := 8) rfl rfl rfl (fun h20 => ?_) (fun h20 => ?_)
            · have r21 : (gi10 69 11).toInt ≤ y10_1.toInt := Int32.le_iff_toInt_le.mp h20
              refine ev_ic f_X12_byteAt (nx := 22) (v := -1) rfl (by decide) rfl ?_
              refine ev_retK1 f_X12_byteAt rfl rfl rfl ?_
              refine ev_bp f_X12_areBlasts (nx := 54) (v := 115) rfl (by decide) rfl ?_
              refine ev_f f_X12_areBlasts (t1 := 59) (t2 := 57) rfl rfl rfl (by decide) ?_
              refine ev_ic f_X12_areBlasts (nx := 58) (v := 0) rfl (by decide) rfl ?_
              exact ev_ret f_X12_areBlasts rfl rfl rfl ⟨_, _, _, rfl, hI, hX, ⟨_, rfl, (by decide : (0:Int) ≤ (0:Int32).toInt), (Int.le_trans (by decide : (0:Int32).toInt ≤ (0:Int)) (by decide : (0:Int) ≤ 1)), (show (0 = 1 → (gi 69 14).toInt - (gi 69 13).toInt ≤ 6) from (by omega))⟩⟩
            · have r22 : y10_1.toInt < (gi10 69 11).toInt := Int32.lt_iff_toInt_lt.mp (t_nle h20)
              have u23 : y10_1.toInt ≤ 898 := t_ltu (t_nle h20) u19 rfl
              have l24 : 1 ≤ (gi10 69 11).toInt := t_ltl (t_nle h20) l10_1 rfl
              refine ev_loc f_X12_byteAt (nx := 9) rfl rfl rfl rfl ?_
              refine ev_getR f_X12_byteAt (nx := 12) rfl (hI.wf.s rfl) rfl rfl (hI.wf.r rfl) rfl rfl ?_
              refine ev_loc f_X12_byteAt (nx := 13) rfl rfl rfl rfl ?_
              refine ev_baldT f_X12_byteAt (nx := 14) rfl (hI.wf.s rfl) rfl l10_1 (by decide) u23 (by decide) rfl (fun w25 e25 => ?_)
              refine ev_sp f_X12_byteAt (nx := 17) (v := 255) rfl (by decide) rfl ?_
              refine ev_andE f_X12_byteAt (nx := 18) (c := 255) rfl (by decide) (by decide) rfl (fun z26 e26 l26 u26 => ?_)
              refine ev_jmp f_X12_byteAt (nx := 22) rfl rfl rfl ?_
              refine ev_retK1 f_X12_byteAt rfl rfl rfl ?_
              refine ev_bp f_X12_areBlasts (nx := 54) (v := 115) rfl (by decide) rfl ?_
              refine ev_if f_X12_areBlasts (t1 := 59) (t2 := 57) rfl rfl rfl (fun h27 => ?_) (fun h27 => ?_)
              · have u28 : z26.toInt ≤ 115 := t_equ h27 (by decide : (115:Int32).toInt ≤ (115:Int))
                have l29 : 115 ≤ z26.toInt := t_eql h27 (by decide : (115:Int) ≤ (115:Int32).toInt)
                refine ev_incR f_X12_areBlasts (nx := 62) (c := 1) (l := 1) (u := 899) rfl rfl (by decide) (by decide) l10_1 u23 rfl rfl (by decide) (by decide) rfl (fun z30 e30 l30 u30 => ?_)
                refine ev_jmp f_X12_areBlasts (nx := 29) rfl rfl rfl ?_
                refine ev_sub (lo := [(1, .int z30), (0, .ref 69)]) rfl (t_sc rfl (t_sc rfl t_sn)) ?_
                exact ih10 _ (by omega) gi10 gl10 gr10 (z30) hI hX  (Int.le_trans (by decide : (0:Int) ≤ 1) l30) (Int.le_trans u30 (by decide : (899:Int) ≤ 900)) c10_0 c10_1 c10_2 rfl
              · have r31 : z26.toInt ≠ 115 := fun e => h27 (Int32.toInt_inj.mp (e.trans (by decide : (115:Int) = (115 : Int32).toInt)))
                refine ev_ic f_X12_areBlasts (nx := 58) (v := 0) rfl (by decide) rfl ?_
                exact ev_ret f_X12_areBlasts rfl rfl rfl ⟨_, _, _, rfl, hI, hX, ⟨_, rfl, (by decide : (0:Int) ≤ (0:Int32).toInt), (Int.le_trans (by decide : (0:Int32).toInt ≤ (0:Int)) (by decide : (0:Int) ≤ 1)), (show (0 = 1 → (gi 69 14).toInt - (gi 69 13).toInt ≤ 6) from (by omega))⟩⟩
          · have r32 : y10_1.toInt < (gi10 69 11).toInt := Int32.lt_iff_toInt_lt.mp (t_nle h17)
            have l33 : 1 ≤ (gi10 69 11).toInt := t_ltl (t_nle h17) l10_1 rfl
            refine ev_loc f_X12_byteAt (nx := 9) rfl rfl rfl rfl ?_
            refine ev_getR f_X12_byteAt (nx := 12) rfl (hI.wf.s rfl) rfl rfl (hI.wf.r rfl) rfl rfl ?_
            refine ev_loc f_X12_byteAt (nx := 13) rfl rfl rfl rfl ?_
            refine ev_baldT f_X12_byteAt (nx := 14) rfl (hI.wf.s rfl) rfl l10_1 (by decide) u14 (by decide) rfl (fun w34 e34 => ?_)
            refine ev_sp f_X12_byteAt (nx := 17) (v := 255) rfl (by decide) rfl ?_
            refine ev_andE f_X12_byteAt (nx := 18) (c := 255) rfl (by decide) (by decide) rfl (fun z35 e35 l35 u35 => ?_)
            refine ev_jmp f_X12_byteAt (nx := 22) rfl rfl rfl ?_
            refine ev_retK1 f_X12_byteAt rfl rfl rfl ?_
            refine ev_bp f_X12_areBlasts (nx := 44) (v := 108) rfl (by decide) rfl ?_
            refine ev_if f_X12_areBlasts (t1 := 59) (t2 := 47) rfl rfl rfl (fun h36 => ?_) (fun h36 => ?_)
            · have u37 : z35.toInt ≤ 108 := t_equ h36 (by decide : (108:Int32).toInt ≤ (108:Int))
              have l38 : 108 ≤ z35.toInt := t_eql h36 (by decide : (108:Int) ≤ (108:Int32).toInt)
              refine ev_incR f_X12_areBlasts (nx := 62) (c := 1) (l := 1) (u := 900) rfl rfl (by decide) (by decide) l10_1 u14 rfl rfl (by decide) (by decide) rfl (fun z39 e39 l39 u39 => ?_)
              refine ev_jmp f_X12_areBlasts (nx := 29) rfl rfl rfl ?_
              refine ev_sub (lo := [(1, .int z39), (0, .ref 69)]) rfl (t_sc rfl (t_sc rfl t_sn)) ?_
              exact ih10 _ (by omega) gi10 gl10 gr10 (z39) hI hX  (Int.le_trans (by decide : (0:Int) ≤ 1) l39) u39 c10_0 c10_1 c10_2 rfl
            · have r40 : z35.toInt ≠ 108 := fun e => h36 (Int32.toInt_inj.mp (e.trans (by decide : (108:Int) = (108 : Int32).toInt)))
              refine ev_loc f_X12_areBlasts (nx := 48) rfl rfl rfl rfl ?_
              refine ev_loc f_X12_areBlasts (nx := 49) rfl rfl rfl rfl ?_
              refine ev_inV2 f_X12_areBlasts (nx := 52) (lo2 := [(0, .ref 69), (1, .int y10_1)]) rfl rfl rfl rfl f_X12_byteAt (hI.wf.s rfl) rfl rfl rfl rfl rfl ?_
              refine ev_loc f_X12_byteAt (nx := 1) rfl rfl rfl rfl ?_
              refine ev_loc f_X12_byteAt (nx := 2) rfl rfl rfl rfl ?_
              refine ev_gvI f_X12_byteAt (nx := 5) (w := (gi10 69 11)) rfl (hI.wf.s rfl) rfl rfl rfl rfl ?_
              refine ev_if f_X12_byteAt (t1 := 21) (t2 := 8) rfl rfl rfl (fun h41 => ?_) (fun h41 => ?_)
              · have r42 : (gi10 69 11).toInt ≤ y10_1.toInt := Int32.le_iff_toInt_le.mp h41
                have u43 : (gi10 69 11).toInt ≤ 899 := t_leu h41 u14
                have l44 : 1 ≤ y10_1.toInt := t_lel h41 l33
                refine ev_ic f_X12_byteAt (nx := 22) (v := -1) rfl (by decide) rfl ?_
                refine ev_retK1 f_X12_byteAt rfl rfl rfl ?_
                refine ev_bp f_X12_areBlasts (nx := 54) (v := 115) rfl (by decide) rfl ?_
                refine ev_f f_X12_areBlasts (t1 := 59) (t2 := 57) rfl rfl rfl (by decide) ?_
                refine ev_ic f_X12_areBlasts (nx := 58) (v := 0) rfl (by decide) rfl ?_
                exact ev_ret f_X12_areBlasts rfl rfl rfl ⟨_, _, _, rfl, hI, hX, ⟨_, rfl, (by decide : (0:Int) ≤ (0:Int32).toInt), (Int.le_trans (by decide : (0:Int32).toInt ≤ (0:Int)) (by decide : (0:Int) ≤ 1)), (show (0 = 1 → (gi 69 14).toInt - (gi 69 13).toInt ≤ 6) from (by omega))⟩⟩
              · have r45 : y10_1.toInt < (gi10 69 11).toInt := Int32.lt_iff_toInt_lt.mp (t_nle h41)
                refine ev_loc f_X12_byteAt (nx := 9) rfl rfl rfl rfl ?_
                refine ev_getR f_X12_byteAt (nx := 12) rfl (hI.wf.s rfl) rfl rfl (hI.wf.r rfl) rfl rfl ?_
                refine ev_loc f_X12_byteAt (nx := 13) rfl rfl rfl rfl ?_
                refine ev_baldT f_X12_byteAt (nx := 14) rfl (hI.wf.s rfl) rfl l10_1 (by decide) u14 (by decide) rfl (fun w46 e46 => ?_)
                rw [e46.trans e34.symm]
                refine ev_sp f_X12_byteAt (nx := 17) (v := 255) rfl (by decide) rfl ?_
                refine ev_andE f_X12_byteAt (nx := 18) (c := 255) rfl (by decide) (by decide) rfl (fun z47 e47 l47 u47 => ?_)
                rw [e47.trans e35.symm]
                refine ev_jmp f_X12_byteAt (nx := 22) rfl rfl rfl ?_
                refine ev_retK1 f_X12_byteAt rfl rfl rfl ?_
                refine ev_bp f_X12_areBlasts (nx := 54) (v := 115) rfl (by decide) rfl ?_
                refine ev_if f_X12_areBlasts (t1 := 59) (t2 := 57) rfl rfl rfl (fun h48 => ?_) (fun h48 => ?_)
                · have u49 : z35.toInt ≤ 115 := t_equ h48 (by decide : (115:Int32).toInt ≤ (115:Int))
                  have l50 : 115 ≤ z35.toInt := t_eql h48 (by decide : (115:Int) ≤ (115:Int32).toInt)
                  refine ev_incR f_X12_areBlasts (nx := 62) (c := 1) (l := 1) (u := 900) rfl rfl (by decide) (by decide) l10_1 u14 rfl rfl (by decide) (by decide) rfl (fun z51 e51 l51 u51 => ?_)
                  refine ev_jmp f_X12_areBlasts (nx := 29) rfl rfl rfl ?_
                  refine ev_sub (lo := [(1, .int z51), (0, .ref 69)]) rfl (t_sc rfl (t_sc rfl t_sn)) ?_
                  exact ih10 _ (by omega) gi10 gl10 gr10 (z51) hI hX  (Int.le_trans (by decide : (0:Int) ≤ 1) l51) u51 c10_0 c10_1 c10_2 rfl
                · have r52 : z35.toInt ≠ 115 := fun e => h48 (Int32.toInt_inj.mp (e.trans (by decide : (115:Int) = (115 : Int32).toInt)))
                  refine ev_ic f_X12_areBlasts (nx := 58) (v := 0) rfl (by decide) rfl ?_
                  exact ev_ret f_X12_areBlasts rfl rfl rfl ⟨_, _, _, rfl, hI, hX, ⟨_, rfl, (by decide : (0:Int) ≤ (0:Int32).toInt), (Int.le_trans (by decide : (0:Int32).toInt ≤ (0:Int)) (by decide : (0:Int) ≤ 1)), (show (0 = 1 → (gi 69 14).toInt - (gi 69 13).toInt ≤ 6) from (by omega))⟩⟩
      refine ev_sub (lo := [(1, .int (gi 69 13)), (0, .ref 69)]) rfl (t_sc rfl (t_sc rfl t_sn)) ?_
      exact L10 _ gi gl gr ((gi 69 13)) hI hX  l1 u1 rfl rfl rfl rfl
    · have l53 : 7 ≤ z7.toInt := t_ltl (t_nle h8) (by decide : (6:Int) ≤ (6:Int32).toInt) rfl
      have u54 : (gi 69 13).toInt ≤ 893 := by have := u2; omega
      refine ev_ic f_X12_areBlasts (nx := 23) (v := 0) rfl (by decide) rfl ?_
      exact ev_ret f_X12_areBlasts rfl rfl rfl ⟨_, _, _, rfl, hI, hX, ⟨_, rfl, (by decide : (0:Int) ≤ (0:Int32).toInt), (Int.le_trans (by decide : (0:Int32).toInt ≤ (0:Int)) (by decide : (0:Int) ≤ 1)), (show (0 = 1 → (gi 69 14).toInt - (gi 69 13).toInt ≤ 6) from (by omega))⟩⟩
  · have r55 : (gi 69 12).toInt ≠ 2 := fun e => h4 (Int32.toInt_inj.mp (e.trans (by decide : (2:Int) = (2 : Int32).toInt)))
    refine ev_ic f_X12_areBlasts (nx := 23) (v := 0) rfl (by decide) rfl ?_
    exact ev_ret f_X12_areBlasts rfl rfl rfl ⟨_, _, _, rfl, hI, hX, ⟨_, rfl, (by decide : (0:Int) ≤ (0:Int32).toInt), (Int.le_trans (by decide : (0:Int32).toInt ≤ (0:Int)) (by decide : (0:Int) ≤ 1)), (show (0 = 1 → (gi 69 14).toInt - (gi 69 13).toInt ≤ 6) from (by omega))⟩⟩
noncomputable def wl_m_aPort : List (Nat × Nat) := [(69, 12), (69, 13), (69, 14), (69, 15), (69, 17), (69, 18), (70, 140011400), (70, 141011452), (70, 141111458), (71, 7210089)]
noncomputable def Q_m_aPort (gi : Nat → Nat → Int32) (gl : Nat → Nat → Int64) (gr : Nat → Nat → Value) : Int32 → (Nat → Nat → Int32) → (Nat → Nat → Int64) → (Nat → Nat → Value) → Prop := fun (v : Int32) (gi2 : Nat → Nat → Int32) (gl2 : Nat → Nat → Int64) (gr2 : Nat → Nat → Value) => (gi 69 14).toInt ≤ (gi2 69 14).toInt ∧ (v.toInt = 1 → (gi2 69 12).toInt ≠ 0 → (gi 69 14).toInt < (gi2 69 14).toInt)
theorem c_m_aPort {X : x_Ext} {d : Nat} {sh : List (Nat ⊕ (Nat × Nat))} {gi : Nat → Nat → Int32} {gl : Nat → Nat → Int64} {gr : Nat → Nat → Value} (hI : t_I sh gi gr) : x_Me X (d + 8) n_X12_aPort [.ref 69] (sh, gi, gl, gr) (t_PI wl_m_aPort sh gi gl gr 0 1 (Q_m_aPort gi gl gr)) := by
  have hX : t_X wl_m_aPort sh gi gl gr gi gl gr := t_X.rf
  refine me_i f_X12_aPort (hI.wf.s rfl) rfl rfl rfl ?_
  obtain ⟨l1, u1⟩ := hI.b (hI.wf.s (k := 69) rfl) (t_bdK rfl : t_bd 11 12 = some (0, 4))
  obtain ⟨l2, u2⟩ := hI.b (hI.wf.s (k := 69) rfl) (t_bdK rfl : t_bd 11 13 = some (0, 900))
  obtain ⟨l3, u3⟩ := hI.b (hI.wf.s (k := 69) rfl) (t_bdK rfl : t_bd 11 14 = some (0, 900))
  refine ev_loc f_X12_aPort (nx := 1) rfl rfl rfl rfl ?_
  refine ev_getR f_X12_aPort (nx := 4) rfl (hI.wf.s rfl) rfl rfl (hI.wf.r rfl) rfl rfl ?_
  refine ev_sp f_X12_aPort (nx := 7) (v := 1400) rfl (by decide) rfl ?_
  obtain ⟨l4, u4⟩ := hI.ab (by decide +kernel : t_abr 70 1400 1400 0 6 = true) (Nat.le_refl _) (Nat.le_refl _)
  refine ev_ialdv f_X12_aPort (nx := 8) (w := (gi 70 1400)) rfl (hI.wf.s rfl) (by decide) (rfl : (1400 : Int32).toNatClampNeg = 1400) (by decide) rfl rfl ?_
  refine ev_loc f_X12_aPort (nx := 9) (lo' := [(1, .int (gi 70 1400)), (0, .ref 69)]) rfl rfl rfl rfl ?_
  refine ev_sp f_X12_aPort (nx := 12) (v := 1410) rfl (by decide) rfl ?_
  refine ev_bp f_X12_aPort (nx := 14) (v := 7) rfl (by decide) rfl ?_
  refine ev_loc f_X12_aPort (nx := 15) rfl rfl rfl rfl ?_
  refine ev_mulL f_X12_aPort (nx := 16) (c := 7) (l := 0) (u := 42) rfl (by decide) (by decide) l4 u4 rfl rfl (by decide) (by decide) rfl (fun z5 e5 l5 u5 => ?_)
  refine ev_addK f_X12_aPort (nx := 17) (c := 1410) (l := 1410) (u := 1452) rfl (by decide) l5 u5 rfl rfl (by decide) (by decide) rfl (fun z6 e6 l6 u6 => ?_)
  refine ev_loc f_X12_aPort (nx := 18) (lo' := [(2, .int z6), (1, .int (gi 70 1400)), (0, .ref 69)]) rfl rfl rfl rfl ?_
  refine ev_loc f_X12_aPort (nx := 19) rfl rfl rfl rfl ?_
  refine ev_bp f_X12_aPort (nx := 21) (v := 6) rfl (by decide) rfl ?_
  refine ev_if f_X12_aPort (t1 := 24) (t2 := 31) rfl rfl rfl (fun h7 => ?_) (fun h7 => ?_)
  · have l8 : 6 ≤ (gi 70 1400).toInt := t_eql h7 (by decide : (6:Int) ≤ (6:Int32).toInt)
    refine ev_loc f_X12_aPort (nx := 25) rfl rfl rfl rfl ?_
    refine ev_bp f_X12_aPort (nx := 27) (v := 6) rfl (by decide) rfl ?_
    refine ev_inV2 f_X12_aPort (nx := 30) (lo2 := [(0, .ref 69), (1, .int 6)]) rfl rfl rfl rfl f_X12_fails (hI.wf.s rfl) rfl rfl rfl rfl rfl ?_
    refine ev_loc f_X12_fails (nx := 1) rfl rfl rfl rfl ?_
    refine ev_getI f_X12_fails (nx := 4) rfl (hI.wf.s rfl) rfl rfl rfl ?_
    refine ev_if f_X12_fails (t1 := 7) (t2 := 32) rfl rfl rfl (fun h9 => ?_) (fun h9 => ?_)
    · have u10 : (gi 69 18).toInt ≤ 0 := t_equ h9 (by decide : (0:Int32).toInt ≤ (0:Int))
      have l11 : 0 ≤ (gi 69 18).toInt := t_eql h9 (by decide : (0:Int) ≤ (0:Int32).toInt)
      refine ev_loc f_X12_fails (nx := 8) rfl rfl rfl rfl ?_
      refine ev_loc f_X12_fails (nx := 9) rfl rfl rfl rfl ?_
      refine ev_gvI f_X12_fails (nx := 12) (w := (gi 69 12)) rfl (hI.wf.s rfl) rfl rfl rfl rfl ?_
      refine ev_ic f_X12_fails (nx := 13) (v := 1) rfl (by decide) rfl ?_
      refine ev_if f_X12_fails (t1 := 16) (t2 := 20) rfl rfl rfl (fun h12 => ?_) (fun h12 => ?_)
      · have u13 : (gi 69 12).toInt ≤ 1 := t_equ h12 (by decide : (1:Int32).toInt ≤ (1:Int))
        have l14 : 1 ≤ (gi 69 12).toInt := t_eql h12 (by decide : (1:Int) ≤ (1:Int32).toInt)
        refine ev_ic f_X12_fails (nx := 17) (v := 1) rfl (by decide) rfl ?_
        refine ev_jmp f_X12_fails (nx := 21) rfl rfl rfl ?_
        refine ev_putIT f_X12_fails (nx := 24) rfl (hI.wf.s rfl) rfl rfl rfl (hI.put0 (hI.wf.s rfl) rfl rfl) (hX.upI rfl) (fun g15 e15 hI hX => ?_)
        refine ev_loc f_X12_fails (nx := 25) rfl rfl rfl rfl ?_
        refine ev_loc f_X12_fails (nx := 26) rfl rfl rfl rfl ?_
        refine ev_gvI f_X12_fails (nx := 29) (w := (gi 69 13)) rfl (hI.wf.s rfl) rfl rfl ((by rw [e15]; exact x_up2_off (Or.inr (by decide)) : g15 69 13 = gi 69 13).trans rfl) rfl ?_
        refine ev_putIT f_X12_fails (nx := 32) rfl (hI.wf.s rfl) rfl rfl rfl (hI.put0 (hI.wf.s rfl) rfl rfl) (hX.upI rfl) (fun g16 e16 hI hX => ?_)
        refine ev_ic f_X12_fails (nx := 33) (v := 0) rfl (by decide) rfl ?_
        refine ev_retK1 f_X12_fails rfl rfl rfl ?_
        exact ev_ret f_X12_aPort rfl rfl rfl ⟨_, _, _, rfl, hI, hX, ⟨_, rfl, (by decide : (0:Int) ≤ (0:Int32).toInt), (Int.le_trans (by decide : (0:Int32).toInt ≤ (0:Int)) (by decide : (0:Int) ≤ 1)), (show (gi 69 14).toInt ≤ (g16 69 14).toInt ∧ (0 = 1 → (g16 69 12).toInt ≠ 0 → (gi 69 14).toInt < (g16 69 14).toInt) from (by have ff17 : (g16 69 14).toInt = (gi 69 14).toInt := congrArg Int32.toInt ((by rw [e16]; exact x_up2_off (Or.inr (by decide)) : g16 69 14 = g15 69 14).trans ((by rw [e15]; exact x_up2_off (Or.inr (by decide)) : g15 69 14 = gi 69 14).trans rfl)); have ff18 : (g16 69 12).toInt = (gi 69 12).toInt := congrArg Int32.toInt ((by rw [e16]; exact x_up2_off (Or.inr (by decide)) : g16 69 12 = g15 69 12).trans ((by rw [e15]; exact x_up2_off (Or.inr (by decide)) : g15 69 12 = gi 69 12).trans rfl)); omega))⟩⟩
      · have r19 : (gi 69 12).toInt ≠ 1 := fun e => h12 (Int32.toInt_inj.mp (e.trans (by decide : (1:Int) = (1 : Int32).toInt)))
        refine ev_loc f_X12_fails (nx := 21) rfl rfl rfl rfl ?_
        refine ev_putIT f_X12_fails (nx := 24) rfl (hI.wf.s rfl) rfl rfl rfl (hI.put0 (hI.wf.s rfl) rfl rfl) (hX.upI rfl) (fun g20 e20 hI hX => ?_)
        refine ev_loc f_X12_fails (nx := 25) rfl rfl rfl rfl ?_
        refine ev_loc f_X12_fails (nx := 26) rfl rfl rfl rfl ?_
        refine ev_gvI f_X12_fails (nx := 29) (w := (gi 69 13)) rfl (hI.wf.s rfl) rfl rfl ((by rw [e20]; exact x_up2_off (Or.inr (by decide)) : g20 69 13 = gi 69 13).trans rfl) rfl ?_
        refine ev_putIT f_X12_fails (nx := 32) rfl (hI.wf.s rfl) rfl rfl rfl (hI.put0 (hI.wf.s rfl) rfl rfl) (hX.upI rfl) (fun g21 e21 hI hX => ?_)
        refine ev_ic f_X12_fails (nx := 33) (v := 0) rfl (by decide) rfl ?_
        refine ev_retK1 f_X12_fails rfl rfl rfl ?_
        exact ev_ret f_X12_aPort rfl rfl rfl ⟨_, _, _, rfl, hI, hX, ⟨_, rfl, (by decide : (0:Int) ≤ (0:Int32).toInt), (Int.le_trans (by decide : (0:Int32).toInt ≤ (0:Int)) (by decide : (0:Int) ≤ 1)), (show (gi 69 14).toInt ≤ (g21 69 14).toInt ∧ (0 = 1 → (g21 69 12).toInt ≠ 0 → (gi 69 14).toInt < (g21 69 14).toInt) from (by have ff22 : (g21 69 14).toInt = (gi 69 14).toInt := congrArg Int32.toInt ((by rw [e21]; exact x_up2_off (Or.inr (by decide)) : g21 69 14 = g20 69 14).trans ((by rw [e20]; exact x_up2_off (Or.inr (by decide)) : g20 69 14 = gi 69 14).trans rfl)); have ff23 : (g21 69 12).toInt = (gi 69 12).toInt := congrArg Int32.toInt ((by rw [e21]; exact x_up2_off (Or.inr (by decide)) : g21 69 12 = g20 69 12).trans ((by rw [e20]; exact x_up2_off (Or.inr (by decide)) : g20 69 12 = gi 69 12).trans rfl)); omega))⟩⟩
    · have r24 : (gi 69 18).toInt ≠ 0 := fun e => h9 (Int32.toInt_inj.mp (e.trans (by decide : (0:Int) = (0 : Int32).toInt)))
      refine ev_ic f_X12_fails (nx := 33) (v := 0) rfl (by decide) rfl ?_
      refine ev_retK1 f_X12_fails rfl rfl rfl ?_
      exact ev_ret f_X12_aPort rfl rfl rfl ⟨_, _, _, rfl, hI, hX, ⟨_, rfl, (by decide : (0:Int) ≤ (0:Int32).toInt), (Int.le_trans (by decide : (0:Int32).toInt ≤ (0:Int)) (by decide : (0:Int) ≤ 1)), (show (gi 69 14).toInt ≤ (gi 69 14).toInt ∧ (0 = 1 → (gi 69 12).toInt ≠ 0 → (gi 69 14).toInt < (gi 69 14).toInt) from (by omega))⟩⟩
  · have r25 : (gi 70 1400).toInt ≠ 6 := fun e => h7 (Int32.toInt_inj.mp (e.trans (by decide : (6:Int) = (6 : Int32).toInt)))
    have u26 : (gi 70 1400).toInt ≤ 5 := t_neu h7 u4 rfl rfl
    refine ev_loc f_X12_aPort (nx := 32) rfl rfl rfl rfl ?_
    refine ev_loc f_X12_aPort (nx := 33) rfl rfl rfl rfl ?_
    refine ev_qI f_X12_aPort (nx := 36) (r := []) rfl rfl rfl rfl rfl rfl rfl (c_m_aNewName hI ((gi 70 1400)) l4 (Int.le_trans u26 (by decide : (5:Int) ≤ 17))) rfl hX rfl (fun w27 gi27 gl27 gr27 l27 u27 hI hX hC27 q27 => ?_)
    have q27 : (gi 69 14).toInt ≤ (gi27 69 14).toInt ∧ (w27.toInt = 1 → (gi27 69 12).toInt ≠ 0 → (gi 69 14).toInt < (gi27 69 14).toInt) := q27
    obtain ⟨l28, u28⟩ := hI.b (hI.wf.s (k := 69) rfl) (t_bdK rfl : t_bd 11 12 = some (0, 4))
    obtain ⟨l29, u29⟩ := hI.b (hI.wf.s (k := 69) rfl) (t_bdK rfl : t_bd 11 13 = some (0, 900))
    obtain ⟨l30, u30⟩ := hI.b (hI.wf.s (k := 69) rfl) (t_bdK rfl : t_bd 11 14 = some (0, 900))
    refine ev_if f_X12_aPort (t1 := 50) (t2 := 39) rfl rfl rfl (fun h31 => ?_) (fun h31 => ?_)
    · have u32 : w27.toInt ≤ 0 := t_equ h31 (by decide : (0:Int32).toInt ≤ (0:Int))
      refine ev_ic f_X12_aPort (nx := 51) (v := 0) rfl (by decide) rfl ?_
      exact ev_ret f_X12_aPort rfl rfl rfl ⟨_, _, _, rfl, hI, hX, ⟨_, rfl, (by decide : (0:Int) ≤ (0:Int32).toInt), (Int.le_trans (by decide : (0:Int32).toInt ≤ (0:Int)) (by decide : (0:Int) ≤ 1)), (show (gi 69 14).toInt ≤ (gi27 69 14).toInt ∧ (0 = 1 → (gi27 69 12).toInt ≠ 0 → (gi 69 14).toInt < (gi27 69 14).toInt) from (by omega))⟩⟩
    · have r33 : w27.toInt ≠ 0 := fun e => h31 (Int32.toInt_inj.mp (e.trans (by decide : (0:Int) = (0 : Int32).toInt)))
      have l34 : 1 ≤ w27.toInt := t_nel h31 l27 rfl rfl
      refine ev_loc f_X12_aPort (nx := 40) rfl rfl rfl rfl ?_
      refine ev_heap f_X12_aPort (nx := 42) rfl rfl rfl rfl ?_
      refine ev_bp f_X12_aPort (nx := 44) (v := 6) rfl (by decide) rfl ?_
      refine ev_qI f_X12_aPort (nx := 47) (r := []) rfl rfl rfl rfl rfl rfl rfl (c_m_wantWord hI (6)) rfl hX rfl (fun w35 gi35 gl35 gr35 l35 u35 hI hX hC35 q35 => ?_)
      have q35 : (gi27 69 14).toInt ≤ (gi35 69 14).toInt ∧ (w35.toInt = 1 → (gi35 69 12).toInt ≠ 0 → (gi27 69 14).toInt < (gi35 69 14).toInt) := q35
      obtain ⟨l36, u36⟩ := hI.b (hI.wf.s (k := 69) rfl) (t_bdK rfl : t_bd 11 12 = some (0, 4))
      obtain ⟨l37, u37⟩ := hI.b (hI.wf.s (k := 69) rfl) (t_bdK rfl : t_bd 11 13 = some (0, 900))
      obtain ⟨l38, u38⟩ := hI.b (hI.wf.s (k := 69) rfl) (t_bdK rfl : t_bd 11 14 = some (0, 900))
      refine ev_if f_X12_aPort (t1 := 50) (t2 := 52) rfl rfl rfl (fun h39 => ?_) (fun h39 => ?_)
      · have u40 : w35.toInt ≤ 0 := t_equ h39 (by decide : (0:Int32).toInt ≤ (0:Int))
        refine ev_ic f_X12_aPort (nx := 51) (v := 0) rfl (by decide) rfl ?_
        exact ev_ret f_X12_aPort rfl rfl rfl ⟨_, _, _, rfl, hI, hX, ⟨_, rfl, (by decide : (0:Int) ≤ (0:Int32).toInt), (Int.le_trans (by decide : (0:Int32).toInt ≤ (0:Int)) (by decide : (0:Int) ≤ 1)), (show (gi 69 14).toInt ≤ (gi35 69 14).toInt ∧ (0 = 1 → (gi35 69 12).toInt ≠ 0 → (gi 69 14).toInt < (gi35 69 14).toInt) from (by omega))⟩⟩
      · have r41 : w35.toInt ≠ 0 := fun e => h39 (Int32.toInt_inj.mp (e.trans (by decide : (0:Int) = (0 : Int32).toInt)))
        have l42 : 1 ≤ w35.toInt := t_nel h39 l35 rfl rfl
        refine ev_loc f_X12_aPort (nx := 53) rfl rfl rfl rfl ?_
        refine ev_qI f_X12_aPort (nx := 56) (r := []) rfl rfl rfl rfl rfl rfl rfl (c_m_areBlasts hI ) rfl hX rfl (fun w43 gi43 gl43 gr43 l43 u43 hI hX hC43 q43 => ?_)
        have q43 : (w43.toInt = 1 → (gi35 69 14).toInt - (gi35 69 13).toInt ≤ 6) := q43
        refine ev_if f_X12_aPort (t1 := 59) (t2 := 65) rfl rfl rfl (fun h44 => ?_) (fun h44 => ?_)
        · have u45 : w43.toInt ≤ 0 := t_equ h44 (by decide : (0:Int32).toInt ≤ (0:Int))
          refine ev_loc f_X12_aPort (nx := 60) rfl rfl rfl rfl ?_
          refine ev_ic f_X12_aPort (nx := 61) (v := 2) rfl (by decide) rfl ?_
          refine ev_inV2 f_X12_aPort (nx := 64) (lo2 := [(0, .ref 69), (1, .int 2)]) rfl rfl rfl rfl f_X12_fails (hI.wf.s rfl) rfl rfl rfl rfl rfl ?_
          refine ev_loc f_X12_fails (nx := 1) rfl rfl rfl rfl ?_
          refine ev_getI f_X12_fails (nx := 4) rfl (hI.wf.s rfl) rfl rfl rfl ?_
          refine ev_if f_X12_fails (t1 := 7) (t2 := 32) rfl rfl rfl (fun h46 => ?_) (fun h46 => ?_)
          · have u47 : (gi43 69 18).toInt ≤ 0 := t_equ h46 (by decide : (0:Int32).toInt ≤ (0:Int))
            have l48 : 0 ≤ (gi43 69 18).toInt := t_eql h46 (by decide : (0:Int) ≤ (0:Int32).toInt)
            refine ev_loc f_X12_fails (nx := 8) rfl rfl rfl rfl ?_
            refine ev_loc f_X12_fails (nx := 9) rfl rfl rfl rfl ?_
            refine ev_gvI f_X12_fails (nx := 12) (w := (gi35 69 12)) rfl (hI.wf.s rfl) rfl rfl ((hC43.1 69 12 rfl).1.trans rfl) rfl ?_
            refine ev_ic f_X12_fails (nx := 13) (v := 1) rfl (by decide) rfl ?_
            refine ev_if f_X12_fails (t1 := 16) (t2 := 20) rfl rfl rfl (fun h49 => ?_) (fun h49 => ?_)
            · have u50 : (gi35 69 12).toInt ≤ 1 := t_equ h49 (by decide : (1:Int32).toInt ≤ (1:Int))
              have l51 : 1 ≤ (gi35 69 12).toInt := t_eql h49 (by decide : (1:Int) ≤ (1:Int32).toInt)
              refine ev_ic f_X12_fails (nx := 17) (v := 1) rfl (by decide) rfl ?_
              refine ev_jmp f_X12_fails (nx := 21) rfl rfl rfl ?_
              refine ev_putIT f_X12_fails (nx := 24) rfl (hI.wf.s rfl) rfl rfl rfl (hI.put0 (hI.wf.s rfl) rfl rfl) (hX.upI rfl) (fun g52 e52 hI hX => ?_)
              refine ev_loc f_X12_fails (nx := 25) rfl rfl rfl rfl ?_
              refine ev_loc f_X12_fails (nx := 26) rfl rfl rfl rfl ?_
              refine ev_gvI f_X12_fails (nx := 29) (w := (gi35 69 13)) rfl (hI.wf.s rfl) rfl rfl ((by rw [e52]; exact x_up2_off (Or.inr (by decide)) : g52 69 13 = gi43 69 13).trans ((hC43.1 69 13 rfl).1.trans rfl)) rfl ?_
              refine ev_putIT f_X12_fails (nx := 32) rfl (hI.wf.s rfl) rfl rfl rfl (hI.put0 (hI.wf.s rfl) rfl rfl) (hX.upI rfl) (fun g53 e53 hI hX => ?_)
              refine ev_ic f_X12_fails (nx := 33) (v := 0) rfl (by decide) rfl ?_
              refine ev_retK1 f_X12_fails rfl rfl rfl ?_
              exact ev_ret f_X12_aPort rfl rfl rfl ⟨_, _, _, rfl, hI, hX, ⟨_, rfl, (by decide : (0:Int) ≤ (0:Int32).toInt), (Int.le_trans (by decide : (0:Int32).toInt ≤ (0:Int)) (by decide : (0:Int) ≤ 1)), (show (gi 69 14).toInt ≤ (g53 69 14).toInt ∧ (0 = 1 → (g53 69 12).toInt ≠ 0 → (gi 69 14).toInt < (g53 69 14).toInt) from (by have ff54 : (g53 69 14).toInt = (gi35 69 14).toInt := congrArg Int32.toInt ((by rw [e53]; exact x_up2_off (Or.inr (by decide)) : g53 69 14 = g52 69 14).trans ((by rw [e52]; exact x_up2_off (Or.inr (by decide)) : g52 69 14 = gi43 69 14).trans ((hC43.1 69 14 rfl).1.trans rfl))); have ff55 : (g53 69 12).toInt = (gi35 69 12).toInt := congrArg Int32.toInt ((by rw [e53]; exact x_up2_off (Or.inr (by decide)) : g53 69 12 = g52 69 12).trans ((by rw [e52]; exact x_up2_off (Or.inr (by decide)) : g52 69 12 = gi43 69 12).trans ((hC43.1 69 12 rfl).1.trans rfl))); omega))⟩⟩
            · have r56 : (gi35 69 12).toInt ≠ 1 := fun e => h49 (Int32.toInt_inj.mp (e.trans (by decide : (1:Int) = (1 : Int32).toInt)))
              refine ev_loc f_X12_fails (nx := 21) rfl rfl rfl rfl ?_
              refine ev_putIT f_X12_fails (nx := 24) rfl (hI.wf.s rfl) rfl rfl rfl (hI.put0 (hI.wf.s rfl) rfl rfl) (hX.upI rfl) (fun g57 e57 hI hX => ?_)
              refine ev_loc f_X12_fails (nx := 25) rfl rfl rfl rfl ?_
              refine ev_loc f_X12_fails (nx := 26) rfl rfl rfl rfl ?_
              refine ev_gvI f_X12_fails (nx := 29) (w := (gi35 69 13)) rfl (hI.wf.s rfl) rfl rfl ((by rw [e57]; exact x_up2_off (Or.inr (by decide)) : g57 69 13 = gi43 69 13).trans ((hC43.1 69 13 rfl).1.trans rfl)) rfl ?_
              refine ev_putIT f_X12_fails (nx := 32) rfl (hI.wf.s rfl) rfl rfl rfl (hI.put0 (hI.wf.s rfl) rfl rfl) (hX.upI rfl) (fun g58 e58 hI hX => ?_)
              refine ev_ic f_X12_fails (nx := 33) (v := 0) rfl (by decide) rfl ?_
              refine ev_retK1 f_X12_fails rfl rfl rfl ?_
              exact ev_ret f_X12_aPort rfl rfl rfl ⟨_, _, _, rfl, hI, hX, ⟨_, rfl, (by decide : (0:Int) ≤ (0:Int32).toInt), (Int.le_trans (by decide : (0:Int32).toInt ≤ (0:Int)) (by decide : (0:Int) ≤ 1)), (show (gi 69 14).toInt ≤ (g58 69 14).toInt ∧ (0 = 1 → (g58 69 12).toInt ≠ 0 → (gi 69 14).toInt < (g58 69 14).toInt) from (by have ff59 : (g58 69 14).toInt = (gi35 69 14).toInt := congrArg Int32.toInt ((by rw [e58]; exact x_up2_off (Or.inr (by decide)) : g58 69 14 = g57 69 14).trans ((by rw [e57]; exact x_up2_off (Or.inr (by decide)) : g57 69 14 = gi43 69 14).trans ((hC43.1 69 14 rfl).1.trans rfl))); have ff60 : (g58 69 12).toInt = (gi35 69 12).toInt := congrArg Int32.toInt ((by rw [e58]; exact x_up2_off (Or.inr (by decide)) : g58 69 12 = g57 69 12).trans ((by rw [e57]; exact x_up2_off (Or.inr (by decide)) : g57 69 12 = gi43 69 12).trans ((hC43.1 69 12 rfl).1.trans rfl))); omega))⟩⟩
          · have r61 : (gi43 69 18).toInt ≠ 0 := fun e => h46 (Int32.toInt_inj.mp (e.trans (by decide : (0:Int) = (0 : Int32).toInt)))
            refine ev_ic f_X12_fails (nx := 33) (v := 0) rfl (by decide) rfl ?_
            refine ev_retK1 f_X12_fails rfl rfl rfl ?_
            exact ev_ret f_X12_aPort rfl rfl rfl ⟨_, _, _, rfl, hI, hX, ⟨_, rfl, (by decide : (0:Int) ≤ (0:Int32).toInt), (Int.le_trans (by decide : (0:Int32).toInt ≤ (0:Int)) (by decide : (0:Int) ≤ 1)), (show (gi 69 14).toInt ≤ (gi43 69 14).toInt ∧ (0 = 1 → (gi43 69 12).toInt ≠ 0 → (gi 69 14).toInt < (gi43 69 14).toInt) from (by have ff62 : (gi43 69 14).toInt = (gi35 69 14).toInt := congrArg Int32.toInt ((hC43.1 69 14 rfl).1.trans rfl); have ff63 : (gi43 69 12).toInt = (gi35 69 12).toInt := congrArg Int32.toInt ((hC43.1 69 12 rfl).1.trans rfl); omega))⟩⟩
        · have r64 : w43.toInt ≠ 0 := fun e => h44 (Int32.toInt_inj.mp (e.trans (by decide : (0:Int) = (0 : Int32).toInt)))
          have l65 : 1 ≤ w43.toInt := t_nel h44 l43 rfl rfl
          refine ev_loc f_X12_aPort (nx := 66) rfl rfl rfl rfl ?_
          refine ev_getR f_X12_aPort (nx := 69) rfl (hI.wf.s rfl) rfl rfl (hI.wf.r rfl) rfl rfl ?_
          refine ev_loc f_X12_aPort (nx := 70) rfl rfl rfl rfl ?_
          refine ev_loc f_X12_aPort (nx := 71) rfl rfl rfl rfl ?_
          refine ev_gvI f_X12_aPort (nx := 74) (w := (gi35 69 14)) rfl (hI.wf.s rfl) rfl rfl ((hC43.1 69 14 rfl).1.trans rfl) rfl ?_
          refine ev_loc f_X12_aPort (nx := 75) rfl rfl rfl rfl ?_
          refine ev_gvI f_X12_aPort (nx := 78) (w := (gi35 69 13)) rfl (hI.wf.s rfl) rfl rfl ((hC43.1 69 13 rfl).1.trans rfl) rfl ?_
          refine ev_subR f_X12_aPort (nx := 79) (l := (-900)) (u := 900) rfl l38 u38 l37 u37 rfl rfl (by decide) (by decide) rfl (fun z66 e66 l66 u66 => ?_)
          have u68 : z66.toInt ≤ (6:Int) := (by omega)
          refine ev_iastT f_X12_aPort (nx := 80) rfl (hI.wf.s rfl) l6 (by decide) u6 (by decide) rfl (hI.astA (x := (gi 70 1400)) (hI.wf.s rfl) (by decide +kernel : t_abwa 70 1410 7 0 5 (-900) 6 = true) (by omega) (by omega) (by omega) l66 u68 rfl) (hX.upI (t_inR (p := 1410) (m := 1452) rfl l6 (by decide) u6 (by decide) (by decide))) (fun g67 e67 hI hX => ?_)
          refine ev_ic f_X12_aPort (nx := 81) (v := 0) rfl (by decide) rfl ?_
          refine ev_loc f_X12_aPort (nx := 82) (lo' := [(3, .int 0), (2, .int z6), (1, .int (gi 70 1400)), (0, .ref 69)]) rfl rfl rfl rfl ?_
          have L69 : ∀ (m69 : Nat) (gi69 : Nat → Nat → Int32) (gl69 : Nat → Nat → Int64) (gr69 : Nat → Nat → Value) (y69_3 : Int32), t_I sh gi69 gr69 → t_X wl_m_aPort sh gi gl gr gi69 gl69 gr69 → 0 ≤ y69_3.toInt → y69_3.toInt ≤ 6 → gi69 69 12 = (gi35 69 12) → gi69 69 13 = (gi35 69 13) → gi69 69 14 = (gi35 69 14) → gi69 70 1400 = (gi 70 1400) → (6 - y69_3.toInt).toNat = m69 → x_Ev X (d + 8) n_X12_aPort 82 [(3, .int y69_3), (2, .int z6), (1, .int (gi 70 1400)), (0, .ref 69)] [] (sh, gi69, gl69, gr69) (t_PI wl_m_aPort sh gi gl gr 0 1 (Q_m_aPort gi gl gr)) := by
            intro m69
            induction m69 using Nat.strongRecOn with
            | _ m69 ih69 =>
            intro gi69 gl69 gr69 y69_3 hI hX l69_3 u69_3 c69_0 c69_1 c69_2 c69_3 hm69
            refine ev_loc f_X12_aPort (nx := 83) rfl rfl rfl rfl ?_
            refine ev_bp f_X12_aPort (nx := 85) (v := 6) rfl (by decide) rfl ?_
            refine ev_if f_X12_aPort (t1 := 128) (t2 := 88) rfl rfl rfl (fun h70 => ?_) (fun h70 => ?_)
            · have l71 : 6 ≤ y69_3.toInt := t_lel h70 (by decide : (6:Int) ≤ (6:Int32).toInt)
              refine ev_sp f_X12_aPort (nx := 131) (v := 1410) rfl (by decide) rfl ?_
              refine ev_loc f_X12_aPort (nx := 132) (lo' := [(3, .int 1410), (2, .int z6), (1, .int (gi 70 1400)), (0, .ref 69)]) rfl rfl rfl rfl ?_
              have L72 : ∀ (m72 : Nat) (gi72 : Nat → Nat → Int32) (gl72 : Nat → Nat → Int64) (gr72 : Nat → Nat → Value) (y72_3 : Int32), t_I sh gi72 gr72 → t_X wl_m_aPort sh gi gl gr gi72 gl72 gr72 → 1410 ≤ y72_3.toInt → y72_3.toInt ≤ 1000000000 → gi72 69 12 = (gi35 69 12) → gi72 69 13 = (gi35 69 13) → gi72 69 14 = (gi35 69 14) → gi72 70 1400 = (gi 70 1400) → (1000000000 - y72_3.toInt).toNat = m72 → x_Ev X (d + 8) n_X12_aPort 132 [(3, .int y72_3), (2, .int z6), (1, .int (gi 70 1400)), (0, .ref 69)] [] (sh, gi72, gl72, gr72) (t_PI wl_m_aPort sh gi gl gr 0 1 (Q_m_aPort gi gl gr)) := by
                intro m72
                induction m72 using Nat.strongRecOn with
                | _ m72 ih72 =>
                intro gi72 gl72 gr72 y72_3 hI hX l72_3 u72_3 c72_0 c72_1 c72_2 c72_3 hm72
                refine ev_loc f_X12_aPort (nx := 133) rfl rfl rfl rfl ?_
                refine ev_loc f_X12_aPort (nx := 134) rfl rfl rfl rfl ?_
                refine ev_if f_X12_aPort (t1 := 206) (t2 := 137) rfl rfl rfl (fun h73 => ?_) (fun h73 => ?_)
                · have r74 : z6.toInt ≤ y72_3.toInt := Int32.le_iff_toInt_le.mp h73
                  refine ev_loc f_X12_aPort (nx := 207) rfl rfl rfl rfl ?_
                  refine ev_qN f_X12_aPort (nx := 210) (r := []) rfl rfl rfl rfl rfl rfl rfl (c_m_ahead hI ) rfl hX rfl (fun gi75 gl75 gr75 hI hX hC75 q75 => ?_)
                  have ff76 : (gi72 69 14).toInt = (gi35 69 14).toInt := congrArg Int32.toInt c72_2
                  have q75 : (gi72 69 14).toInt ≤ (gi75 69 14).toInt ∧ ((gi75 69 12).toInt ≠ 0 → (gi72 69 14).toInt < (gi75 69 14).toInt) := q75
                  obtain ⟨l77, u77⟩ := hI.b (hI.wf.s (k := 69) rfl) (t_bdK rfl : t_bd 11 12 = some (0, 4))
                  obtain ⟨l78, u78⟩ := hI.b (hI.wf.s (k := 69) rfl) (t_bdK rfl : t_bd 11 13 = some (0, 900))
                  obtain ⟨l79, u79⟩ := hI.b (hI.wf.s (k := 69) rfl) (t_bdK rfl : t_bd 11 14 = some (0, 900))
                  refine ev_loc f_X12_aPort (nx := 211) rfl rfl rfl rfl ?_
                  refine ev_getR f_X12_aPort (nx := 214) rfl (hI.wf.s rfl) rfl rfl (hI.wf.r rfl) rfl rfl ?_
                  refine ev_sp f_X12_aPort (nx := 217) (v := 1400) rfl (by decide) rfl ?_
                  refine ev_alu f_X12_aPort (nx := 218) rfl rfl rfl rfl ?_
                  refine ev_ialdv f_X12_aPort (nx := 219) (w := (gi 70 1400)) rfl (hI.wf.s rfl) (by decide) (rfl : (1400 : Int32).toNatClampNeg = 1400) (by decide) ((hC75.1 70 1400 rfl).1.trans c72_3) rfl ?_
                  refine ev_ic f_X12_aPort (nx := 220) (v := 1) rfl (by decide) rfl ?_
                  refine ev_addC f_X12_aPort (nx := 221) (c := 1) (l := 1) (u := 6) rfl (by decide) l4 u26 rfl rfl (by decide) (by decide) rfl (fun z81 e81 l81 u81 => ?_)
                  refine ev_iastT f_X12_aPort (nx := 222) rfl (hI.wf.s rfl) (by decide : (1400:Int) ≤ (1400:Int32).toInt) (by decide) (by decide : (1400:Int32).toInt ≤ (1400:Int)) (by decide) rfl (hI.astL (hI.wf.s rfl) (by decide +kernel : t_abw 70 1400 1400 1 6 = true) (t_cl1 (by decide : (1400:Int) ≤ (1400:Int32).toInt) (by decide)) (t_cl2 (by decide : (1400:Int) ≤ (1400:Int32).toInt) (by decide : (1400:Int32).toInt ≤ (1400:Int)) (by decide) (by decide)) l81 u81 rfl) (hX.upI (t_inR (p := 1400) (m := 1400) rfl (by decide : (1400:Int) ≤ (1400:Int32).toInt) (by decide) (by decide : (1400:Int32).toInt ≤ (1400:Int)) (by decide) (by decide))) (fun g82 e82 hI hX => ?_)
                  refine ev_ic f_X12_aPort (nx := 223) (v := 1) rfl (by decide) rfl ?_
                  exact ev_ret f_X12_aPort rfl rfl rfl ⟨_, _, _, rfl, hI, hX, ⟨_, rfl, (Int.le_trans (by decide : (0:Int) ≤ 1) (by decide : (1:Int) ≤ (1:Int32).toInt)), (by decide : (1:Int32).toInt ≤ (1:Int)), (show (gi 69 14).toInt ≤ (g82 69 14).toInt ∧ (1 = 1 → (g82 69 12).toInt ≠ 0 → (gi 69 14).toInt < (g82 69 14).toInt) from (by have ff83 : (g82 69 14).toInt = (gi75 69 14).toInt := congrArg Int32.toInt ((by rw [e82]; exact x_up2_off (Or.inl (by decide)) : g82 69 14 = gi75 69 14).trans rfl); have ff84 : (g82 69 12).toInt = (gi75 69 12).toInt := congrArg Int32.toInt ((by rw [e82]; exact x_up2_off (Or.inl (by decide)) : g82 69 12 = gi75 69 12).trans rfl); omega))⟩⟩
                · have r85 : y72_3.toInt < z6.toInt := Int32.lt_iff_toInt_lt.mp (t_nle h73)
                  have u86 : y72_3.toInt ≤ 1451 := t_ltu (t_nle h73) u6 rfl
                  have l87 : 1411 ≤ z6.toInt := t_ltl (t_nle h73) l72_3 rfl
                  refine ev_ic f_X12_aPort (nx := 138) (v := 1) rfl (by decide) rfl ?_
                  refine ev_loc f_X12_aPort (nx := 140) (lo' := [(4, .int 1), (3, .int y72_3), (2, .int z6), (1, .int (gi 70 1400)), (0, .ref 69)]) rfl rfl rfl rfl ?_
                  refine ev_ic f_X12_aPort (nx := 141) (v := 0) rfl (by decide) rfl ?_
                  refine ev_loc f_X12_aPort (nx := 143) (lo' := [(5, .int 0), (4, .int 1), (3, .int y72_3), (2, .int z6), (1, .int (gi 70 1400)), (0, .ref 69)]) rfl rfl rfl rfl ?_
                  have L88 : ∀ (m88 : Nat) (gi88 : Nat → Nat → Int32) (gl88 : Nat → Nat → Int64) (gr88 : Nat → Nat → Value) (y88_5 : Int32) (y88_4 : Int32), t_I sh gi88 gr88 → t_X wl_m_aPort sh gi gl gr gi88 gl88 gr88 → 0 ≤ y88_5.toInt → y88_5.toInt ≤ 7 → 0 ≤ y88_4.toInt → y88_4.toInt ≤ 1 → gi88 69 12 = (gi35 69 12) → gi88 69 13 = (gi35 69 13) → gi88 69 14 = (gi35 69 14) → gi88 70 1400 = (gi 70 1400) → (7 - y88_5.toInt).toNat = m88 → x_Ev X (d + 8) n_X12_aPort 143 [(5, .int y88_5), (4, .int y88_4), (3, .int y72_3), (2, .int z6), (1, .int (gi 70 1400)), (0, .ref 69)] [] (sh, gi88, gl88, gr88) (t_PI wl_m_aPort sh gi gl gr 0 1 (Q_m_aPort gi gl gr)) := by
                    intro m88
                    induction m88 using Nat.strongRecOn with
                    | _ m88 ih88 =>
                    intro gi88 gl88 gr88 y88_5 y88_4 hI hX l88_5 u88_5 l88_4 u88_4 c88_0 c88_1 c88_2 c88_3 hm88
                    refine ev_loc f_X12_aPort (nx := 145) rfl rfl rfl rfl ?_
                    refine ev_bp f_X12_aPort (nx := 147) (v := 7) rfl (by decide) rfl ?_
                    refine ev_if f_X12_aPort (t1 := 189) (t2 := 150) rfl rfl rfl (fun h89 => ?_) (fun h89 => ?_)
                    · have l90 : 7 ≤ y88_5.toInt := t_lel h89 (by decide : (7:Int) ≤ (7:Int32).toInt)
                      refine ev_loc f_X12_aPort (nx := 191) rfl rfl rfl rfl ?_
                      refine ev_if f_X12_aPort (t1 := 200) (t2 := 194) rfl rfl rfl (fun h91 => ?_) (fun h91 => ?_)
                      · have u92 : y88_4.toInt ≤ 0 := t_equ h91 (by decide : (0:Int32).toInt ≤ (0:Int))
                        refine ev_incR f_X12_aPort (nx := 203) (c := 7) (l := 1417) (u := 1458) rfl rfl (by decide) (by decide) l72_3 u86 rfl rfl (by decide) (by decide) rfl (fun z93 e93 l93 u93 => ?_)
                        refine ev_jmp f_X12_aPort (nx := 132) rfl rfl rfl ?_
                        refine ev_sub (lo := [(3, .int z93), (2, .int z6), (1, .int (gi 70 1400)), (0, .ref 69)]) rfl (t_sc rfl (t_sc rfl (t_sc rfl (t_sc rfl t_sn)))) ?_
                        exact ih72 _ (by omega) gi88 gl88 gr88 (z93) hI hX  (Int.le_trans (by decide : (1410:Int) ≤ 1417) l93) (Int.le_trans u93 (by decide : (1458:Int) ≤ 1000000000)) c88_0 c88_1 c88_2 c88_3 rfl
                      · have r94 : y88_4.toInt ≠ 0 := fun e => h91 (Int32.toInt_inj.mp (e.trans (by decide : (0:Int) = (0 : Int32).toInt)))
                        have l95 : 1 ≤ y88_4.toInt := t_nel h91 l88_4 rfl rfl
                        refine ev_loc f_X12_aPort (nx := 195) rfl rfl rfl rfl ?_
                        refine ev_ic f_X12_aPort (nx := 196) (v := 5) rfl (by decide) rfl ?_
                        refine ev_inV2 f_X12_aPort (nx := 199) (lo2 := [(0, .ref 69), (1, .int 5)]) rfl rfl rfl rfl f_X12_fails (hI.wf.s rfl) rfl rfl rfl rfl rfl ?_
                        refine ev_loc f_X12_fails (nx := 1) rfl rfl rfl rfl ?_
                        refine ev_getI f_X12_fails (nx := 4) rfl (hI.wf.s rfl) rfl rfl rfl ?_
                        refine ev_if f_X12_fails (t1 := 7) (t2 := 32) rfl rfl rfl (fun h96 => ?_) (fun h96 => ?_)
                        · have u97 : (gi88 69 18).toInt ≤ 0 := t_equ h96 (by decide : (0:Int32).toInt ≤ (0:Int))
                          have l98 : 0 ≤ (gi88 69 18).toInt := t_eql h96 (by decide : (0:Int) ≤ (0:Int32).toInt)
                          refine ev_loc f_X12_fails (nx := 8) rfl rfl rfl rfl ?_
                          refine ev_loc f_X12_fails (nx := 9) rfl rfl rfl rfl ?_
                          refine ev_gvI f_X12_fails (nx := 12) (w := (gi35 69 12)) rfl (hI.wf.s rfl) rfl rfl c88_0 rfl ?_
                          refine ev_ic f_X12_fails (nx := 13) (v := 1) rfl (by decide) rfl ?_
                          refine ev_if f_X12_fails (t1 := 16) (t2 := 20) rfl rfl rfl (fun h99 => ?_) (fun h99 => ?_)
                          · have u100 : (gi35 69 12).toInt ≤ 1 := t_equ h99 (by decide : (1:Int32).toInt ≤ (1:Int))
                            have l101 : 1 ≤ (gi35 69 12).toInt := t_eql h99 (by decide : (1:Int) ≤ (1:Int32).toInt)
                            refine ev_ic f_X12_fails (nx := 17) (v := 1) rfl (by decide) rfl ?_
                            refine ev_jmp f_X12_fails (nx := 21) rfl rfl rfl ?_
                            refine ev_putIT f_X12_fails (nx := 24) rfl (hI.wf.s rfl) rfl rfl rfl (hI.put0 (hI.wf.s rfl) rfl rfl) (hX.upI rfl) (fun g102 e102 hI hX => ?_)
                            refine ev_loc f_X12_fails (nx := 25) rfl rfl rfl rfl ?_
                            refine ev_loc f_X12_fails (nx := 26) rfl rfl rfl rfl ?_
                            refine ev_gvI f_X12_fails (nx := 29) (w := (gi35 69 13)) rfl (hI.wf.s rfl) rfl rfl ((by rw [e102]; exact x_up2_off (Or.inr (by decide)) : g102 69 13 = gi88 69 13).trans c88_1) rfl ?_
                            refine ev_putIT f_X12_fails (nx := 32) rfl (hI.wf.s rfl) rfl rfl rfl (hI.put0 (hI.wf.s rfl) rfl rfl) (hX.upI rfl) (fun g103 e103 hI hX => ?_)
                            refine ev_ic f_X12_fails (nx := 33) (v := 0) rfl (by decide) rfl ?_
                            refine ev_retK1 f_X12_fails rfl rfl rfl ?_
                            exact ev_ret f_X12_aPort rfl rfl rfl ⟨_, _, _, rfl, hI, hX, ⟨_, rfl, (by decide : (0:Int) ≤ (0:Int32).toInt), (Int.le_trans (by decide : (0:Int32).toInt ≤ (0:Int)) (by decide : (0:Int) ≤ 1)), (show (gi 69 14).toInt ≤ (g103 69 14).toInt ∧ (0 = 1 → (g103 69 12).toInt ≠ 0 → (gi 69 14).toInt < (g103 69 14).toInt) from (by have ff104 : (g103 69 14).toInt = (gi35 69 14).toInt := congrArg Int32.toInt ((by rw [e103]; exact x_up2_off (Or.inr (by decide)) : g103 69 14 = g102 69 14).trans ((by rw [e102]; exact x_up2_off (Or.inr (by decide)) : g102 69 14 = gi88 69 14).trans c88_2)); have ff105 : (g103 69 12).toInt = (gi35 69 12).toInt := congrArg Int32.toInt ((by rw [e103]; exact x_up2_off (Or.inr (by decide)) : g103 69 12 = g102 69 12).trans ((by rw [e102]; exact x_up2_off (Or.inr (by decide)) : g102 69 12 = gi88 69 12).trans c88_0)); omega))⟩⟩
                          · have r106 : (gi35 69 12).toInt ≠ 1 := fun e => h99 (Int32.toInt_inj.mp (e.trans (by decide : (1:Int) = (1 : Int32).toInt)))
                            refine ev_loc f_X12_fails (nx := 21) rfl rfl rfl rfl ?_
                            refine ev_putIT f_X12_fails (nx := 24) rfl (hI.wf.s rfl) rfl rfl rfl (hI.put0 (hI.wf.s rfl) rfl rfl) (hX.upI rfl) (fun g107 e107 hI hX => ?_)
                            refine ev_loc f_X12_fails (nx := 25) rfl rfl rfl rfl ?_
                            refine ev_loc f_X12_fails (nx := 26) rfl rfl rfl rfl ?_
                            refine ev_gvI f_X12_fails (nx := 29) (w := (gi35 69 13)) rfl (hI.wf.s rfl) rfl rfl ((by rw [e107]; exact x_up2_off (Or.inr (by decide)) : g107 69 13 = gi88 69 13).trans c88_1) rfl ?_
                            refine ev_putIT f_X12_fails (nx := 32) rfl (hI.wf.s rfl) rfl rfl rfl (hI.put0 (hI.wf.s rfl) rfl rfl) (hX.upI rfl) (fun g108 e108 hI hX => ?_)
                            refine ev_ic f_X12_fails (nx := 33) (v := 0) rfl (by decide) rfl ?_
                            refine ev_retK1 f_X12_fails rfl rfl rfl ?_
                            exact ev_ret f_X12_aPort rfl rfl rfl ⟨_, _, _, rfl, hI, hX, ⟨_, rfl, (by decide : (0:Int) ≤ (0:Int32).toInt), (Int.le_trans (by decide : (0:Int32).toInt ≤ (0:Int)) (by decide : (0:Int) ≤ 1)), (show (gi 69 14).toInt ≤ (g108 69 14).toInt ∧ (0 = 1 → (g108 69 12).toInt ≠ 0 → (gi 69 14).toInt < (g108 69 14).toInt) from (by have ff109 : (g108 69 14).toInt = (gi35 69 14).toInt := congrArg Int32.toInt ((by rw [e108]; exact x_up2_off (Or.inr (by decide)) : g108 69 14 = g107 69 14).trans ((by rw [e107]; exact x_up2_off (Or.inr (by decide)) : g107 69 14 = gi88 69 14).trans c88_2)); have ff110 : (g108 69 12).toInt = (gi35 69 12).toInt := congrArg Int32.toInt ((by rw [e108]; exact x_up2_off (Or.inr (by decide)) : g108 69 12 = g107 69 12).trans ((by rw [e107]; exact x_up2_off (Or.inr (by decide)) : g107 69 12 = gi88 69 12).trans c88_0)); omega))⟩⟩
                        · have r111 : (gi88 69 18).toInt ≠ 0 := fun e => h96 (Int32.toInt_inj.mp (e.trans (by decide : (0:Int) = (0 : Int32).toInt)))
                          refine ev_ic f_X12_fails (nx := 33) (v := 0) rfl (by decide) rfl ?_
                          refine ev_retK1 f_X12_fails rfl rfl rfl ?_
                          exact ev_ret f_X12_aPort rfl rfl rfl ⟨_, _, _, rfl, hI, hX, ⟨_, rfl, (by decide : (0:Int) ≤ (0:Int32).toInt), (Int.le_trans (by decide : (0:Int32).toInt ≤ (0:Int)) (by decide : (0:Int) ≤ 1)), (show (gi 69 14).toInt ≤ (gi88 69 14).toInt ∧ (0 = 1 → (gi88 69 12).toInt ≠ 0 → (gi 69 14).toInt < (gi88 69 14).toInt) from (by have ff112 : (gi88 69 14).toInt = (gi35 69 14).toInt := congrArg Int32.toInt c88_2; have ff113 : (gi88 69 12).toInt = (gi35 69 12).toInt := congrArg Int32.toInt c88_0; omega))⟩⟩
                    · have u114 : y88_5.toInt ≤ 6 := t_ltu (t_nle h89) (by decide : (7:Int32).toInt ≤ (7:Int)) rfl
                      refine ev_loc f_X12_aPort (nx := 152) rfl rfl rfl rfl ?_
                      refine ev_if f_X12_aPort (t1 := 180) (t2 := 155) rfl rfl rfl (fun h115 => ?_) (fun h115 => ?_)
                      · have u116 : y88_4.toInt ≤ 0 := t_equ h115 (by decide : (0:Int32).toInt ≤ (0:Int))
                        refine ev_ic f_X12_aPort (nx := 181) (v := 0) rfl (by decide) rfl ?_
                        refine ev_loc f_X12_aPort (nx := 183) (lo' := [(4, .int 0), (5, .int y88_5), (3, .int y72_3), (2, .int z6), (1, .int (gi 70 1400)), (0, .ref 69)]) rfl rfl rfl rfl ?_
                        refine ev_incR f_X12_aPort (nx := 186) (c := 1) (l := 1) (u := 7) rfl rfl (by decide) (by decide) l88_5 u114 rfl rfl (by decide) (by decide) rfl (fun z117 e117 l117 u117 => ?_)
                        refine ev_jmp f_X12_aPort (nx := 143) rfl rfl rfl ?_
                        refine ev_sub (lo := [(5, .int z117), (4, .int 0), (3, .int y72_3), (2, .int z6), (1, .int (gi 70 1400)), (0, .ref 69)]) rfl (t_sc rfl (t_sc rfl (t_sc rfl (t_sc rfl (t_sc rfl (t_sc rfl t_sn)))))) ?_
                        exact ih88 _ (by omega) gi88 gl88 gr88 (z117) (0) hI hX  (Int.le_trans (by decide : (0:Int) ≤ 1) l117) u117 (by decide : (0:Int) ≤ (0:Int32).toInt) (Int.le_trans (by decide : (0:Int32).toInt ≤ (0:Int)) (by decide : (0:Int) ≤ 1)) c88_0 c88_1 c88_2 c88_3 rfl
                      · have r118 : y88_4.toInt ≠ 0 := fun e => h115 (Int32.toInt_inj.mp (e.trans (by decide : (0:Int) = (0 : Int32).toInt)))
                        have l119 : 1 ≤ y88_4.toInt := t_nel h115 l88_4 rfl rfl
                        refine ev_loc f_X12_aPort (nx := 156) rfl rfl rfl rfl ?_
                        refine ev_getR f_X12_aPort (nx := 159) rfl (hI.wf.s rfl) rfl rfl (hI.wf.r rfl) rfl rfl ?_
                        refine ev_loc f_X12_aPort (nx := 160) rfl rfl rfl rfl ?_
                        refine ev_loc f_X12_aPort (nx := 162) rfl rfl rfl rfl ?_
                        refine ev_addR f_X12_aPort (nx := 163) (l := 1410) (u := 1457) rfl l72_3 u86 l88_5 u114 rfl rfl (by decide) (by decide) rfl (fun z120 e120 l120 u120 => ?_)
                        refine ev_ialdT f_X12_aPort (nx := 164) rfl (hI.wf.s rfl) l120 (by decide) u120 (by decide) rfl (fun w121 e121 => ?_)
                        obtain ⟨l121, u121⟩ := hI.abi e121 (by decide +kernel : t_abr 70 1410 1457 (-900) 255 = true) l120 (by decide) u120 (by decide)
                        refine ev_loc f_X12_aPort (nx := 165) rfl rfl rfl rfl ?_
                        refine ev_getR f_X12_aPort (nx := 168) rfl (hI.wf.s rfl) rfl rfl (hI.wf.r rfl) rfl rfl ?_
                        refine ev_loc f_X12_aPort (nx := 169) rfl rfl rfl rfl ?_
                        refine ev_loc f_X12_aPort (nx := 171) rfl rfl rfl rfl ?_
                        refine ev_addR f_X12_aPort (nx := 172) (l := 1411) (u := 1458) rfl l87 u6 l88_5 u114 rfl rfl (by decide) (by decide) rfl (fun z122 e122 l122 u122 => ?_)
                        refine ev_ialdT f_X12_aPort (nx := 173) rfl (hI.wf.s rfl) l122 (by decide) u122 (by decide) rfl (fun w123 e123 => ?_)
                        obtain ⟨l123, u123⟩ := hI.abi e123 (by decide +kernel : t_abr 70 1411 1458 (-900) 255 = true) l122 (by decide) u122 (by decide)
                        refine ev_if f_X12_aPort (t1 := 176) (t2 := 180) rfl rfl rfl (fun h124 => ?_) (fun h124 => ?_)
                        · have r125 : w121.toInt = w123.toInt := t_eqi h124
                          refine ev_ic f_X12_aPort (nx := 177) (v := 1) rfl (by decide) rfl ?_
                          refine ev_jmp f_X12_aPort (nx := 181) rfl rfl rfl ?_
                          refine ev_loc f_X12_aPort (nx := 183) (lo' := [(4, .int 1), (5, .int y88_5), (3, .int y72_3), (2, .int z6), (1, .int (gi 70 1400)), (0, .ref 69)]) rfl rfl rfl rfl ?_
                          refine ev_incR f_X12_aPort (nx := 186) (c := 1) (l := 1) (u := 7) rfl rfl (by decide) (by decide) l88_5 u114 rfl rfl (by decide) (by decide) rfl (fun z126 e126 l126 u126 => ?_)
                          refine ev_jmp f_X12_aPort (nx := 143) rfl rfl rfl ?_
                          refine ev_sub (lo := [(5, .int z126), (4, .int 1), (3, .int y72_3), (2, .int z6), (1, .int (gi 70 1400)), (0, .ref 69)]) rfl (t_sc rfl (t_sc rfl (t_sc rfl (t_sc rfl (t_sc rfl (t_sc rfl t_sn)))))) ?_
                          exact ih88 _ (by omega) gi88 gl88 gr88 (z126) (1) hI hX  (Int.le_trans (by decide : (0:Int) ≤ 1) l126) u126 (Int.le_trans (by decide : (0:Int) ≤ 1) (by decide : (1:Int) ≤ (1:Int32).toInt)) (by decide : (1:Int32).toInt ≤ (1:Int)) c88_0 c88_1 c88_2 c88_3 rfl
                        · have r127 : w121.toInt ≠ w123.toInt := t_nei h124
                          refine ev_ic f_X12_aPort (nx := 181) (v := 0) rfl (by decide) rfl ?_
                          refine ev_loc f_X12_aPort (nx := 183) (lo' := [(4, .int 0), (5, .int y88_5), (3, .int y72_3), (2, .int z6), (1, .int (gi 70 1400)), (0, .ref 69)]) rfl rfl rfl rfl ?_
                          refine ev_incR f_X12_aPort (nx := 186) (c := 1) (l := 1) (u := 7) rfl rfl (by decide) (by decide) l88_5 u114 rfl rfl (by decide) (by decide) rfl (fun z128 e128 l128 u128 => ?_)
                          refine ev_jmp f_X12_aPort (nx := 143) rfl rfl rfl ?_
                          refine ev_sub (lo := [(5, .int z128), (4, .int 0), (3, .int y72_3), (2, .int z6), (1, .int (gi 70 1400)), (0, .ref 69)]) rfl (t_sc rfl (t_sc rfl (t_sc rfl (t_sc rfl (t_sc rfl (t_sc rfl t_sn)))))) ?_
                          exact ih88 _ (by omega) gi88 gl88 gr88 (z128) (0) hI hX  (Int.le_trans (by decide : (0:Int) ≤ 1) l128) u128 (by decide : (0:Int) ≤ (0:Int32).toInt) (Int.le_trans (by decide : (0:Int32).toInt ≤ (0:Int)) (by decide : (0:Int) ≤ 1)) c88_0 c88_1 c88_2 c88_3 rfl
                  refine ev_sub (lo := [(5, .int 0), (4, .int 1), (3, .int y72_3), (2, .int z6), (1, .int (gi 70 1400)), (0, .ref 69)]) rfl (t_sc rfl (t_sc rfl (t_sc rfl (t_sc rfl (t_sc rfl (t_sc rfl t_sn)))))) ?_
                  exact L88 _ gi72 gl72 gr72 (0) (1) hI hX  (by decide : (0:Int) ≤ (0:Int32).toInt) (Int.le_trans (by decide : (0:Int32).toInt ≤ (0:Int)) (by decide : (0:Int) ≤ 7)) (Int.le_trans (by decide : (0:Int) ≤ 1) (by decide : (1:Int) ≤ (1:Int32).toInt)) (by decide : (1:Int32).toInt ≤ (1:Int)) c72_0 c72_1 c72_2 c72_3 rfl
              refine ev_sub (lo := [(3, .int 1410), (2, .int z6), (1, .int (gi 70 1400)), (0, .ref 69)]) rfl (t_sc rfl (t_sc rfl (t_sc rfl (t_sc rfl t_sn)))) ?_
              exact L72 _ gi69 gl69 gr69 (1410) hI hX  (by decide : (1410:Int) ≤ (1410:Int32).toInt) (Int.le_trans (by decide : (1410:Int32).toInt ≤ (1410:Int)) (by decide : (1410:Int) ≤ 1000000000)) c69_0 c69_1 c69_2 c69_3 rfl
            · have u129 : y69_3.toInt ≤ 5 := t_ltu (t_nle h70) (by decide : (6:Int32).toInt ≤ (6:Int)) rfl
              refine ev_loc f_X12_aPort (nx := 89) rfl rfl rfl rfl ?_
              refine ev_getR f_X12_aPort (nx := 92) rfl (hI.wf.s rfl) rfl rfl (hI.wf.r rfl) rfl rfl ?_
              refine ev_loc f_X12_aPort (nx := 93) rfl rfl rfl rfl ?_
              refine ev_ic f_X12_aPort (nx := 94) (v := 1) rfl (by decide) rfl ?_
              refine ev_addC f_X12_aPort (nx := 95) (c := 1) (l := 1411) (u := 1453) rfl (by decide) l6 u6 rfl rfl (by decide) (by decide) rfl (fun z130 e130 l130 u130 => ?_)
              refine ev_loc f_X12_aPort (nx := 96) rfl rfl rfl rfl ?_
              refine ev_addR f_X12_aPort (nx := 97) (l := 1411) (u := 1458) rfl l130 u130 l69_3 u129 rfl rfl (by decide) (by decide) rfl (fun z131 e131 l131 u131 => ?_)
              refine ev_loc f_X12_aPort (nx := 98) rfl rfl rfl rfl ?_
              refine ev_loc f_X12_aPort (nx := 99) rfl rfl rfl rfl ?_
              refine ev_getR f_X12_aPort (nx := 102) rfl (hI.wf.s rfl) rfl rfl (hI.wf.r rfl) rfl rfl ?_
              refine ev_loc f_X12_aPort (nx := 103) rfl rfl rfl rfl ?_
              refine ev_ialdT f_X12_aPort (nx := 104) rfl (hI.wf.s rfl) l6 (by decide) u6 (by decide) rfl (fun w132 e132 => ?_)
              obtain ⟨l132, u132⟩ := hI.abA (x := (gi 70 1400)) e132 (by decide +kernel : t_aba 70 1410 7 0 5 (-900) 6 = true) (by omega) (by omega) (by omega)
              refine ev_if f_X12_aPort (t1 := 120) (t2 := 107) rfl rfl rfl (fun h133 => ?_) (fun h133 => ?_)
              · have r134 : w132.toInt ≤ y69_3.toInt := Int32.le_iff_toInt_le.mp h133
                have u135 : w132.toInt ≤ 5 := t_leu h133 u129
                refine ev_ic f_X12_aPort (nx := 121) (v := 0) rfl (by decide) rfl ?_
                refine ev_iastT f_X12_aPort (nx := 122) rfl (hI.wf.s rfl) l131 (by decide) u131 (by decide) rfl (hI.astB (x := (gi 70 1400)) (y := y69_3) (hI.wf.s rfl) (by decide +kernel : t_abwb 70 1411 7 5 5 0 0 = true) (by omega) (by omega) (by omega) (by omega) (by omega) (by decide : (0:Int) ≤ (0:Int32).toInt) (by decide : (0:Int32).toInt ≤ (0:Int)) rfl) (hX.upI (t_inR (p := 1411) (m := 1458) rfl l131 (by decide) u131 (by decide) (by decide))) (fun g136 e136 hI hX => ?_)
                refine ev_incR f_X12_aPort (nx := 125) (c := 1) (l := 1) (u := 6) rfl rfl (by decide) (by decide) l69_3 u129 rfl rfl (by decide) (by decide) rfl (fun z137 e137 l137 u137 => ?_)
                refine ev_jmp f_X12_aPort (nx := 82) rfl rfl rfl ?_
                refine ev_sub (lo := [(3, .int z137), (2, .int z6), (1, .int (gi 70 1400)), (0, .ref 69)]) rfl (t_sc rfl (t_sc rfl (t_sc rfl (t_sc rfl t_sn)))) ?_
                exact ih69 _ (by omega) g136 gl69 gr69 (z137) hI hX  (Int.le_trans (by decide : (0:Int) ≤ 1) l137) u137 ((by rw [e136]; exact x_up2_off (Or.inl (by decide)) : g136 69 12 = gi69 69 12).trans c69_0) ((by rw [e136]; exact x_up2_off (Or.inl (by decide)) : g136 69 13 = gi69 69 13).trans c69_1) ((by rw [e136]; exact x_up2_off (Or.inl (by decide)) : g136 69 14 = gi69 69 14).trans c69_2) ((by rw [e136]; exact x_up2_off (Or.inr (t_neCl l131 (by decide))) : g136 70 1400 = gi69 70 1400).trans c69_3) rfl
              · have r138 : y69_3.toInt < w132.toInt := Int32.lt_iff_toInt_lt.mp (t_nle h133)
                have l139 : 1 ≤ w132.toInt := t_ltl (t_nle h133) l69_3 rfl
                refine ev_loc f_X12_aPort (nx := 108) rfl rfl rfl rfl ?_
                refine ev_loc f_X12_aPort (nx := 109) rfl rfl rfl rfl ?_
                refine ev_gvI f_X12_aPort (nx := 112) (w := (gi35 69 13)) rfl (hI.wf.s rfl) rfl rfl c69_1 rfl ?_
                refine ev_loc f_X12_aPort (nx := 113) rfl rfl rfl rfl ?_
                refine ev_addR f_X12_aPort (nx := 114) (l := 0) (u := 905) rfl l37 u37 l69_3 u129 rfl rfl (by decide) (by decide) rfl (fun z140 e140 l140 u140 => ?_)
                refine ev_inV2 f_X12_aPort (nx := 117) (lo2 := [(0, .ref 69), (1, .int z140)]) rfl rfl rfl rfl f_X12_byteAt (hI.wf.s rfl) rfl rfl rfl rfl rfl ?_
                refine ev_loc f_X12_byteAt (nx := 1) rfl rfl rfl rfl ?_
                refine ev_loc f_X12_byteAt (nx := 2) rfl rfl rfl rfl ?_
                refine ev_getI f_X12_byteAt (nx := 5) rfl (hI.wf.s rfl) rfl rfl rfl ?_
                obtain ⟨l141, u141⟩ := hI.b (hI.wf.s (k := 69) rfl) (t_bdK rfl : t_bd 11 11 = some (0, 900))
                refine ev_if f_X12_byteAt (t1 := 21) (t2 := 8) rfl rfl rfl (fun h142 => ?_) (fun h142 => ?_)
                · have r143 : (gi69 69 11).toInt ≤ z140.toInt := Int32.le_iff_toInt_le.mp h142
                  refine ev_ic f_X12_byteAt (nx := 22) (v := -1) rfl (by decide) rfl ?_
                  refine ev_retK1 f_X12_byteAt rfl rfl rfl ?_
                  refine ev_jmp f_X12_aPort (nx := 121) rfl rfl rfl ?_
                  refine ev_iastT f_X12_aPort (nx := 122) rfl (hI.wf.s rfl) l131 (by decide) u131 (by decide) rfl (hI.astB (x := (gi 70 1400)) (y := y69_3) (hI.wf.s rfl) (by decide +kernel : t_abwb 70 1411 7 5 5 (-1) (-1) = true) (by omega) (by omega) (by omega) (by omega) (by omega) (by decide : ((-1):Int) ≤ ((-1):Int32).toInt) (by decide : ((-1):Int32).toInt ≤ ((-1):Int)) rfl) (hX.upI (t_inR (p := 1411) (m := 1458) rfl l131 (by decide) u131 (by decide) (by decide))) (fun g144 e144 hI hX => ?_)
                  refine ev_incR f_X12_aPort (nx := 125) (c := 1) (l := 1) (u := 6) rfl rfl (by decide) (by decide) l69_3 u129 rfl rfl (by decide) (by decide) rfl (fun z145 e145 l145 u145 => ?_)
                  refine ev_jmp f_X12_aPort (nx := 82) rfl rfl rfl ?_
                  refine ev_sub (lo := [(3, .int z145), (2, .int z6), (1, .int (gi 70 1400)), (0, .ref 69)]) rfl (t_sc rfl (t_sc rfl (t_sc rfl (t_sc rfl t_sn)))) ?_
                  exact ih69 _ (by omega) g144 gl69 gr69 (z145) hI hX  (Int.le_trans (by decide : (0:Int) ≤ 1) l145) u145 ((by rw [e144]; exact x_up2_off (Or.inl (by decide)) : g144 69 12 = gi69 69 12).trans c69_0) ((by rw [e144]; exact x_up2_off (Or.inl (by decide)) : g144 69 13 = gi69 69 13).trans c69_1) ((by rw [e144]; exact x_up2_off (Or.inl (by decide)) : g144 69 14 = gi69 69 14).trans c69_2) ((by rw [e144]; exact x_up2_off (Or.inr (t_neCl l131 (by decide))) : g144 70 1400 = gi69 70 1400).trans c69_3) rfl
                · have r146 : z140.toInt < (gi69 69 11).toInt := Int32.lt_iff_toInt_lt.mp (t_nle h142)
                  have u147 : z140.toInt ≤ 899 := t_ltu (t_nle h142) u141 rfl
                  have l148 : 1 ≤ (gi69 69 11).toInt := t_ltl (t_nle h142) l140 rfl
                  refine ev_loc f_X12_byteAt (nx := 9) rfl rfl rfl rfl ?_
                  refine ev_getR f_X12_byteAt (nx := 12) rfl (hI.wf.s rfl) rfl rfl (hI.wf.r rfl) rfl rfl ?_
                  refine ev_loc f_X12_byteAt (nx := 13) rfl rfl rfl rfl ?_
                  refine ev_baldT f_X12_byteAt (nx := 14) rfl (hI.wf.s rfl) rfl l140 (by decide) u147 (by decide) rfl (fun w149 e149 => ?_)
                  refine ev_sp f_X12_byteAt (nx := 17) (v := 255) rfl (by decide) rfl ?_
                  refine ev_andE f_X12_byteAt (nx := 18) (c := 255) rfl (by decide) (by decide) rfl (fun z150 e150 l150 u150 => ?_)
                  refine ev_jmp f_X12_byteAt (nx := 22) rfl rfl rfl ?_
                  refine ev_retK1 f_X12_byteAt rfl rfl rfl ?_
                  refine ev_jmp f_X12_aPort (nx := 121) rfl rfl rfl ?_
                  refine ev_iastT f_X12_aPort (nx := 122) rfl (hI.wf.s rfl) l131 (by decide) u131 (by decide) rfl (hI.astB (x := (gi 70 1400)) (y := y69_3) (hI.wf.s rfl) (by decide +kernel : t_abwb 70 1411 7 5 5 0 255 = true) (by omega) (by omega) (by omega) (by omega) (by omega) l150 u150 rfl) (hX.upI (t_inR (p := 1411) (m := 1458) rfl l131 (by decide) u131 (by decide) (by decide))) (fun g151 e151 hI hX => ?_)
                  refine ev_incR f_X12_aPort (nx := 125) (c := 1) (l := 1) (u := 6) rfl rfl (by decide) (by decide) l69_3 u129 rfl rfl (by decide) (by decide) rfl (fun z152 e152 l152 u152 => ?_)
                  refine ev_jmp f_X12_aPort (nx := 82) rfl rfl rfl ?_
                  refine ev_sub (lo := [(3, .int z152), (2, .int z6), (1, .int (gi 70 1400)), (0, .ref 69)]) rfl (t_sc rfl (t_sc rfl (t_sc rfl (t_sc rfl t_sn)))) ?_
                  exact ih69 _ (by omega) g151 gl69 gr69 (z152) hI hX  (Int.le_trans (by decide : (0:Int) ≤ 1) l152) u152 ((by rw [e151]; exact x_up2_off (Or.inl (by decide)) : g151 69 12 = gi69 69 12).trans c69_0) ((by rw [e151]; exact x_up2_off (Or.inl (by decide)) : g151 69 13 = gi69 69 13).trans c69_1) ((by rw [e151]; exact x_up2_off (Or.inl (by decide)) : g151 69 14 = gi69 69 14).trans c69_2) ((by rw [e151]; exact x_up2_off (Or.inr (t_neCl l131 (by decide))) : g151 70 1400 = gi69 70 1400).trans c69_3) rfl
          refine ev_sub (lo := [(3, .int 0), (2, .int z6), (1, .int (gi 70 1400)), (0, .ref 69)]) rfl (t_sc rfl (t_sc rfl (t_sc rfl (t_sc rfl t_sn)))) ?_
          exact L69 _ g67 gl43 gr43 (0) hI hX  (by decide : (0:Int) ≤ (0:Int32).toInt) (Int.le_trans (by decide : (0:Int32).toInt ≤ (0:Int)) (by decide : (0:Int) ≤ 6)) ((by rw [e67]; exact x_up2_off (Or.inl (by decide)) : g67 69 12 = gi43 69 12).trans ((hC43.1 69 12 rfl).1.trans rfl)) ((by rw [e67]; exact x_up2_off (Or.inl (by decide)) : g67 69 13 = gi43 69 13).trans ((hC43.1 69 13 rfl).1.trans rfl)) ((by rw [e67]; exact x_up2_off (Or.inl (by decide)) : g67 69 14 = gi43 69 14).trans ((hC43.1 69 14 rfl).1.trans rfl)) ((by rw [e67]; exact x_up2_off (Or.inr (t_neCl l6 (by decide))) : g67 70 1400 = gi43 70 1400).trans ((hC43.1 70 1400 rfl).1.trans ((hC35.1 70 1400 rfl).1.trans ((hC27.1 70 1400 rfl).1.trans rfl)))) rfl
noncomputable def wl_m_aShip : List (Nat × Nat) := [(69, 12), (69, 13), (69, 14), (69, 15), (69, 17), (69, 18), (70, 140111401), (70, 145211482), (70, 145311483), (70, 145411484), (70, 145511485), (70, 145611486), (71, 7210089)]
noncomputable def Q_m_aShip (gi : Nat → Nat → Int32) (gl : Nat → Nat → Int64) (gr : Nat → Nat → Value) : Int32 → (Nat → Nat → Int32) → (Nat → Nat → Int64) → (Nat → Nat → Value) → Prop := fun (v : Int32) (gi2 : Nat → Nat → Int32) (gl2 : Nat → Nat → Int64) (gr2 : Nat → Nat → Value) => (gi 69 14).toInt ≤ (gi2 69 14).toInt ∧ (v.toInt = 1 → (gi2 69 12).toInt ≠ 0 → (gi 69 14).toInt < (gi2 69 14).toInt)
theorem c_m_aShip {X : x_Ext} {d : Nat} {sh : List (Nat ⊕ (Nat × Nat))} {gi : Nat → Nat → Int32} {gl : Nat → Nat → Int64} {gr : Nat → Nat → Value} (hI : t_I sh gi gr) : x_Me X (d + 8) n_X12_aShip [.ref 69] (sh, gi, gl, gr) (t_PI wl_m_aShip sh gi gl gr 0 1 (Q_m_aShip gi gl gr)) := by
  have hX : t_X wl_m_aShip sh gi gl gr gi gl gr := t_X.rf
  refine me_i f_X12_aShip (hI.wf.s rfl) rfl rfl rfl ?_
  obtain ⟨l1, u1⟩ := hI.b (hI.wf.s (k := 69) rfl) (t_bdK rfl : t_bd 11 12 = some (0, 4))
  obtain ⟨l2, u2⟩ := hI.b (hI.wf.s (k := 69) rfl) (t_bdK rfl : t_bd 11 14 = some (0, 900))
  refine ev_sp f_X12_aShip (nx := 3) (v := 1452) rfl (by decide) rfl ?_
  refine ev_ic f_X12_aShip (nx := 4) (v := 5) rfl (by decide) rfl ?_
  refine ev_loc f_X12_aShip (nx := 5) rfl rfl rfl rfl ?_
  refine ev_getR f_X12_aShip (nx := 8) rfl (hI.wf.s rfl) rfl rfl (hI.wf.r rfl) rfl rfl ?_
  refine ev_sp f_X12_aShip (nx := 11) (v := 1401) rfl (by decide) rfl ?_
  obtain ⟨l3, u3⟩ := hI.ab (by decide +kernel : t_abr 70 1401 1401 0 6 = true) (Nat.le_refl _) (Nat.le_refl _)
  refine ev_ialdv f_X12_aShip (nx := 12) (w := (gi 70 1401)) rfl (hI.wf.s rfl) (by decide) (rfl : (1401 : Int32).toNatClampNeg = 1401) (by decide) rfl rfl ?_
  refine ev_mulL f_X12_aShip (nx := 13) (c := 5) (l := 0) (u := 30) rfl (by decide) (by decide) l3 u3 rfl rfl (by decide) (by decide) rfl (fun z4 e4 l4 u4 => ?_)
  refine ev_addK f_X12_aShip (nx := 14) (c := 1452) (l := 1452) (u := 1482) rfl (by decide) l4 u4 rfl rfl (by decide) (by decide) rfl (fun z5 e5 l5 u5 => ?_)
  refine ev_loc f_X12_aShip (nx := 15) (lo' := [(1, .int z5), (0, .ref 69)]) rfl rfl rfl rfl ?_
  refine ev_loc f_X12_aShip (nx := 16) rfl rfl rfl rfl ?_
  refine ev_getR f_X12_aShip (nx := 19) rfl (hI.wf.s rfl) rfl rfl (hI.wf.r rfl) rfl rfl ?_
  refine ev_sp f_X12_aShip (nx := 22) (v := 1401) rfl (by decide) rfl ?_
  refine ev_ialdv f_X12_aShip (nx := 23) (w := (gi 70 1401)) rfl (hI.wf.s rfl) (by decide) (rfl : (1401 : Int32).toNatClampNeg = 1401) (by decide) rfl rfl ?_
  refine ev_bp f_X12_aShip (nx := 25) (v := 6) rfl (by decide) rfl ?_
  refine ev_if f_X12_aShip (t1 := 28) (t2 := 35) rfl rfl rfl (fun h7 => ?_) (fun h7 => ?_)
  · have l8 : 6 ≤ (gi 70 1401).toInt := t_eql h7 (by decide : (6:Int) ≤ (6:Int32).toInt)
    refine ev_loc f_X12_aShip (nx := 29) rfl rfl rfl rfl ?_
    refine ev_bp f_X12_aShip (nx := 31) (v := 6) rfl (by decide) rfl ?_
    refine ev_inV2 f_X12_aShip (nx := 34) (lo2 := [(0, .ref 69), (1, .int 6)]) rfl rfl rfl rfl f_X12_fails (hI.wf.s rfl) rfl rfl rfl rfl rfl ?_
    refine ev_loc f_X12_fails (nx := 1) rfl rfl rfl rfl ?_
    refine ev_getI f_X12_fails (nx := 4) rfl (hI.wf.s rfl) rfl rfl rfl ?_
    refine ev_if f_X12_fails (t1 := 7) (t2 := 32) rfl rfl rfl (fun h9 => ?_) (fun h9 => ?_)
    · have u10 : (gi 69 18).toInt ≤ 0 := t_equ h9 (by decide : (0:Int32).toInt ≤ (0:Int))
      have l11 : 0 ≤ (gi 69 18).toInt := t_eql h9 (by decide : (0:Int) ≤ (0:Int32).toInt)
      refine ev_loc f_X12_fails (nx := 8) rfl rfl rfl rfl ?_
      refine ev_loc f_X12_fails (nx := 9) rfl rfl rfl rfl ?_
      refine ev_gvI f_X12_fails (nx := 12) (w := (gi 69 12)) rfl (hI.wf.s rfl) rfl rfl rfl rfl ?_
      refine ev_ic f_X12_fails (nx := 13) (v := 1) rfl (by decide) rfl ?_
      refine ev_if f_X12_fails (t1 := 16) (t2 := 20) rfl rfl rfl (fun h12 => ?_) (fun h12 => ?_)
      · have u13 : (gi 69 12).toInt ≤ 1 := t_equ h12 (by decide : (1:Int32).toInt ≤ (1:Int))
        have l14 : 1 ≤ (gi 69 12).toInt := t_eql h12 (by decide : (1:Int) ≤ (1:Int32).toInt)
        refine ev_ic f_X12_fails (nx := 17) (v := 1) rfl (by decide) rfl ?_
        refine ev_jmp f_X12_fails (nx := 21) rfl rfl rfl ?_
        refine ev_putIT f_X12_fails (nx := 24) rfl (hI.wf.s rfl) rfl rfl rfl (hI.put0 (hI.wf.s rfl) rfl rfl) (hX.upI rfl) (fun g15 e15 hI hX => ?_)
        refine ev_loc f_X12_fails (nx := 25) rfl rfl rfl rfl ?_
        refine ev_loc f_X12_fails (nx := 26) rfl rfl rfl rfl ?_
        refine ev_getI f_X12_fails (nx := 29) rfl (hI.wf.s rfl) rfl rfl rfl ?_
        obtain ⟨l16, u16⟩ := hI.b (hI.wf.s (k := 69) rfl) (t_bdK rfl : t_bd 11 13 = some (0, 900))
        refine ev_putIT f_X12_fails (nx := 32) rfl (hI.wf.s rfl) rfl rfl rfl (hI.put0 (hI.wf.s rfl) rfl rfl) (hX.upI rfl) (fun g17 e17 hI hX => ?_)
        refine ev_ic f_X12_fails (nx := 33) (v := 0) rfl (by decide) rfl ?_
        refine ev_retK1 f_X12_fails rfl rfl rfl ?_
        exact ev_ret f_X12_aShip rfl rfl rfl ⟨_, _, _, rfl, hI, hX, ⟨_, rfl, (by decide : (0:Int) ≤ (0:Int32).toInt), (Int.le_trans (by decide : (0:Int32).toInt ≤ (0:Int)) (by decide : (0:Int) ≤ 1)), (show (gi 69 14).toInt ≤ (g17 69 14).toInt ∧ (0 = 1 → (g17 69 12).toInt ≠ 0 → (gi 69 14).toInt < (g17 69 14).toInt) from (by have ff18 : (g17 69 14).toInt = (gi 69 14).toInt := congrArg Int32.toInt ((by rw [e17]; exact x_up2_off (Or.inr (by decide)) : g17 69 14 = g15 69 14).trans ((by rw [e15]; exact x_up2_off (Or.inr (by decide)) : g15 69 14 = gi 69 14).trans rfl)); have ff19 : (g17 69 12).toInt = (gi 69 12).toInt := congrArg Int32.toInt ((by rw [e17]; exact x_up2_off (Or.inr (by decide)) : g17 69 12 = g15 69 12).trans ((by rw [e15]; exact x_up2_off (Or.inr (by decide)) : g15 69 12 = gi 69 12).trans rfl)); omega))⟩⟩
      · have r20 : (gi 69 12).toInt ≠ 1 := fun e => h12 (Int32.toInt_inj.mp (e.trans (by decide : (1:Int) = (1 : Int32).toInt)))
        refine ev_loc f_X12_fails (nx := 21) rfl rfl rfl rfl ?_
        refine ev_putIT f_X12_fails (nx := 24) rfl (hI.wf.s rfl) rfl rfl rfl (hI.put0 (hI.wf.s rfl) rfl rfl) (hX.upI rfl) (fun g21 e21 hI hX => ?_)
        refine ev_loc f_X12_fails (nx := 25) rfl rfl rfl rfl ?_
        refine ev_loc f_X12_fails (nx := 26) rfl rfl rfl rfl ?_
        refine ev_getI f_X12_fails (nx := 29) rfl (hI.wf.s rfl) rfl rfl rfl ?_
        obtain ⟨l22, u22⟩ := hI.b (hI.wf.s (k := 69) rfl) (t_bdK rfl : t_bd 11 13 = some (0, 900))
        refine ev_putIT f_X12_fails (nx := 32) rfl (hI.wf.s rfl) rfl rfl rfl (hI.put0 (hI.wf.s rfl) rfl rfl) (hX.upI rfl) (fun g23 e23 hI hX => ?_)
        refine ev_ic f_X12_fails (nx := 33) (v := 0) rfl (by decide) rfl ?_
        refine ev_retK1 f_X12_fails rfl rfl rfl ?_
        exact ev_ret f_X12_aShip rfl rfl rfl ⟨_, _, _, rfl, hI, hX, ⟨_, rfl, (by decide : (0:Int) ≤ (0:Int32).toInt), (Int.le_trans (by decide : (0:Int32).toInt ≤ (0:Int)) (by decide : (0:Int) ≤ 1)), (show (gi 69 14).toInt ≤ (g23 69 14).toInt ∧ (0 = 1 → (g23 69 12).toInt ≠ 0 → (gi 69 14).toInt < (g23 69 14).toInt) from (by have ff24 : (g23 69 14).toInt = (gi 69 14).toInt := congrArg Int32.toInt ((by rw [e23]; exact x_up2_off (Or.inr (by decide)) : g23 69 14 = g21 69 14).trans ((by rw [e21]; exact x_up2_off (Or.inr (by decide)) : g21 69 14 = gi 69 14).trans rfl)); have ff25 : (g23 69 12).toInt = (gi 69 12).toInt := congrArg Int32.toInt ((by rw [e23]; exact x_up2_off (Or.inr (by decide)) : g23 69 12 = g21 69 12).trans ((by rw [e21]; exact x_up2_off (Or.inr (by decide)) : g21 69 12 = gi 69 12).trans rfl)); omega))⟩⟩
    · have r26 : (gi 69 18).toInt ≠ 0 := fun e => h9 (Int32.toInt_inj.mp (e.trans (by decide : (0:Int) = (0 : Int32).toInt)))
      refine ev_ic f_X12_fails (nx := 33) (v := 0) rfl (by decide) rfl ?_
      refine ev_retK1 f_X12_fails rfl rfl rfl ?_
      exact ev_ret f_X12_aShip rfl rfl rfl ⟨_, _, _, rfl, hI, hX, ⟨_, rfl, (by decide : (0:Int) ≤ (0:Int32).toInt), (Int.le_trans (by decide : (0:Int32).toInt ≤ (0:Int)) (by decide : (0:Int) ≤ 1)), (show (gi 69 14).toInt ≤ (gi 69 14).toInt ∧ (0 = 1 → (gi 69 12).toInt ≠ 0 → (gi 69 14).toInt < (gi 69 14).toInt) from (by omega))⟩⟩
  · have r27 : (gi 70 1401).toInt ≠ 6 := fun e => h7 (Int32.toInt_inj.mp (e.trans (by decide : (6:Int) = (6 : Int32).toInt)))
    have u28 : (gi 70 1401).toInt ≤ 5 := t_neu h7 u3 rfl rfl
    refine ev_loc f_X12_aShip (nx := 36) rfl rfl rfl rfl ?_
    refine ev_bp f_X12_aShip (nx := 38) (v := 6) rfl (by decide) rfl ?_
    refine ev_loc f_X12_aShip (nx := 39) rfl rfl rfl rfl ?_
    refine ev_getR f_X12_aShip (nx := 42) rfl (hI.wf.s rfl) rfl rfl (hI.wf.r rfl) rfl rfl ?_
    refine ev_sp f_X12_aShip (nx := 45) (v := 1401) rfl (by decide) rfl ?_
    refine ev_ialdv f_X12_aShip (nx := 46) (w := (gi 70 1401)) rfl (hI.wf.s rfl) (by decide) (rfl : (1401 : Int32).toNatClampNeg = 1401) (by decide) rfl rfl ?_
    refine ev_addK f_X12_aShip (nx := 47) (c := 6) (l := 6) (u := 11) rfl (by decide) l3 u28 rfl rfl (by decide) (by decide) rfl (fun z30 e30 l30 u30 => ?_)
    refine ev_qI f_X12_aShip (nx := 50) (r := []) rfl rfl rfl rfl rfl rfl rfl (c_m_aNewName hI (z30) (Int.le_trans (by decide : (0:Int) ≤ 6) l30) (Int.le_trans u30 (by decide : (11:Int) ≤ 17))) rfl hX rfl (fun w31 gi31 gl31 gr31 l31 u31 hI hX hC31 q31 => ?_)
    have q31 : (gi 69 14).toInt ≤ (gi31 69 14).toInt ∧ (w31.toInt = 1 → (gi31 69 12).toInt ≠ 0 → (gi 69 14).toInt < (gi31 69 14).toInt) := q31
    obtain ⟨l32, u32⟩ := hI.b (hI.wf.s (k := 69) rfl) (t_bdK rfl : t_bd 11 12 = some (0, 4))
    obtain ⟨l33, u33⟩ := hI.b (hI.wf.s (k := 69) rfl) (t_bdK rfl : t_bd 11 14 = some (0, 900))
    refine ev_if f_X12_aShip (t1 := 64) (t2 := 53) rfl rfl rfl (fun h34 => ?_) (fun h34 => ?_)
    · have u35 : w31.toInt ≤ 0 := t_equ h34 (by decide : (0:Int32).toInt ≤ (0:Int))
      refine ev_ic f_X12_aShip (nx := 65) (v := 0) rfl (by decide) rfl ?_
      exact ev_ret f_X12_aShip rfl rfl rfl ⟨_, _, _, rfl, hI, hX, ⟨_, rfl, (by decide : (0:Int) ≤ (0:Int32).toInt), (Int.le_trans (by decide : (0:Int32).toInt ≤ (0:Int)) (by decide : (0:Int) ≤ 1)), (show (gi 69 14).toInt ≤ (gi31 69 14).toInt ∧ (0 = 1 → (gi31 69 12).toInt ≠ 0 → (gi 69 14).toInt < (gi31 69 14).toInt) from (by omega))⟩⟩
    · have r36 : w31.toInt ≠ 0 := fun e => h34 (Int32.toInt_inj.mp (e.trans (by decide : (0:Int) = (0 : Int32).toInt)))
      have l37 : 1 ≤ w31.toInt := t_nel h34 l31 rfl rfl
      refine ev_loc f_X12_aShip (nx := 54) rfl rfl rfl rfl ?_
      refine ev_heap f_X12_aShip (nx := 56) rfl rfl rfl rfl ?_
      refine ev_bp f_X12_aShip (nx := 58) (v := 8) rfl (by decide) rfl ?_
      refine ev_qI f_X12_aShip (nx := 61) (r := []) rfl rfl rfl rfl rfl rfl rfl (c_m_wantWord hI (8)) rfl hX rfl (fun w38 gi38 gl38 gr38 l38 u38 hI hX hC38 q38 => ?_)
      have q38 : (gi31 69 14).toInt ≤ (gi38 69 14).toInt ∧ (w38.toInt = 1 → (gi38 69 12).toInt ≠ 0 → (gi31 69 14).toInt < (gi38 69 14).toInt) := q38
      obtain ⟨l39, u39⟩ := hI.b (hI.wf.s (k := 69) rfl) (t_bdK rfl : t_bd 11 12 = some (0, 4))
      obtain ⟨l40, u40⟩ := hI.b (hI.wf.s (k := 69) rfl) (t_bdK rfl : t_bd 11 14 = some (0, 900))
      refine ev_if f_X12_aShip (t1 := 64) (t2 := 66) rfl rfl rfl (fun h41 => ?_) (fun h41 => ?_)
      · have u42 : w38.toInt ≤ 0 := t_equ h41 (by decide : (0:Int32).toInt ≤ (0:Int))
        refine ev_ic f_X12_aShip (nx := 65) (v := 0) rfl (by decide) rfl ?_
        exact ev_ret f_X12_aShip rfl rfl rfl ⟨_, _, _, rfl, hI, hX, ⟨_, rfl, (by decide : (0:Int) ≤ (0:Int32).toInt), (Int.le_trans (by decide : (0:Int32).toInt ≤ (0:Int)) (by decide : (0:Int) ≤ 1)), (show (gi 69 14).toInt ≤ (gi38 69 14).toInt ∧ (0 = 1 → (gi38 69 12).toInt ≠ 0 → (gi 69 14).toInt < (gi38 69 14).toInt) from (by omega))⟩⟩
      · have r43 : w38.toInt ≠ 0 := fun e => h41 (Int32.toInt_inj.mp (e.trans (by decide : (0:Int) = (0 : Int32).toInt)))
        have l44 : 1 ≤ w38.toInt := t_nel h41 l38 rfl rfl
        refine ev_loc f_X12_aShip (nx := 67) rfl rfl rfl rfl ?_
        refine ev_heap f_X12_aShip (nx := 69) rfl rfl rfl rfl ?_
        refine ev_inV2 f_X12_aShip (nx := 72) (lo2 := [(0, .ref 69), (1, .retAddr 28)]) rfl rfl rfl rfl f_X12_isName (hI.wf.s rfl) rfl rfl rfl rfl rfl ?_
        refine ev_loc f_X12_isName (nx := 1) rfl rfl rfl rfl ?_
        refine ev_gvI f_X12_isName (nx := 4) (w := (gi38 69 12)) rfl (hI.wf.s rfl) rfl rfl rfl rfl ?_
        refine ev_ic f_X12_isName (nx := 5) (v := 2) rfl (by decide) rfl ?_
        refine ev_if f_X12_isName (t1 := 8) (t2 := 35) rfl rfl rfl (fun h45 => ?_) (fun h45 => ?_)
        · have u46 : (gi38 69 12).toInt ≤ 2 := t_equ h45 (by decide : (2:Int32).toInt ≤ (2:Int))
          have l47 : 2 ≤ (gi38 69 12).toInt := t_eql h45 (by decide : (2:Int) ≤ (2:Int32).toInt)
          refine ev_loc f_X12_isName (nx := 9) rfl rfl rfl rfl ?_
          refine ev_gvI f_X12_isName (nx := 12) (w := (gi38 69 14)) rfl (hI.wf.s rfl) rfl rfl rfl rfl ?_
          refine ev_loc f_X12_isName (nx := 13) rfl rfl rfl rfl ?_
          refine ev_getI f_X12_isName (nx := 16) rfl (hI.wf.s rfl) rfl rfl rfl ?_
          obtain ⟨l48, u48⟩ := hI.b (hI.wf.s (k := 69) rfl) (t_bdK rfl : t_bd 11 13 = some (0, 900))
          refine ev_subR f_X12_isName (nx := 17) (l := (-900)) (u := 900) rfl l40 u40 l48 u48 rfl rfl (by decide) (by decide) rfl (fun z49 e49 l49 u49 => ?_)
          refine ev_bp f_X12_isName (nx := 19) (v := 8) rfl (by decide) rfl ?_
          refine ev_if f_X12_isName (t1 := 35) (t2 := 22) rfl rfl rfl (fun h50 => ?_) (fun h50 => ?_)
          · have l51 : 9 ≤ z49.toInt := t_ltl h50 (by decide : (8:Int) ≤ (8:Int32).toInt) rfl
            have u52 : (gi38 69 13).toInt ≤ 891 := by have := u40; omega
            refine ev_ic f_X12_isName (nx := 36) (v := 0) rfl (by decide) rfl ?_
            refine ev_retK1 f_X12_isName rfl rfl rfl ?_
            refine ev_t f_X12_aShip (t1 := 75) (t2 := 81) rfl rfl rfl (by decide) ?_
            refine ev_loc f_X12_aShip (nx := 76) rfl rfl rfl rfl ?_
            refine ev_ic f_X12_aShip (nx := 77) (v := 2) rfl (by decide) rfl ?_
            refine ev_inV2 f_X12_aShip (nx := 80) (lo2 := [(0, .ref 69), (1, .int 2)]) rfl rfl rfl rfl f_X12_fails (hI.wf.s rfl) rfl rfl rfl rfl rfl ?_
            refine ev_loc f_X12_fails (nx := 1) rfl rfl rfl rfl ?_
            refine ev_getI f_X12_fails (nx := 4) rfl (hI.wf.s rfl) rfl rfl rfl ?_
            refine ev_if f_X12_fails (t1 := 7) (t2 := 32) rfl rfl rfl (fun h53 => ?_) (fun h53 => ?_)
            · have u54 : (gi38 69 18).toInt ≤ 0 := t_equ h53 (by decide : (0:Int32).toInt ≤ (0:Int))
              have l55 : 0 ≤ (gi38 69 18).toInt := t_eql h53 (by decide : (0:Int) ≤ (0:Int32).toInt)
              refine ev_loc f_X12_fails (nx := 8) rfl rfl rfl rfl ?_
              refine ev_loc f_X12_fails (nx := 9) rfl rfl rfl rfl ?_
              refine ev_gvI f_X12_fails (nx := 12) (w := (gi38 69 12)) rfl (hI.wf.s rfl) rfl rfl rfl rfl ?_
              refine ev_ic f_X12_fails (nx := 13) (v := 1) rfl (by decide) rfl ?_
              refine ev_f f_X12_fails (t1 := 16) (t2 := 20) rfl rfl rfl (t_neT' (by decide : (1:Int32).toInt ≤ (1:Int)) l47 (by decide)) ?_
              refine ev_loc f_X12_fails (nx := 21) rfl rfl rfl rfl ?_
              refine ev_putIT f_X12_fails (nx := 24) rfl (hI.wf.s rfl) rfl rfl rfl (hI.put0 (hI.wf.s rfl) rfl rfl) (hX.upI rfl) (fun g56 e56 hI hX => ?_)
              refine ev_loc f_X12_fails (nx := 25) rfl rfl rfl rfl ?_
              refine ev_loc f_X12_fails (nx := 26) rfl rfl rfl rfl ?_
              refine ev_gvI f_X12_fails (nx := 29) (w := (gi38 69 13)) rfl (hI.wf.s rfl) rfl rfl ((by rw [e56]; exact x_up2_off (Or.inr (by decide)) : g56 69 13 = gi38 69 13).trans rfl) rfl ?_
              refine ev_putIT f_X12_fails (nx := 32) rfl (hI.wf.s rfl) rfl rfl rfl (hI.put0 (hI.wf.s rfl) rfl rfl) (hX.upI rfl) (fun g57 e57 hI hX => ?_)
              refine ev_ic f_X12_fails (nx := 33) (v := 0) rfl (by decide) rfl ?_
              refine ev_retK1 f_X12_fails rfl rfl rfl ?_
              exact ev_ret f_X12_aShip rfl rfl rfl ⟨_, _, _, rfl, hI, hX, ⟨_, rfl, (by decide : (0:Int) ≤ (0:Int32).toInt), (Int.le_trans (by decide : (0:Int32).toInt ≤ (0:Int)) (by decide : (0:Int) ≤ 1)), (show (gi 69 14).toInt ≤ (g57 69 14).toInt ∧ (0 = 1 → (g57 69 12).toInt ≠ 0 → (gi 69 14).toInt < (g57 69 14).toInt) from (by have ff58 : (g57 69 14).toInt = (gi38 69 14).toInt := congrArg Int32.toInt ((by rw [e57]; exact x_up2_off (Or.inr (by decide)) : g57 69 14 = g56 69 14).trans ((by rw [e56]; exact x_up2_off (Or.inr (by decide)) : g56 69 14 = gi38 69 14).trans rfl)); have ff59 : (g57 69 12).toInt = (gi38 69 12).toInt := congrArg Int32.toInt ((by rw [e57]; exact x_up2_off (Or.inr (by decide)) : g57 69 12 = g56 69 12).trans ((by rw [e56]; exact x_up2_off (Or.inr (by decide)) : g56 69 12 = gi38 69 12).trans rfl)); omega))⟩⟩
            · have r60 : (gi38 69 18).toInt ≠ 0 := fun e => h53 (Int32.toInt_inj.mp (e.trans (by decide : (0:Int) = (0 : Int32).toInt)))
              refine ev_ic f_X12_fails (nx := 33) (v := 0) rfl (by decide) rfl ?_
              refine ev_retK1 f_X12_fails rfl rfl rfl ?_
              exact ev_ret f_X12_aShip rfl rfl rfl ⟨_, _, _, rfl, hI, hX, ⟨_, rfl, (by decide : (0:Int) ≤ (0:Int32).toInt), (Int.le_trans (by decide : (0:Int32).toInt ≤ (0:Int)) (by decide : (0:Int) ≤ 1)), (show (gi 69 14).toInt ≤ (gi38 69 14).toInt ∧ (0 = 1 → (gi38 69 12).toInt ≠ 0 → (gi 69 14).toInt < (gi38 69 14).toInt) from (by omega))⟩⟩
          · have u61 : z49.toInt ≤ 8 := t_leu (t_nlt h50) (by decide : (8:Int32).toInt ≤ (8:Int))
            refine ev_loc f_X12_isName (nx := 23) rfl rfl rfl rfl ?_
            refine ev_loc f_X12_isName (nx := 24) rfl rfl rfl rfl ?_
            refine ev_qI f_X12_isName (nx := 27) (r := []) rfl rfl rfl rfl rfl rfl rfl (c_m_inWords hI ) rfl hX rfl (fun w62 gi62 gl62 gr62 l62 u62 hI hX hC62 q62 => ?_)
            have q62 : 0 ≤ w62.toInt → (gi38 69 12).toInt = 2 := q62
            refine ev_ic f_X12_isName (nx := 28) (v := -1) rfl (by decide) rfl ?_
            refine ev_if f_X12_isName (t1 := 31) (t2 := 35) rfl rfl rfl (fun h63 => ?_) (fun h63 => ?_)
            · have u64 : w62.toInt ≤ (-1) := t_equ h63 (by decide : ((-1):Int32).toInt ≤ ((-1):Int))
              have l65 : (-1) ≤ w62.toInt := t_eql h63 (by decide : ((-1):Int) ≤ ((-1):Int32).toInt)
              refine ev_ic f_X12_isName (nx := 32) (v := 1) rfl (by decide) rfl ?_
              refine ev_jmp f_X12_isName (nx := 36) rfl rfl rfl ?_
              refine ev_retK1 f_X12_isName rfl rfl rfl ?_
              refine ev_f f_X12_aShip (t1 := 75) (t2 := 81) rfl rfl rfl (by decide) ?_
              refine ev_loc f_X12_aShip (nx := 82) rfl rfl rfl rfl ?_
              refine ev_getR f_X12_aShip (nx := 85) rfl (hI.wf.s rfl) rfl rfl (hI.wf.r rfl) rfl rfl ?_
              refine ev_loc f_X12_aShip (nx := 86) rfl rfl rfl rfl ?_
              refine ev_loc f_X12_aShip (nx := 87) rfl rfl rfl rfl ?_
              refine ev_bp f_X12_aShip (nx := 89) (v := 72) rfl (by decide) rfl ?_
              refine ev_loc f_X12_aShip (nx := 90) rfl rfl rfl rfl ?_
              refine ev_getR f_X12_aShip (nx := 93) rfl (hI.wf.s rfl) rfl rfl (hI.wf.r rfl) rfl rfl ?_
              refine ev_sp f_X12_aShip (nx := 96) (v := 1400) rfl (by decide) rfl ?_
              obtain ⟨l66, u66⟩ := hI.ab (by decide +kernel : t_abr 70 1400 1400 0 6 = true) (Nat.le_refl _) (Nat.le_refl _)
              refine ev_ialdv f_X12_aShip (nx := 97) (w := (gi62 70 1400)) rfl (hI.wf.s rfl) (by decide) (rfl : (1400 : Int32).toNatClampNeg = 1400) (by decide) rfl rfl ?_
              refine ev_cI f_X12_aShip (nx := 100) (r := [.int z5, .ref 70]) rfl rfl rfl rfl rfl rfl rfl (c_m_findHere hI (72) (by decide : (72:Int) ≤ (72:Int32).toInt) (Int.le_trans (by decide : (72:Int32).toInt ≤ (72:Int)) (by decide : (72:Int) ≤ 84)) ((gi62 70 1400)) l66 u66) rfl hX rfl (fun w67 gi67 gl67 gr67 l67 u67 hI hX hC67 => ?_)
              refine ev_iastT f_X12_aShip (nx := 101) rfl (hI.wf.s rfl) l5 (by decide) u5 (by decide) rfl (hI.astA (x := (gi 70 1401)) (hI.wf.s rfl) (by decide +kernel : t_abwa 70 1452 5 0 5 (-1) 5 = true) (by omega) (by omega) (by omega) l67 u67 rfl) (hX.upI (t_inR (p := 1452) (m := 1482) rfl l5 (by decide) u5 (by decide) (by decide))) (fun g68 e68 hI hX => ?_)
              refine ev_loc f_X12_aShip (nx := 102) rfl rfl rfl rfl ?_
              refine ev_getR f_X12_aShip (nx := 105) rfl (hI.wf.s rfl) rfl rfl (hI.wf.r rfl) rfl rfl ?_
              refine ev_loc f_X12_aShip (nx := 106) rfl rfl rfl rfl ?_
              refine ev_ialdT f_X12_aShip (nx := 107) rfl (hI.wf.s rfl) l5 (by decide) u5 (by decide) rfl (fun w69 e69 => ?_)
              rw [e69.trans (by rw [e68]; exact x_up2_at _ _ _ _ : g68 70 z5.toNatClampNeg = w67)]
              refine ev_ic f_X12_aShip (nx := 108) (v := -1) rfl (by decide) rfl ?_
              refine ev_if f_X12_aShip (t1 := 111) (t2 := 117) rfl rfl rfl (fun h70 => ?_) (fun h70 => ?_)
              · have u71 : w67.toInt ≤ (-1) := t_equ h70 (by decide : ((-1):Int32).toInt ≤ ((-1):Int))
                refine ev_loc f_X12_aShip (nx := 112) rfl rfl rfl rfl ?_
                refine ev_ic f_X12_aShip (nx := 113) (v := 3) rfl (by decide) rfl ?_
                refine ev_inV2 f_X12_aShip (nx := 116) (lo2 := [(0, .ref 69), (1, .int 3)]) rfl rfl rfl rfl f_X12_fails (hI.wf.s rfl) rfl rfl rfl rfl rfl ?_
                refine ev_loc f_X12_fails (nx := 1) rfl rfl rfl rfl ?_
                refine ev_getI f_X12_fails (nx := 4) rfl (hI.wf.s rfl) rfl rfl rfl ?_
                refine ev_if f_X12_fails (t1 := 7) (t2 := 32) rfl rfl rfl (fun h72 => ?_) (fun h72 => ?_)
                · have u73 : (g68 69 18).toInt ≤ 0 := t_equ h72 (by decide : (0:Int32).toInt ≤ (0:Int))
                  have l74 : 0 ≤ (g68 69 18).toInt := t_eql h72 (by decide : (0:Int) ≤ (0:Int32).toInt)
                  refine ev_loc f_X12_fails (nx := 8) rfl rfl rfl rfl ?_
                  refine ev_loc f_X12_fails (nx := 9) rfl rfl rfl rfl ?_
                  refine ev_gvI f_X12_fails (nx := 12) (w := (gi38 69 12)) rfl (hI.wf.s rfl) rfl rfl ((by rw [e68]; exact x_up2_off (Or.inl (by decide)) : g68 69 12 = gi67 69 12).trans ((hC67.1 69 12 rfl).1.trans ((hC62.1 69 12 rfl).1.trans rfl))) rfl ?_
                  refine ev_ic f_X12_fails (nx := 13) (v := 1) rfl (by decide) rfl ?_
                  refine ev_f f_X12_fails (t1 := 16) (t2 := 20) rfl rfl rfl (t_neT' (by decide : (1:Int32).toInt ≤ (1:Int)) l47 (by decide)) ?_
                  refine ev_loc f_X12_fails (nx := 21) rfl rfl rfl rfl ?_
                  refine ev_putIT f_X12_fails (nx := 24) rfl (hI.wf.s rfl) rfl rfl rfl (hI.put0 (hI.wf.s rfl) rfl rfl) (hX.upI rfl) (fun g75 e75 hI hX => ?_)
                  refine ev_loc f_X12_fails (nx := 25) rfl rfl rfl rfl ?_
                  refine ev_loc f_X12_fails (nx := 26) rfl rfl rfl rfl ?_
                  refine ev_gvI f_X12_fails (nx := 29) (w := (gi38 69 13)) rfl (hI.wf.s rfl) rfl rfl ((by rw [e75]; exact x_up2_off (Or.inr (by decide)) : g75 69 13 = g68 69 13).trans ((by rw [e68]; exact x_up2_off (Or.inl (by decide)) : g68 69 13 = gi67 69 13).trans ((hC67.1 69 13 rfl).1.trans ((hC62.1 69 13 rfl).1.trans rfl)))) rfl ?_
                  refine ev_putIT f_X12_fails (nx := 32) rfl (hI.wf.s rfl) rfl rfl rfl (hI.put0 (hI.wf.s rfl) rfl rfl) (hX.upI rfl) (fun g76 e76 hI hX => ?_)
                  refine ev_ic f_X12_fails (nx := 33) (v := 0) rfl (by decide) rfl ?_
                  refine ev_retK1 f_X12_fails rfl rfl rfl ?_
                  exact ev_ret f_X12_aShip rfl rfl rfl ⟨_, _, _, rfl, hI, hX, ⟨_, rfl, (by decide : (0:Int) ≤ (0:Int32).toInt), (Int.le_trans (by decide : (0:Int32).toInt ≤ (0:Int)) (by decide : (0:Int) ≤ 1)), (show (gi 69 14).toInt ≤ (g76 69 14).toInt ∧ (0 = 1 → (g76 69 12).toInt ≠ 0 → (gi 69 14).toInt < (g76 69 14).toInt) from (by have ff77 : (g76 69 14).toInt = (gi38 69 14).toInt := congrArg Int32.toInt ((by rw [e76]; exact x_up2_off (Or.inr (by decide)) : g76 69 14 = g75 69 14).trans ((by rw [e75]; exact x_up2_off (Or.inr (by decide)) : g75 69 14 = g68 69 14).trans ((by rw [e68]; exact x_up2_off (Or.inl (by decide)) : g68 69 14 = gi67 69 14).trans ((hC67.1 69 14 rfl).1.trans ((hC62.1 69 14 rfl).1.trans rfl))))); have ff78 : (g76 69 12).toInt = (gi38 69 12).toInt := congrArg Int32.toInt ((by rw [e76]; exact x_up2_off (Or.inr (by decide)) : g76 69 12 = g75 69 12).trans ((by rw [e75]; exact x_up2_off (Or.inr (by decide)) : g75 69 12 = g68 69 12).trans ((by rw [e68]; exact x_up2_off (Or.inl (by decide)) : g68 69 12 = gi67 69 12).trans ((hC67.1 69 12 rfl).1.trans ((hC62.1 69 12 rfl).1.trans rfl))))); omega))⟩⟩
                · have r79 : (g68 69 18).toInt ≠ 0 := fun e => h72 (Int32.toInt_inj.mp (e.trans (by decide : (0:Int) = (0 : Int32).toInt)))
                  refine ev_ic f_X12_fails (nx := 33) (v := 0) rfl (by decide) rfl ?_
                  refine ev_retK1 f_X12_fails rfl rfl rfl ?_
                  exact ev_ret f_X12_aShip rfl rfl rfl ⟨_, _, _, rfl, hI, hX, ⟨_, rfl, (by decide : (0:Int) ≤ (0:Int32).toInt), (Int.le_trans (by decide : (0:Int32).toInt ≤ (0:Int)) (by decide : (0:Int) ≤ 1)), (show (gi 69 14).toInt ≤ (g68 69 14).toInt ∧ (0 = 1 → (g68 69 12).toInt ≠ 0 → (gi 69 14).toInt < (g68 69 14).toInt) from (by have ff80 : (g68 69 14).toInt = (gi38 69 14).toInt := congrArg Int32.toInt ((by rw [e68]; exact x_up2_off (Or.inl (by decide)) : g68 69 14 = gi67 69 14).trans ((hC67.1 69 14 rfl).1.trans ((hC62.1 69 14 rfl).1.trans rfl))); have ff81 : (g68 69 12).toInt = (gi38 69 12).toInt := congrArg Int32.toInt ((by rw [e68]; exact x_up2_off (Or.inl (by decide)) : g68 69 12 = gi67 69 12).trans ((hC67.1 69 12 rfl).1.trans ((hC62.1 69 12 rfl).1.trans rfl))); omega))⟩⟩
              · have r82 : w67.toInt ≠ (-1) := fun e => h70 (Int32.toInt_inj.mp (e.trans (by decide : ((-1):Int) = ((-1) : Int32).toInt)))
                have l83 : 0 ≤ w67.toInt := t_nel h70 l67 rfl rfl
                refine ev_loc f_X12_aShip (nx := 118) rfl rfl rfl rfl ?_
                refine ev_qN f_X12_aShip (nx := 121) (r := []) rfl rfl rfl rfl rfl rfl rfl (c_m_ahead hI ) rfl hX rfl (fun gi84 gl84 gr84 hI hX hC84 q84 => ?_)
                have ff85 : (g68 69 14).toInt = (gi38 69 14).toInt := congrArg Int32.toInt ((by rw [e68]; exact x_up2_off (Or.inl (by decide)) : g68 69 14 = gi67 69 14).trans ((hC67.1 69 14 rfl).1.trans ((hC62.1 69 14 rfl).1.trans rfl)))
                have q84 : (g68 69 14).toInt ≤ (gi84 69 14).toInt ∧ ((gi84 69 12).toInt ≠ 0 → (g68 69 14).toInt < (gi84 69 14).toInt) := q84
                obtain ⟨l86, u86⟩ := hI.b (hI.wf.s (k := 69) rfl) (t_bdK rfl : t_bd 11 12 = some (0, 4))
                obtain ⟨l87, u87⟩ := hI.b (hI.wf.s (k := 69) rfl) (t_bdK rfl : t_bd 11 14 = some (0, 900))
                refine ev_loc f_X12_aShip (nx := 122) rfl rfl rfl rfl ?_
                refine ev_getR f_X12_aShip (nx := 125) rfl (hI.wf.s rfl) rfl rfl (hI.wf.r rfl) rfl rfl ?_
                refine ev_loc f_X12_aShip (nx := 126) rfl rfl rfl rfl ?_
                refine ev_ic f_X12_aShip (nx := 127) (v := 4) rfl (by decide) rfl ?_
                refine ev_addC f_X12_aShip (nx := 128) (c := 4) (l := 1456) (u := 1486) rfl (by decide) l5 u5 rfl rfl (by decide) (by decide) rfl (fun z88 e88 l88 u88 => ?_)
                refine ev_ic f_X12_aShip (nx := 129) (v := 0) rfl (by decide) rfl ?_
                refine ev_iastT f_X12_aShip (nx := 130) rfl (hI.wf.s rfl) l88 (by decide) u88 (by decide) rfl (hI.astA (x := (gi 70 1401)) (hI.wf.s rfl) (by decide +kernel : t_abwa 70 1456 5 0 5 0 0 = true) (by omega) (by omega) (by omega) (by decide : (0:Int) ≤ (0:Int32).toInt) (by decide : (0:Int32).toInt ≤ (0:Int)) rfl) (hX.upI (t_inR (p := 1456) (m := 1486) rfl l88 (by decide) u88 (by decide) (by decide))) (fun g89 e89 hI hX => ?_)
                refine ev_loc f_X12_aShip (nx := 131) rfl rfl rfl rfl ?_
                refine ev_loc f_X12_aShip (nx := 132) rfl rfl rfl rfl ?_
                refine ev_ic f_X12_aShip (nx := 133) (v := 1) rfl (by decide) rfl ?_
                refine ev_addC f_X12_aShip (nx := 134) (c := 1) (l := 1453) (u := 1483) rfl (by decide) l5 u5 rfl rfl (by decide) (by decide) rfl (fun z90 e90 l90 u90 => ?_)
                refine ev_inV2 f_X12_aShip (nx := 137) (lo2 := [(0, .ref 69), (1, .int z90)]) rfl rfl rfl rfl f_X12_passes (hI.wf.s rfl) rfl rfl rfl rfl rfl ?_
                refine ev_loc f_X12_passes (nx := 1) rfl rfl rfl rfl ?_
                refine ev_heap f_X12_passes (nx := 3) rfl rfl rfl rfl ?_
                refine ev_bp f_X12_passes (nx := 5) (v := 9) rfl (by decide) rfl ?_
                refine ev_qI f_X12_passes (nx := 8) (r := []) rfl rfl rfl rfl rfl rfl rfl (c_m_wantWord hI (9)) rfl hX rfl (fun w91 gi91 gl91 gr91 l91 u91 hI hX hC91 q91 => ?_)
                have ff92 : (g89 69 14).toInt = (gi84 69 14).toInt := congrArg Int32.toInt ((by rw [e89]; exact x_up2_off (Or.inl (by decide)) : g89 69 14 = gi84 69 14).trans rfl)
                have q91 : (g89 69 14).toInt ≤ (gi91 69 14).toInt ∧ (w91.toInt = 1 → (gi91 69 12).toInt ≠ 0 → (g89 69 14).toInt < (gi91 69 14).toInt) := q91
                obtain ⟨l93, u93⟩ := hI.b (hI.wf.s (k := 69) rfl) (t_bdK rfl : t_bd 11 12 = some (0, 4))
                obtain ⟨l94, u94⟩ := hI.b (hI.wf.s (k := 69) rfl) (t_bdK rfl : t_bd 11 14 = some (0, 900))
                refine ev_if f_X12_passes (t1 := 74) (t2 := 11) rfl rfl rfl (fun h95 => ?_) (fun h95 => ?_)
                · have u96 : w91.toInt ≤ 0 := t_equ h95 (by decide : (0:Int32).toInt ≤ (0:Int))
                  refine ev_ic f_X12_passes (nx := 75) (v := 0) rfl (by decide) rfl ?_
                  refine ev_retK1 f_X12_passes rfl rfl rfl ?_
                  refine ev_t f_X12_aShip (t1 := 140) (t2 := 142) rfl rfl rfl (by decide) ?_
                  refine ev_ic f_X12_aShip (nx := 141) (v := 0) rfl (by decide) rfl ?_
                  exact ev_ret f_X12_aShip rfl rfl rfl ⟨_, _, _, rfl, hI, hX, ⟨_, rfl, (by decide : (0:Int) ≤ (0:Int32).toInt), (Int.le_trans (by decide : (0:Int32).toInt ≤ (0:Int)) (by decide : (0:Int) ≤ 1)), (show (gi 69 14).toInt ≤ (gi91 69 14).toInt ∧ (0 = 1 → (gi91 69 12).toInt ≠ 0 → (gi 69 14).toInt < (gi91 69 14).toInt) from (by omega))⟩⟩
                · have r97 : w91.toInt ≠ 0 := fun e => h95 (Int32.toInt_inj.mp (e.trans (by decide : (0:Int) = (0 : Int32).toInt)))
                  have l98 : 1 ≤ w91.toInt := t_nel h95 l91 rfl rfl
                  refine ev_loc f_X12_passes (nx := 12) rfl rfl rfl rfl ?_
                  refine ev_loc f_X12_passes (nx := 13) rfl rfl rfl rfl ?_
                  refine ev_ic f_X12_passes (nx := 14) (v := 0) rfl (by decide) rfl ?_
                  refine ev_bp f_X12_passes (nx := 16) (v := 120) rfl (by decide) rfl ?_
                  refine ev_inV4 f_X12_passes (nx := 19) (lo2 := [(0, .ref 69), (1, .int z90), (2, .int 0), (3, .int 120)]) rfl rfl rfl rfl f_X12_number (hI.wf.s rfl) rfl rfl rfl rfl rfl ?_
                  refine ev_loc f_X12_number (nx := 1) rfl rfl rfl rfl ?_
                  refine ev_gvI f_X12_number (nx := 4) (w := (gi91 69 12)) rfl (hI.wf.s rfl) rfl rfl rfl rfl ?_
                  refine ev_ic f_X12_number (nx := 5) (v := 3) rfl (by decide) rfl ?_
                  refine ev_if f_X12_number (t1 := 14) (t2 := 8) rfl rfl rfl (fun h99 => ?_) (fun h99 => ?_)
                  · have u100 : (gi91 69 12).toInt ≤ 3 := t_equ h99 (by decide : (3:Int32).toInt ≤ (3:Int))
                    have l101 : 3 ≤ (gi91 69 12).toInt := t_eql h99 (by decide : (3:Int) ≤ (3:Int32).toInt)
                    refine ev_loc f_X12_number (nx := 15) rfl rfl rfl rfl ?_
                    refine ev_getI f_X12_number (nx := 18) rfl (hI.wf.s rfl) rfl rfl rfl ?_
                    refine ev_loc f_X12_number (nx := 19) rfl rfl rfl rfl ?_
                    refine ev_if f_X12_number (t1 := 30) (t2 := 22) rfl rfl rfl (fun h102 => ?_) (fun h102 => ?_)
                    · have u103 : (gi91 69 15).toInt ≤ (-1) := t_ltu h102 (by decide : (0:Int32).toInt ≤ (0:Int)) rfl
                      refine ev_loc f_X12_number (nx := 31) rfl rfl rfl rfl ?_
                      refine ev_ic f_X12_number (nx := 32) (v := 4) rfl (by decide) rfl ?_
                      refine ev_inV2 f_X12_number (nx := 35) (lo2 := [(0, .ref 69), (1, .int 4)]) rfl rfl rfl rfl f_X12_fails (hI.wf.s rfl) rfl rfl rfl rfl rfl ?_
                      refine ev_loc f_X12_fails (nx := 1) rfl rfl rfl rfl ?_
                      refine ev_getI f_X12_fails (nx := 4) rfl (hI.wf.s rfl) rfl rfl rfl ?_
                      refine ev_if f_X12_fails (t1 := 7) (t2 := 32) rfl rfl rfl (fun h104 => ?_) (fun h104 => ?_)
                      · have u105 : (gi91 69 18).toInt ≤ 0 := t_equ h104 (by decide : (0:Int32).toInt ≤ (0:Int))
                        have l106 : 0 ≤ (gi91 69 18).toInt := t_eql h104 (by decide : (0:Int) ≤ (0:Int32).toInt)
                        refine ev_loc f_X12_fails (nx := 8) rfl rfl rfl rfl ?_
                        refine ev_loc f_X12_fails (nx := 9) rfl rfl rfl rfl ?_
                        refine ev_gvI f_X12_fails (nx := 12) (w := (gi91 69 12)) rfl (hI.wf.s rfl) rfl rfl rfl rfl ?_
                        refine ev_ic f_X12_fails (nx := 13) (v := 1) rfl (by decide) rfl ?_
                        refine ev_f f_X12_fails (t1 := 16) (t2 := 20) rfl rfl rfl (t_neT' (by decide : (1:Int32).toInt ≤ (1:Int)) l101 (by decide)) ?_
                        refine ev_loc f_X12_fails (nx := 21) rfl rfl rfl rfl ?_
                        refine ev_putIT f_X12_fails (nx := 24) rfl (hI.wf.s rfl) rfl rfl rfl (hI.put0 (hI.wf.s rfl) rfl rfl) (hX.upI rfl) (fun g107 e107 hI hX => ?_)
                        refine ev_loc f_X12_fails (nx := 25) rfl rfl rfl rfl ?_
                        refine ev_loc f_X12_fails (nx := 26) rfl rfl rfl rfl ?_
                        refine ev_getI f_X12_fails (nx := 29) rfl (hI.wf.s rfl) rfl rfl rfl ?_
                        obtain ⟨l108, u108⟩ := hI.b (hI.wf.s (k := 69) rfl) (t_bdK rfl : t_bd 11 13 = some (0, 900))
                        refine ev_putIT f_X12_fails (nx := 32) rfl (hI.wf.s rfl) rfl rfl rfl (hI.put0 (hI.wf.s rfl) rfl rfl) (hX.upI rfl) (fun g109 e109 hI hX => ?_)
                        refine ev_ic f_X12_fails (nx := 33) (v := 0) rfl (by decide) rfl ?_
                        refine ev_retK1 f_X12_fails rfl rfl rfl ?_
                        refine ev_retK1 f_X12_number rfl rfl rfl ?_
                        refine ev_t f_X12_passes (t1 := 74) (t2 := 22) rfl rfl rfl (by decide) ?_
                        refine ev_ic f_X12_passes (nx := 75) (v := 0) rfl (by decide) rfl ?_
                        refine ev_retK1 f_X12_passes rfl rfl rfl ?_
                        refine ev_t f_X12_aShip (t1 := 140) (t2 := 142) rfl rfl rfl (by decide) ?_
                        refine ev_ic f_X12_aShip (nx := 141) (v := 0) rfl (by decide) rfl ?_
                        exact ev_ret f_X12_aShip rfl rfl rfl ⟨_, _, _, rfl, hI, hX, ⟨_, rfl, (by decide : (0:Int) ≤ (0:Int32).toInt), (Int.le_trans (by decide : (0:Int32).toInt ≤ (0:Int)) (by decide : (0:Int) ≤ 1)), (show (gi 69 14).toInt ≤ (g109 69 14).toInt ∧ (0 = 1 → (g109 69 12).toInt ≠ 0 → (gi 69 14).toInt < (g109 69 14).toInt) from (by have ff110 : (g109 69 14).toInt = (gi91 69 14).toInt := congrArg Int32.toInt ((by rw [e109]; exact x_up2_off (Or.inr (by decide)) : g109 69 14 = g107 69 14).trans ((by rw [e107]; exact x_up2_off (Or.inr (by decide)) : g107 69 14 = gi91 69 14).trans rfl)); have ff111 : (g109 69 12).toInt = (gi91 69 12).toInt := congrArg Int32.toInt ((by rw [e109]; exact x_up2_off (Or.inr (by decide)) : g109 69 12 = g107 69 12).trans ((by rw [e107]; exact x_up2_off (Or.inr (by decide)) : g107 69 12 = gi91 69 12).trans rfl)); omega))⟩⟩
                      · have r112 : (gi91 69 18).toInt ≠ 0 := fun e => h104 (Int32.toInt_inj.mp (e.trans (by decide : (0:Int) = (0 : Int32).toInt)))
                        refine ev_ic f_X12_fails (nx := 33) (v := 0) rfl (by decide) rfl ?_
                        refine ev_retK1 f_X12_fails rfl rfl rfl ?_
                        refine ev_retK1 f_X12_number rfl rfl rfl ?_
                        refine ev_t f_X12_passes (t1 := 74) (t2 := 22) rfl rfl rfl (by decide) ?_
                        refine ev_ic f_X12_passes (nx := 75) (v := 0) rfl (by decide) rfl ?_
                        refine ev_retK1 f_X12_passes rfl rfl rfl ?_
                        refine ev_t f_X12_aShip (t1 := 140) (t2 := 142) rfl rfl rfl (by decide) ?_
                        refine ev_ic f_X12_aShip (nx := 141) (v := 0) rfl (by decide) rfl ?_
                        exact ev_ret f_X12_aShip rfl rfl rfl ⟨_, _, _, rfl, hI, hX, ⟨_, rfl, (by decide : (0:Int) ≤ (0:Int32).toInt), (Int.le_trans (by decide : (0:Int32).toInt ≤ (0:Int)) (by decide : (0:Int) ≤ 1)), (show (gi 69 14).toInt ≤ (gi91 69 14).toInt ∧ (0 = 1 → (gi91 69 12).toInt ≠ 0 → (gi 69 14).toInt < (gi91 69 14).toInt) from (by omega))⟩⟩
                    · have l113 : 0 ≤ (gi91 69 15).toInt := t_lel (t_nlt h102) (by decide : (0:Int) ≤ (0:Int32).toInt)
                      refine ev_loc f_X12_number (nx := 23) rfl rfl rfl rfl ?_
                      refine ev_gvI f_X12_number (nx := 26) (w := (gi91 69 15)) rfl (hI.wf.s rfl) rfl rfl rfl rfl ?_
                      refine ev_loc f_X12_number (nx := 27) rfl rfl rfl rfl ?_
                      refine ev_if f_X12_number (t1 := 36) (t2 := 30) rfl rfl rfl (fun h114 => ?_) (fun h114 => ?_)
                      · have u115 : (gi91 69 15).toInt ≤ 120 := t_leu h114 (by decide : (120:Int32).toInt ≤ (120:Int))
                        refine ev_loc f_X12_number (nx := 37) rfl rfl rfl rfl ?_
                        refine ev_getR f_X12_number (nx := 40) rfl (hI.wf.s rfl) rfl rfl (hI.wf.r rfl) rfl rfl ?_
                        refine ev_loc f_X12_number (nx := 41) rfl rfl rfl rfl ?_
                        refine ev_loc f_X12_number (nx := 42) rfl rfl rfl rfl ?_
                        refine ev_gvI f_X12_number (nx := 45) (w := (gi91 69 15)) rfl (hI.wf.s rfl) rfl rfl rfl rfl ?_
                        refine ev_iastT f_X12_number (nx := 46) rfl (hI.wf.s rfl) l90 (by decide) u90 (by decide) rfl (hI.astA (x := (gi 70 1401)) (hI.wf.s rfl) (by decide +kernel : t_abwa 70 1453 5 0 5 0 120 = true) (by omega) (by omega) (by omega) l113 u115 rfl) (hX.upI (t_inR (p := 1453) (m := 1483) rfl l90 (by decide) u90 (by decide) (by decide))) (fun g116 e116 hI hX => ?_)
                        refine ev_loc f_X12_number (nx := 47) rfl rfl rfl rfl ?_
                        refine ev_qN f_X12_number (nx := 50) (r := []) rfl rfl rfl rfl rfl rfl rfl (c_m_ahead hI ) rfl hX rfl (fun gi117 gl117 gr117 hI hX hC117 q117 => ?_)
                        have ff118 : (g116 69 14).toInt = (gi91 69 14).toInt := congrArg Int32.toInt ((by rw [e116]; exact x_up2_off (Or.inl (by decide)) : g116 69 14 = gi91 69 14).trans rfl)
                        have q117 : (g116 69 14).toInt ≤ (gi117 69 14).toInt ∧ ((gi117 69 12).toInt ≠ 0 → (g116 69 14).toInt < (gi117 69 14).toInt) := q117
                        obtain ⟨l119, u119⟩ := hI.b (hI.wf.s (k := 69) rfl) (t_bdK rfl : t_bd 11 12 = some (0, 4))
                        obtain ⟨l120, u120⟩ := hI.b (hI.wf.s (k := 69) rfl) (t_bdK rfl : t_bd 11 14 = some (0, 900))
                        refine ev_ic f_X12_number (nx := 51) (v := 1) rfl (by decide) rfl ?_
                        refine ev_retK1 f_X12_number rfl rfl rfl ?_
                        refine ev_f f_X12_passes (t1 := 74) (t2 := 22) rfl rfl rfl (by decide) ?_
                        refine ev_loc f_X12_passes (nx := 23) rfl rfl rfl rfl ?_
                        refine ev_heap f_X12_passes (nx := 25) rfl rfl rfl rfl ?_
                        refine ev_bp f_X12_passes (nx := 27) (v := 10) rfl (by decide) rfl ?_
                        refine ev_qI f_X12_passes (nx := 30) (r := []) rfl rfl rfl rfl rfl rfl rfl (c_m_wantWord hI (10)) rfl hX rfl (fun w121 gi121 gl121 gr121 l121 u121 hI hX hC121 q121 => ?_)
                        have q121 : (gi117 69 14).toInt ≤ (gi121 69 14).toInt ∧ (w121.toInt = 1 → (gi121 69 12).toInt ≠ 0 → (gi117 69 14).toInt < (gi121 69 14).toInt) := q121
                        obtain ⟨l122, u122⟩ := hI.b (hI.wf.s (k := 69) rfl) (t_bdK rfl : t_bd 11 12 = some (0, 4))
                        obtain ⟨l123, u123⟩ := hI.b (hI.wf.s (k := 69) rfl) (t_bdK rfl : t_bd 11 14 = some (0, 900))
                        refine ev_if f_X12_passes (t1 := 74) (t2 := 33) rfl rfl rfl (fun h124 => ?_) (fun h124 => ?_)
                        · have u125 : w121.toInt ≤ 0 := t_equ h124 (by decide : (0:Int32).toInt ≤ (0:Int))
                          refine ev_ic f_X12_passes (nx := 75) (v := 0) rfl (by decide) rfl ?_
                          refine ev_retK1 f_X12_passes rfl rfl rfl ?_
                          refine ev_t f_X12_aShip (t1 := 140) (t2 := 142) rfl rfl rfl (by decide) ?_
                          refine ev_ic f_X12_aShip (nx := 141) (v := 0) rfl (by decide) rfl ?_
                          exact ev_ret f_X12_aShip rfl rfl rfl ⟨_, _, _, rfl, hI, hX, ⟨_, rfl, (by decide : (0:Int) ≤ (0:Int32).toInt), (Int.le_trans (by decide : (0:Int32).toInt ≤ (0:Int)) (by decide : (0:Int) ≤ 1)), (show (gi 69 14).toInt ≤ (gi121 69 14).toInt ∧ (0 = 1 → (gi121 69 12).toInt ≠ 0 → (gi 69 14).toInt < (gi121 69 14).toInt) from (by omega))⟩⟩
                        · have r126 : w121.toInt ≠ 0 := fun e => h124 (Int32.toInt_inj.mp (e.trans (by decide : (0:Int) = (0 : Int32).toInt)))
                          have l127 : 1 ≤ w121.toInt := t_nel h124 l121 rfl rfl
                          refine ev_loc f_X12_passes (nx := 34) rfl rfl rfl rfl ?_
                          refine ev_loc f_X12_passes (nx := 35) rfl rfl rfl rfl ?_
                          refine ev_ic f_X12_passes (nx := 36) (v := 1) rfl (by decide) rfl ?_
                          refine ev_addC f_X12_passes (nx := 37) (c := 1) (l := 1454) (u := 1484) rfl (by decide) l90 u90 rfl rfl (by decide) (by decide) rfl (fun z128 e128 l128 u128 => ?_)
                          refine ev_ic f_X12_passes (nx := 38) (v := 1) rfl (by decide) rfl ?_
                          refine ev_bp f_X12_passes (nx := 40) (v := 20) rfl (by decide) rfl ?_
                          refine ev_inV4 f_X12_passes (nx := 43) (lo2 := [(0, .ref 69), (1, .int z128), (2, .int 1), (3, .int 20)]) rfl rfl rfl rfl f_X12_number (hI.wf.s rfl) rfl rfl rfl rfl rfl ?_
                          refine ev_loc f_X12_number (nx := 1) rfl rfl rfl rfl ?_
                          refine ev_gvI f_X12_number (nx := 4) (w := (gi121 69 12)) rfl (hI.wf.s rfl) rfl rfl rfl rfl ?_
                          refine ev_ic f_X12_number (nx := 5) (v := 3) rfl (by decide) rfl ?_
                          refine ev_if f_X12_number (t1 := 14) (t2 := 8) rfl rfl rfl (fun h129 => ?_) (fun h129 => ?_)
                          · have u130 : (gi121 69 12).toInt ≤ 3 := t_equ h129 (by decide : (3:Int32).toInt ≤ (3:Int))
                            have l131 : 3 ≤ (gi121 69 12).toInt := t_eql h129 (by decide : (3:Int) ≤ (3:Int32).toInt)
                            refine ev_loc f_X12_number (nx := 15) rfl rfl rfl rfl ?_
                            refine ev_getI f_X12_number (nx := 18) rfl (hI.wf.s rfl) rfl rfl rfl ?_
                            refine ev_loc f_X12_number (nx := 19) rfl rfl rfl rfl ?_
                            refine ev_if f_X12_number (t1 := 30) (t2 := 22) rfl rfl rfl (fun h132 => ?_) (fun h132 => ?_)
                            · have u133 : (gi121 69 15).toInt ≤ 0 := t_ltu h132 (by decide : (1:Int32).toInt ≤ (1:Int)) rfl
                              refine ev_loc f_X12_number (nx := 31) rfl rfl rfl rfl ?_
                              refine ev_ic f_X12_number (nx := 32) (v := 4) rfl (by decide) rfl ?_
                              refine ev_inV2 f_X12_number (nx := 35) (lo2 := [(0, .ref 69), (1, .int 4)]) rfl rfl rfl rfl f_X12_fails (hI.wf.s rfl) rfl rfl rfl rfl rfl ?_
                              refine ev_loc f_X12_fails (nx := 1) rfl rfl rfl rfl ?_
                              refine ev_getI f_X12_fails (nx := 4) rfl (hI.wf.s rfl) rfl rfl rfl ?_
                              refine ev_if f_X12_fails (t1 := 7) (t2 := 32) rfl rfl rfl (fun h134 => ?_) (fun h134 => ?_)
                              · have u135 : (gi121 69 18).toInt ≤ 0 := t_equ h134 (by decide : (0:Int32).toInt ≤ (0:Int))
                                have l136 : 0 ≤ (gi121 69 18).toInt := t_eql h134 (by decide : (0:Int) ≤ (0:Int32).toInt)
                                refine ev_loc f_X12_fails (nx := 8) rfl rfl rfl rfl ?_
                                refine ev_loc f_X12_fails (nx := 9) rfl rfl rfl rfl ?_
                                refine ev_gvI f_X12_fails (nx := 12) (w := (gi121 69 12)) rfl (hI.wf.s rfl) rfl rfl rfl rfl ?_
                                refine ev_ic f_X12_fails (nx := 13) (v := 1) rfl (by decide) rfl ?_
                                refine ev_f f_X12_fails (t1 := 16) (t2 := 20) rfl rfl rfl (t_neT' (by decide : (1:Int32).toInt ≤ (1:Int)) l131 (by decide)) ?_
                                refine ev_loc f_X12_fails (nx := 21) rfl rfl rfl rfl ?_
                                refine ev_putIT f_X12_fails (nx := 24) rfl (hI.wf.s rfl) rfl rfl rfl (hI.put0 (hI.wf.s rfl) rfl rfl) (hX.upI rfl) (fun g137 e137 hI hX => ?_)
                                refine ev_loc f_X12_fails (nx := 25) rfl rfl rfl rfl ?_
                                refine ev_loc f_X12_fails (nx := 26) rfl rfl rfl rfl ?_
                                refine ev_getI f_X12_fails (nx := 29) rfl (hI.wf.s rfl) rfl rfl rfl ?_
                                obtain ⟨l138, u138⟩ := hI.b (hI.wf.s (k := 69) rfl) (t_bdK rfl : t_bd 11 13 = some (0, 900))
                                refine ev_putIT f_X12_fails (nx := 32) rfl (hI.wf.s rfl) rfl rfl rfl (hI.put0 (hI.wf.s rfl) rfl rfl) (hX.upI rfl) (fun g139 e139 hI hX => ?_)
                                refine ev_ic f_X12_fails (nx := 33) (v := 0) rfl (by decide) rfl ?_
                                refine ev_retK1 f_X12_fails rfl rfl rfl ?_
                                refine ev_retK1 f_X12_number rfl rfl rfl ?_
                                refine ev_t f_X12_passes (t1 := 74) (t2 := 46) rfl rfl rfl (by decide) ?_
                                refine ev_ic f_X12_passes (nx := 75) (v := 0) rfl (by decide) rfl ?_
                                refine ev_retK1 f_X12_passes rfl rfl rfl ?_
                                refine ev_t f_X12_aShip (t1 := 140) (t2 := 142) rfl rfl rfl (by decide) ?_
                                refine ev_ic f_X12_aShip (nx := 141) (v := 0) rfl (by decide) rfl ?_
                                exact ev_ret f_X12_aShip rfl rfl rfl ⟨_, _, _, rfl, hI, hX, ⟨_, rfl, (by decide : (0:Int) ≤ (0:Int32).toInt), (Int.le_trans (by decide : (0:Int32).toInt ≤ (0:Int)) (by decide : (0:Int) ≤ 1)), (show (gi 69 14).toInt ≤ (g139 69 14).toInt ∧ (0 = 1 → (g139 69 12).toInt ≠ 0 → (gi 69 14).toInt < (g139 69 14).toInt) from (by have ff140 : (g139 69 14).toInt = (gi121 69 14).toInt := congrArg Int32.toInt ((by rw [e139]; exact x_up2_off (Or.inr (by decide)) : g139 69 14 = g137 69 14).trans ((by rw [e137]; exact x_up2_off (Or.inr (by decide)) : g137 69 14 = gi121 69 14).trans rfl)); have ff141 : (g139 69 12).toInt = (gi121 69 12).toInt := congrArg Int32.toInt ((by rw [e139]; exact x_up2_off (Or.inr (by decide)) : g139 69 12 = g137 69 12).trans ((by rw [e137]; exact x_up2_off (Or.inr (by decide)) : g137 69 12 = gi121 69 12).trans rfl)); omega))⟩⟩
                              · have r142 : (gi121 69 18).toInt ≠ 0 := fun e => h134 (Int32.toInt_inj.mp (e.trans (by decide : (0:Int) = (0 : Int32).toInt)))
                                refine ev_ic f_X12_fails (nx := 33) (v := 0) rfl (by decide) rfl ?_
                                refine ev_retK1 f_X12_fails rfl rfl rfl ?_
                                refine ev_retK1 f_X12_number rfl rfl rfl ?_
                                refine ev_t f_X12_passes (t1 := 74) (t2 := 46) rfl rfl rfl (by decide) ?_
                                refine ev_ic f_X12_passes (nx := 75) (v := 0) rfl (by decide) rfl ?_
                                refine ev_retK1 f_X12_passes rfl rfl rfl ?_
                                refine ev_t f_X12_aShip (t1 := 140) (t2 := 142) rfl rfl rfl (by decide) ?_
                                refine ev_ic f_X12_aShip (nx := 141) (v := 0) rfl (by decide) rfl ?_
                                exact ev_ret f_X12_aShip rfl rfl rfl ⟨_, _, _, rfl, hI, hX, ⟨_, rfl, (by decide : (0:Int) ≤ (0:Int32).toInt), (Int.le_trans (by decide : (0:Int32).toInt ≤ (0:Int)) (by decide : (0:Int) ≤ 1)), (show (gi 69 14).toInt ≤ (gi121 69 14).toInt ∧ (0 = 1 → (gi121 69 12).toInt ≠ 0 → (gi 69 14).toInt < (gi121 69 14).toInt) from (by omega))⟩⟩
                            · have l143 : 1 ≤ (gi121 69 15).toInt := t_lel (t_nlt h132) (by decide : (1:Int) ≤ (1:Int32).toInt)
                              refine ev_loc f_X12_number (nx := 23) rfl rfl rfl rfl ?_
                              refine ev_gvI f_X12_number (nx := 26) (w := (gi121 69 15)) rfl (hI.wf.s rfl) rfl rfl rfl rfl ?_
                              refine ev_loc f_X12_number (nx := 27) rfl rfl rfl rfl ?_
                              refine ev_if f_X12_number (t1 := 36) (t2 := 30) rfl rfl rfl (fun h144 => ?_) (fun h144 => ?_)
                              · have u145 : (gi121 69 15).toInt ≤ 20 := t_leu h144 (by decide : (20:Int32).toInt ≤ (20:Int))
                                refine ev_loc f_X12_number (nx := 37) rfl rfl rfl rfl ?_
                                refine ev_getR f_X12_number (nx := 40) rfl (hI.wf.s rfl) rfl rfl (hI.wf.r rfl) rfl rfl ?_
                                refine ev_loc f_X12_number (nx := 41) rfl rfl rfl rfl ?_
                                refine ev_loc f_X12_number (nx := 42) rfl rfl rfl rfl ?_
                                refine ev_gvI f_X12_number (nx := 45) (w := (gi121 69 15)) rfl (hI.wf.s rfl) rfl rfl rfl rfl ?_
                                refine ev_iastT f_X12_number (nx := 46) rfl (hI.wf.s rfl) l128 (by decide) u128 (by decide) rfl (hI.astA (x := (gi 70 1401)) (hI.wf.s rfl) (by decide +kernel : t_abwa 70 1454 5 0 5 1 20 = true) (by omega) (by omega) (by omega) l143 u145 rfl) (hX.upI (t_inR (p := 1454) (m := 1484) rfl l128 (by decide) u128 (by decide) (by decide))) (fun g146 e146 hI hX => ?_)
                                refine ev_loc f_X12_number (nx := 47) rfl rfl rfl rfl ?_
                                refine ev_qN f_X12_number (nx := 50) (r := []) rfl rfl rfl rfl rfl rfl rfl (c_m_ahead hI ) rfl hX rfl (fun gi147 gl147 gr147 hI hX hC147 q147 => ?_)
                                have ff148 : (g146 69 14).toInt = (gi121 69 14).toInt := congrArg Int32.toInt ((by rw [e146]; exact x_up2_off (Or.inl (by decide)) : g146 69 14 = gi121 69 14).trans rfl)
                                have q147 : (g146 69 14).toInt ≤ (gi147 69 14).toInt ∧ ((gi147 69 12).toInt ≠ 0 → (g146 69 14).toInt < (gi147 69 14).toInt) := q147
                                obtain ⟨l149, u149⟩ := hI.b (hI.wf.s (k := 69) rfl) (t_bdK rfl : t_bd 11 12 = some (0, 4))
                                obtain ⟨l150, u150⟩ := hI.b (hI.wf.s (k := 69) rfl) (t_bdK rfl : t_bd 11 14 = some (0, 900))
                                refine ev_ic f_X12_number (nx := 51) (v := 1) rfl (by decide) rfl ?_
                                refine ev_retK1 f_X12_number rfl rfl rfl ?_
                                refine ev_f f_X12_passes (t1 := 74) (t2 := 46) rfl rfl rfl (by decide) ?_
                                refine ev_loc f_X12_passes (nx := 47) rfl rfl rfl rfl ?_
                                refine ev_heap f_X12_passes (nx := 49) rfl rfl rfl rfl ?_
                                refine ev_bp f_X12_passes (nx := 51) (v := 11) rfl (by decide) rfl ?_
                                refine ev_qI f_X12_passes (nx := 54) (r := []) rfl rfl rfl rfl rfl rfl rfl (c_m_wantWord hI (11)) rfl hX rfl (fun w151 gi151 gl151 gr151 l151 u151 hI hX hC151 q151 => ?_)
                                have q151 : (gi147 69 14).toInt ≤ (gi151 69 14).toInt ∧ (w151.toInt = 1 → (gi151 69 12).toInt ≠ 0 → (gi147 69 14).toInt < (gi151 69 14).toInt) := q151
                                obtain ⟨l152, u152⟩ := hI.b (hI.wf.s (k := 69) rfl) (t_bdK rfl : t_bd 11 12 = some (0, 4))
                                obtain ⟨l153, u153⟩ := hI.b (hI.wf.s (k := 69) rfl) (t_bdK rfl : t_bd 11 14 = some (0, 900))
                                refine ev_if f_X12_passes (t1 := 74) (t2 := 57) rfl rfl rfl (fun h154 => ?_) (fun h154 => ?_)
                                · have u155 : w151.toInt ≤ 0 := t_equ h154 (by decide : (0:Int32).toInt ≤ (0:Int))
                                  refine ev_ic f_X12_passes (nx := 75) (v := 0) rfl (by decide) rfl ?_
                                  refine ev_retK1 f_X12_passes rfl rfl rfl ?_
                                  refine ev_t f_X12_aShip (t1 := 140) (t2 := 142) rfl rfl rfl (by decide) ?_
                                  refine ev_ic f_X12_aShip (nx := 141) (v := 0) rfl (by decide) rfl ?_
                                  exact ev_ret f_X12_aShip rfl rfl rfl ⟨_, _, _, rfl, hI, hX, ⟨_, rfl, (by decide : (0:Int) ≤ (0:Int32).toInt), (Int.le_trans (by decide : (0:Int32).toInt ≤ (0:Int)) (by decide : (0:Int) ≤ 1)), (show (gi 69 14).toInt ≤ (gi151 69 14).toInt ∧ (0 = 1 → (gi151 69 12).toInt ≠ 0 → (gi 69 14).toInt < (gi151 69 14).toInt) from (by omega))⟩⟩
                                · have r156 : w151.toInt ≠ 0 := fun e => h154 (Int32.toInt_inj.mp (e.trans (by decide : (0:Int) = (0 : Int32).toInt)))
                                  have l157 : 1 ≤ w151.toInt := t_nel h154 l151 rfl rfl
                                  refine ev_loc f_X12_passes (nx := 58) rfl rfl rfl rfl ?_
                                  refine ev_loc f_X12_passes (nx := 59) rfl rfl rfl rfl ?_
                                  refine ev_ic f_X12_passes (nx := 60) (v := 2) rfl (by decide) rfl ?_
                                  refine ev_addC f_X12_passes (nx := 61) (c := 2) (l := 1455) (u := 1485) rfl (by decide) l90 u90 rfl rfl (by decide) (by decide) rfl (fun z158 e158 l158 u158 => ?_)
                                  refine ev_ic f_X12_passes (nx := 62) (v := 0) rfl (by decide) rfl ?_
                                  refine ev_bp f_X12_passes (nx := 64) (v := 99) rfl (by decide) rfl ?_
                                  refine ev_inV4 f_X12_passes (nx := 67) (lo2 := [(0, .ref 69), (1, .int z158), (2, .int 0), (3, .int 99)]) rfl rfl rfl rfl f_X12_number (hI.wf.s rfl) rfl rfl rfl rfl rfl ?_
                                  refine ev_loc f_X12_number (nx := 1) rfl rfl rfl rfl ?_
                                  refine ev_gvI f_X12_number (nx := 4) (w := (gi151 69 12)) rfl (hI.wf.s rfl) rfl rfl rfl rfl ?_
                                  refine ev_ic f_X12_number (nx := 5) (v := 3) rfl (by decide) rfl ?_
                                  refine ev_if f_X12_number (t1 := 14) (t2 := 8) rfl rfl rfl (fun h159 => ?_) (fun h159 => ?_)
                                  · have u160 : (gi151 69 12).toInt ≤ 3 := t_equ h159 (by decide : (3:Int32).toInt ≤ (3:Int))
                                    have l161 : 3 ≤ (gi151 69 12).toInt := t_eql h159 (by decide : (3:Int) ≤ (3:Int32).toInt)
                                    refine ev_loc f_X12_number (nx := 15) rfl rfl rfl rfl ?_
                                    refine ev_getI f_X12_number (nx := 18) rfl (hI.wf.s rfl) rfl rfl rfl ?_
                                    refine ev_loc f_X12_number (nx := 19) rfl rfl rfl rfl ?_
                                    refine ev_if f_X12_number (t1 := 30) (t2 := 22) rfl rfl rfl (fun h162 => ?_) (fun h162 => ?_)
                                    · have u163 : (gi151 69 15).toInt ≤ (-1) := t_ltu h162 (by decide : (0:Int32).toInt ≤ (0:Int)) rfl
                                      refine ev_loc f_X12_number (nx := 31) rfl rfl rfl rfl ?_
                                      refine ev_ic f_X12_number (nx := 32) (v := 4) rfl (by decide) rfl ?_
                                      refine ev_inV2 f_X12_number (nx := 35) (lo2 := [(0, .ref 69), (1, .int 4)]) rfl rfl rfl rfl f_X12_fails (hI.wf.s rfl) rfl rfl rfl rfl rfl ?_
                                      refine ev_loc f_X12_fails (nx := 1) rfl rfl rfl rfl ?_
                                      refine ev_getI f_X12_fails (nx := 4) rfl (hI.wf.s rfl) rfl rfl rfl ?_
                                      refine ev_if f_X12_fails (t1 := 7) (t2 := 32) rfl rfl rfl (fun h164 => ?_) (fun h164 => ?_)
                                      · have u165 : (gi151 69 18).toInt ≤ 0 := t_equ h164 (by decide : (0:Int32).toInt ≤ (0:Int))
                                        have l166 : 0 ≤ (gi151 69 18).toInt := t_eql h164 (by decide : (0:Int) ≤ (0:Int32).toInt)
                                        refine ev_loc f_X12_fails (nx := 8) rfl rfl rfl rfl ?_
                                        refine ev_loc f_X12_fails (nx := 9) rfl rfl rfl rfl ?_
                                        refine ev_gvI f_X12_fails (nx := 12) (w := (gi151 69 12)) rfl (hI.wf.s rfl) rfl rfl rfl rfl ?_
                                        refine ev_ic f_X12_fails (nx := 13) (v := 1) rfl (by decide) rfl ?_
                                        refine ev_f f_X12_fails (t1 := 16) (t2 := 20) rfl rfl rfl (t_neT' (by decide : (1:Int32).toInt ≤ (1:Int)) l161 (by decide)) ?_
                                        refine ev_loc f_X12_fails (nx := 21) rfl rfl rfl rfl ?_
                                        refine ev_putIT f_X12_fails (nx := 24) rfl (hI.wf.s rfl) rfl rfl rfl (hI.put0 (hI.wf.s rfl) rfl rfl) (hX.upI rfl) (fun g167 e167 hI hX => ?_)
                                        refine ev_loc f_X12_fails (nx := 25) rfl rfl rfl rfl ?_
                                        refine ev_loc f_X12_fails (nx := 26) rfl rfl rfl rfl ?_
                                        refine ev_getI f_X12_fails (nx := 29) rfl (hI.wf.s rfl) rfl rfl rfl ?_
                                        obtain ⟨l168, u168⟩ := hI.b (hI.wf.s (k := 69) rfl) (t_bdK rfl : t_bd 11 13 = some (0, 900))
                                        refine ev_putIT f_X12_fails (nx := 32) rfl (hI.wf.s rfl) rfl rfl rfl (hI.put0 (hI.wf.s rfl) rfl rfl) (hX.upI rfl) (fun g169 e169 hI hX => ?_)
                                        refine ev_ic f_X12_fails (nx := 33) (v := 0) rfl (by decide) rfl ?_
                                        refine ev_retK1 f_X12_fails rfl rfl rfl ?_
                                        refine ev_retK1 f_X12_number rfl rfl rfl ?_
                                        refine ev_t f_X12_passes (t1 := 74) (t2 := 70) rfl rfl rfl (by decide) ?_
                                        refine ev_ic f_X12_passes (nx := 75) (v := 0) rfl (by decide) rfl ?_
                                        refine ev_retK1 f_X12_passes rfl rfl rfl ?_
                                        refine ev_t f_X12_aShip (t1 := 140) (t2 := 142) rfl rfl rfl (by decide) ?_
                                        refine ev_ic f_X12_aShip (nx := 141) (v := 0) rfl (by decide) rfl ?_
                                        exact ev_ret f_X12_aShip rfl rfl rfl ⟨_, _, _, rfl, hI, hX, ⟨_, rfl, (by decide : (0:Int) ≤ (0:Int32).toInt), (Int.le_trans (by decide : (0:Int32).toInt ≤ (0:Int)) (by decide : (0:Int) ≤ 1)), (show (gi 69 14).toInt ≤ (g169 69 14).toInt ∧ (0 = 1 → (g169 69 12).toInt ≠ 0 → (gi 69 14).toInt < (g169 69 14).toInt) from (by have ff170 : (g169 69 14).toInt = (gi151 69 14).toInt := congrArg Int32.toInt ((by rw [e169]; exact x_up2_off (Or.inr (by decide)) : g169 69 14 = g167 69 14).trans ((by rw [e167]; exact x_up2_off (Or.inr (by decide)) : g167 69 14 = gi151 69 14).trans rfl)); have ff171 : (g169 69 12).toInt = (gi151 69 12).toInt := congrArg Int32.toInt ((by rw [e169]; exact x_up2_off (Or.inr (by decide)) : g169 69 12 = g167 69 12).trans ((by rw [e167]; exact x_up2_off (Or.inr (by decide)) : g167 69 12 = gi151 69 12).trans rfl)); omega))⟩⟩
                                      · have r172 : (gi151 69 18).toInt ≠ 0 := fun e => h164 (Int32.toInt_inj.mp (e.trans (by decide : (0:Int) = (0 : Int32).toInt)))
                                        refine ev_ic f_X12_fails (nx := 33) (v := 0) rfl (by decide) rfl ?_
                                        refine ev_retK1 f_X12_fails rfl rfl rfl ?_
                                        refine ev_retK1 f_X12_number rfl rfl rfl ?_
                                        refine ev_t f_X12_passes (t1 := 74) (t2 := 70) rfl rfl rfl (by decide) ?_
                                        refine ev_ic f_X12_passes (nx := 75) (v := 0) rfl (by decide) rfl ?_
                                        refine ev_retK1 f_X12_passes rfl rfl rfl ?_
                                        refine ev_t f_X12_aShip (t1 := 140) (t2 := 142) rfl rfl rfl (by decide) ?_
                                        refine ev_ic f_X12_aShip (nx := 141) (v := 0) rfl (by decide) rfl ?_
                                        exact ev_ret f_X12_aShip rfl rfl rfl ⟨_, _, _, rfl, hI, hX, ⟨_, rfl, (by decide : (0:Int) ≤ (0:Int32).toInt), (Int.le_trans (by decide : (0:Int32).toInt ≤ (0:Int)) (by decide : (0:Int) ≤ 1)), (show (gi 69 14).toInt ≤ (gi151 69 14).toInt ∧ (0 = 1 → (gi151 69 12).toInt ≠ 0 → (gi 69 14).toInt < (gi151 69 14).toInt) from (by omega))⟩⟩
                                    · have l173 : 0 ≤ (gi151 69 15).toInt := t_lel (t_nlt h162) (by decide : (0:Int) ≤ (0:Int32).toInt)
                                      refine ev_loc f_X12_number (nx := 23) rfl rfl rfl rfl ?_
                                      refine ev_gvI f_X12_number (nx := 26) (w := (gi151 69 15)) rfl (hI.wf.s rfl) rfl rfl rfl rfl ?_
                                      refine ev_loc f_X12_number (nx := 27) rfl rfl rfl rfl ?_
                                      refine ev_if f_X12_number (t1 := 36) (t2 := 30) rfl rfl rfl (fun h174 => ?_) (fun h174 => ?_)
                                      · have u175 : (gi151 69 15).toInt ≤ 99 := t_leu h174 (by decide : (99:Int32).toInt ≤ (99:Int))
                                        refine ev_loc f_X12_number (nx := 37) rfl rfl rfl rfl ?_
                                        refine ev_getR f_X12_number (nx := 40) rfl (hI.wf.s rfl) rfl rfl (hI.wf.r rfl) rfl rfl ?_
                                        refine ev_loc f_X12_number (nx := 41) rfl rfl rfl rfl ?_
                                        refine ev_loc f_X12_number (nx := 42) rfl rfl rfl rfl ?_
                                        refine ev_gvI f_X12_number (nx := 45) (w := (gi151 69 15)) rfl (hI.wf.s rfl) rfl rfl rfl rfl ?_
                                        refine ev_iastT f_X12_number (nx := 46) rfl (hI.wf.s rfl) l158 (by decide) u158 (by decide) rfl (hI.astA (x := (gi 70 1401)) (hI.wf.s rfl) (by decide +kernel : t_abwa 70 1455 5 0 5 0 99 = true) (by omega) (by omega) (by omega) l173 u175 rfl) (hX.upI (t_inR (p := 1455) (m := 1485) rfl l158 (by decide) u158 (by decide) (by decide))) (fun g176 e176 hI hX => ?_)
                                        refine ev_loc f_X12_number (nx := 47) rfl rfl rfl rfl ?_
                                        refine ev_qN f_X12_number (nx := 50) (r := []) rfl rfl rfl rfl rfl rfl rfl (c_m_ahead hI ) rfl hX rfl (fun gi177 gl177 gr177 hI hX hC177 q177 => ?_)
                                        have ff178 : (g176 69 14).toInt = (gi151 69 14).toInt := congrArg Int32.toInt ((by rw [e176]; exact x_up2_off (Or.inl (by decide)) : g176 69 14 = gi151 69 14).trans rfl)
                                        have q177 : (g176 69 14).toInt ≤ (gi177 69 14).toInt ∧ ((gi177 69 12).toInt ≠ 0 → (g176 69 14).toInt < (gi177 69 14).toInt) := q177
                                        obtain ⟨l179, u179⟩ := hI.b (hI.wf.s (k := 69) rfl) (t_bdK rfl : t_bd 11 12 = some (0, 4))
                                        obtain ⟨l180, u180⟩ := hI.b (hI.wf.s (k := 69) rfl) (t_bdK rfl : t_bd 11 14 = some (0, 900))
                                        refine ev_ic f_X12_number (nx := 51) (v := 1) rfl (by decide) rfl ?_
                                        refine ev_retK1 f_X12_number rfl rfl rfl ?_
                                        refine ev_f f_X12_passes (t1 := 74) (t2 := 70) rfl rfl rfl (by decide) ?_
                                        refine ev_ic f_X12_passes (nx := 71) (v := 1) rfl (by decide) rfl ?_
                                        refine ev_jmp f_X12_passes (nx := 75) rfl rfl rfl ?_
                                        refine ev_retK1 f_X12_passes rfl rfl rfl ?_
                                        refine ev_f f_X12_aShip (t1 := 140) (t2 := 142) rfl rfl rfl (by decide) ?_
                                        refine ev_loc f_X12_aShip (nx := 143) rfl rfl rfl rfl ?_
                                        refine ev_heap f_X12_aShip (nx := 145) rfl rfl rfl rfl ?_
                                        refine ev_qI f_X12_aShip (nx := 148) (r := []) rfl rfl rfl rfl rfl rfl rfl (c_m_inWords hI ) rfl hX rfl (fun w181 gi181 gl181 gr181 l181 u181 hI hX hC181 q181 => ?_)
                                        have q181 : 0 ≤ w181.toInt → (gi177 69 12).toInt = 2 := q181
                                        refine ev_bp f_X12_aShip (nx := 150) (v := 12) rfl (by decide) rfl ?_
                                        refine ev_if f_X12_aShip (t1 := 153) (t2 := 166) rfl rfl rfl (fun h182 => ?_) (fun h182 => ?_)
                                        · have u183 : w181.toInt ≤ 12 := t_equ h182 (by decide : (12:Int32).toInt ≤ (12:Int))
                                          have l184 : 12 ≤ w181.toInt := t_eql h182 (by decide : (12:Int) ≤ (12:Int32).toInt)
                                          refine ev_loc f_X12_aShip (nx := 154) rfl rfl rfl rfl ?_
                                          refine ev_getR f_X12_aShip (nx := 157) rfl (hI.wf.s rfl) rfl rfl (hI.wf.r rfl) rfl rfl ?_
                                          refine ev_loc f_X12_aShip (nx := 158) rfl rfl rfl rfl ?_
                                          refine ev_ic f_X12_aShip (nx := 159) (v := 4) rfl (by decide) rfl ?_
                                          refine ev_addC f_X12_aShip (nx := 160) (c := 4) (l := 1456) (u := 1486) rfl (by decide) l5 u5 rfl rfl (by decide) (by decide) rfl (fun z185 e185 l185 u185 => ?_)
                                          refine ev_ic f_X12_aShip (nx := 161) (v := 1) rfl (by decide) rfl ?_
                                          refine ev_iastT f_X12_aShip (nx := 162) rfl (hI.wf.s rfl) l185 (by decide) u185 (by decide) rfl (hI.astA (x := (gi 70 1401)) (hI.wf.s rfl) (by decide +kernel : t_abwa 70 1456 5 0 5 1 1 = true) (by omega) (by omega) (by omega) (by decide : (1:Int) ≤ (1:Int32).toInt) (by decide : (1:Int32).toInt ≤ (1:Int)) rfl) (hX.upI (t_inR (p := 1456) (m := 1486) rfl l185 (by decide) u185 (by decide) (by decide))) (fun g186 e186 hI hX => ?_)
                                          refine ev_loc f_X12_aShip (nx := 163) rfl rfl rfl rfl ?_
                                          refine ev_qN f_X12_aShip (nx := 166) (r := []) rfl rfl rfl rfl rfl rfl rfl (c_m_ahead hI ) rfl hX rfl (fun gi187 gl187 gr187 hI hX hC187 q187 => ?_)
                                          have ff188 : (g186 69 14).toInt = (gi177 69 14).toInt := congrArg Int32.toInt ((by rw [e186]; exact x_up2_off (Or.inl (by decide)) : g186 69 14 = gi181 69 14).trans ((hC181.1 69 14 rfl).1.trans rfl))
                                          have q187 : (g186 69 14).toInt ≤ (gi187 69 14).toInt ∧ ((gi187 69 12).toInt ≠ 0 → (g186 69 14).toInt < (gi187 69 14).toInt) := q187
                                          obtain ⟨l189, u189⟩ := hI.b (hI.wf.s (k := 69) rfl) (t_bdK rfl : t_bd 11 12 = some (0, 4))
                                          obtain ⟨l190, u190⟩ := hI.b (hI.wf.s (k := 69) rfl) (t_bdK rfl : t_bd 11 14 = some (0, 900))
                                          refine ev_loc f_X12_aShip (nx := 167) rfl rfl rfl rfl ?_
                                          refine ev_getR f_X12_aShip (nx := 170) rfl (hI.wf.s rfl) rfl rfl (hI.wf.r rfl) rfl rfl ?_
                                          refine ev_sp f_X12_aShip (nx := 173) (v := 1401) rfl (by decide) rfl ?_
                                          refine ev_alu f_X12_aShip (nx := 174) rfl rfl rfl rfl ?_
                                          refine ev_ialdv f_X12_aShip (nx := 175) (w := (gi 70 1401)) rfl (hI.wf.s rfl) (by decide) (rfl : (1401 : Int32).toNatClampNeg = 1401) (by decide) ((hC187.1 70 1401 rfl).1.trans ((by rw [e186]; exact x_up2_off (Or.inr (t_neCl l185 (by decide))) : g186 70 1401 = gi181 70 1401).trans ((hC181.1 70 1401 rfl).1.trans ((hC177.1 70 1401 rfl).1.trans ((by rw [e176]; exact x_up2_off (Or.inr (t_neCl l158 (by decide))) : g176 70 1401 = gi151 70 1401).trans ((hC151.1 70 1401 rfl).1.trans ((hC147.1 70 1401 rfl).1.trans ((by rw [e146]; exact x_up2_off (Or.inr (t_neCl l128 (by decide))) : g146 70 1401 = gi121 70 1401).trans ((hC121.1 70 1401 rfl).1.trans ((hC117.1 70 1401 rfl).1.trans ((by rw [e116]; exact x_up2_off (Or.inr (t_neCl l90 (by decide))) : g116 70 1401 = gi91 70 1401).trans ((hC91.1 70 1401 rfl).1.trans ((by rw [e89]; exact x_up2_off (Or.inr (t_neCl l88 (by decide))) : g89 70 1401 = gi84 70 1401).trans ((hC84.1 70 1401 rfl).1.trans ((by rw [e68]; exact x_up2_off (Or.inr (t_neCl l5 (by decide))) : g68 70 1401 = gi67 70 1401).trans ((hC67.1 70 1401 rfl).1.trans ((hC62.1 70 1401 rfl).1.trans ((hC38.1 70 1401 rfl).1.trans ((hC31.1 70 1401 rfl).1.trans rfl))))))))))))))))))) rfl ?_
                                          refine ev_ic f_X12_aShip (nx := 176) (v := 1) rfl (by decide) rfl ?_
                                          refine ev_addC f_X12_aShip (nx := 177) (c := 1) (l := 1) (u := 6) rfl (by decide) l3 u28 rfl rfl (by decide) (by decide) rfl (fun z192 e192 l192 u192 => ?_)
                                          refine ev_iastT f_X12_aShip (nx := 178) rfl (hI.wf.s rfl) (by decide : (1401:Int) ≤ (1401:Int32).toInt) (by decide) (by decide : (1401:Int32).toInt ≤ (1401:Int)) (by decide) rfl (hI.astL (hI.wf.s rfl) (by decide +kernel : t_abw 70 1401 1401 1 6 = true) (t_cl1 (by decide : (1401:Int) ≤ (1401:Int32).toInt) (by decide)) (t_cl2 (by decide : (1401:Int) ≤ (1401:Int32).toInt) (by decide : (1401:Int32).toInt ≤ (1401:Int)) (by decide) (by decide)) l192 u192 rfl) (hX.upI (t_inR (p := 1401) (m := 1401) rfl (by decide : (1401:Int) ≤ (1401:Int32).toInt) (by decide) (by decide : (1401:Int32).toInt ≤ (1401:Int)) (by decide) (by decide))) (fun g193 e193 hI hX => ?_)
                                          refine ev_ic f_X12_aShip (nx := 179) (v := 1) rfl (by decide) rfl ?_
                                          exact ev_ret f_X12_aShip rfl rfl rfl ⟨_, _, _, rfl, hI, hX, ⟨_, rfl, (Int.le_trans (by decide : (0:Int) ≤ 1) (by decide : (1:Int) ≤ (1:Int32).toInt)), (by decide : (1:Int32).toInt ≤ (1:Int)), (show (gi 69 14).toInt ≤ (g193 69 14).toInt ∧ (1 = 1 → (g193 69 12).toInt ≠ 0 → (gi 69 14).toInt < (g193 69 14).toInt) from (by have ff194 : (g193 69 14).toInt = (gi187 69 14).toInt := congrArg Int32.toInt ((by rw [e193]; exact x_up2_off (Or.inl (by decide)) : g193 69 14 = gi187 69 14).trans rfl); have ff195 : (g193 69 12).toInt = (gi187 69 12).toInt := congrArg Int32.toInt ((by rw [e193]; exact x_up2_off (Or.inl (by decide)) : g193 69 12 = gi187 69 12).trans rfl); omega))⟩⟩
                                        · have r196 : w181.toInt ≠ 12 := fun e => h182 (Int32.toInt_inj.mp (e.trans (by decide : (12:Int) = (12 : Int32).toInt)))
                                          refine ev_loc f_X12_aShip (nx := 167) rfl rfl rfl rfl ?_
                                          refine ev_getR f_X12_aShip (nx := 170) rfl (hI.wf.s rfl) rfl rfl (hI.wf.r rfl) rfl rfl ?_
                                          refine ev_sp f_X12_aShip (nx := 173) (v := 1401) rfl (by decide) rfl ?_
                                          refine ev_alu f_X12_aShip (nx := 174) rfl rfl rfl rfl ?_
                                          refine ev_ialdv f_X12_aShip (nx := 175) (w := (gi 70 1401)) rfl (hI.wf.s rfl) (by decide) (rfl : (1401 : Int32).toNatClampNeg = 1401) (by decide) ((hC181.1 70 1401 rfl).1.trans ((hC177.1 70 1401 rfl).1.trans ((by rw [e176]; exact x_up2_off (Or.inr (t_neCl l158 (by decide))) : g176 70 1401 = gi151 70 1401).trans ((hC151.1 70 1401 rfl).1.trans ((hC147.1 70 1401 rfl).1.trans ((by rw [e146]; exact x_up2_off (Or.inr (t_neCl l128 (by decide))) : g146 70 1401 = gi121 70 1401).trans ((hC121.1 70 1401 rfl).1.trans ((hC117.1 70 1401 rfl).1.trans ((by rw [e116]; exact x_up2_off (Or.inr (t_neCl l90 (by decide))) : g116 70 1401 = gi91 70 1401).trans ((hC91.1 70 1401 rfl).1.trans ((by rw [e89]; exact x_up2_off (Or.inr (t_neCl l88 (by decide))) : g89 70 1401 = gi84 70 1401).trans ((hC84.1 70 1401 rfl).1.trans ((by rw [e68]; exact x_up2_off (Or.inr (t_neCl l5 (by decide))) : g68 70 1401 = gi67 70 1401).trans ((hC67.1 70 1401 rfl).1.trans ((hC62.1 70 1401 rfl).1.trans ((hC38.1 70 1401 rfl).1.trans ((hC31.1 70 1401 rfl).1.trans rfl))))))))))))))))) rfl ?_
                                          refine ev_ic f_X12_aShip (nx := 176) (v := 1) rfl (by decide) rfl ?_
                                          refine ev_addC f_X12_aShip (nx := 177) (c := 1) (l := 1) (u := 6) rfl (by decide) l3 u28 rfl rfl (by decide) (by decide) rfl (fun z198 e198 l198 u198 => ?_)
                                          refine ev_iastT f_X12_aShip (nx := 178) rfl (hI.wf.s rfl) (by decide : (1401:Int) ≤ (1401:Int32).toInt) (by decide) (by decide : (1401:Int32).toInt ≤ (1401:Int)) (by decide) rfl (hI.astL (hI.wf.s rfl) (by decide +kernel : t_abw 70 1401 1401 1 6 = true) (t_cl1 (by decide : (1401:Int) ≤ (1401:Int32).toInt) (by decide)) (t_cl2 (by decide : (1401:Int) ≤ (1401:Int32).toInt) (by decide : (1401:Int32).toInt ≤ (1401:Int)) (by decide) (by decide)) l198 u198 rfl) (hX.upI (t_inR (p := 1401) (m := 1401) rfl (by decide : (1401:Int) ≤ (1401:Int32).toInt) (by decide) (by decide : (1401:Int32).toInt ≤ (1401:Int)) (by decide) (by decide))) (fun g199 e199 hI hX => ?_)
                                          refine ev_ic f_X12_aShip (nx := 179) (v := 1) rfl (by decide) rfl ?_
                                          exact ev_ret f_X12_aShip rfl rfl rfl ⟨_, _, _, rfl, hI, hX, ⟨_, rfl, (Int.le_trans (by decide : (0:Int) ≤ 1) (by decide : (1:Int) ≤ (1:Int32).toInt)), (by decide : (1:Int32).toInt ≤ (1:Int)), (show (gi 69 14).toInt ≤ (g199 69 14).toInt ∧ (1 = 1 → (g199 69 12).toInt ≠ 0 → (gi 69 14).toInt < (g199 69 14).toInt) from (by have ff200 : (g199 69 14).toInt = (gi177 69 14).toInt := congrArg Int32.toInt ((by rw [e199]; exact x_up2_off (Or.inl (by decide)) : g199 69 14 = gi181 69 14).trans ((hC181.1 69 14 rfl).1.trans rfl)); have ff201 : (g199 69 12).toInt = (gi177 69 12).toInt := congrArg Int32.toInt ((by rw [e199]; exact x_up2_off (Or.inl (by decide)) : g199 69 12 = gi181 69 12).trans ((hC181.1 69 12 rfl).1.trans rfl)); omega))⟩⟩
                                      · have l202 : 100 ≤ (gi151 69 15).toInt := t_ltl (t_nle h174) (by decide : (99:Int) ≤ (99:Int32).toInt) rfl
                                        refine ev_loc f_X12_number (nx := 31) rfl rfl rfl rfl ?_
                                        refine ev_ic f_X12_number (nx := 32) (v := 4) rfl (by decide) rfl ?_
                                        refine ev_inV2 f_X12_number (nx := 35) (lo2 := [(0, .ref 69), (1, .int 4)]) rfl rfl rfl rfl f_X12_fails (hI.wf.s rfl) rfl rfl rfl rfl rfl ?_
                                        refine ev_loc f_X12_fails (nx := 1) rfl rfl rfl rfl ?_
                                        refine ev_getI f_X12_fails (nx := 4) rfl (hI.wf.s rfl) rfl rfl rfl ?_
                                        refine ev_if f_X12_fails (t1 := 7) (t2 := 32) rfl rfl rfl (fun h203 => ?_) (fun h203 => ?_)
                                        · have u204 : (gi151 69 18).toInt ≤ 0 := t_equ h203 (by decide : (0:Int32).toInt ≤ (0:Int))
                                          have l205 : 0 ≤ (gi151 69 18).toInt := t_eql h203 (by decide : (0:Int) ≤ (0:Int32).toInt)
                                          refine ev_loc f_X12_fails (nx := 8) rfl rfl rfl rfl ?_
                                          refine ev_loc f_X12_fails (nx := 9) rfl rfl rfl rfl ?_
                                          refine ev_gvI f_X12_fails (nx := 12) (w := (gi151 69 12)) rfl (hI.wf.s rfl) rfl rfl rfl rfl ?_
                                          refine ev_ic f_X12_fails (nx := 13) (v := 1) rfl (by decide) rfl ?_
                                          refine ev_f f_X12_fails (t1 := 16) (t2 := 20) rfl rfl rfl (t_neT' (by decide : (1:Int32).toInt ≤ (1:Int)) l161 (by decide)) ?_
                                          refine ev_loc f_X12_fails (nx := 21) rfl rfl rfl rfl ?_
                                          refine ev_putIT f_X12_fails (nx := 24) rfl (hI.wf.s rfl) rfl rfl rfl (hI.put0 (hI.wf.s rfl) rfl rfl) (hX.upI rfl) (fun g206 e206 hI hX => ?_)
                                          refine ev_loc f_X12_fails (nx := 25) rfl rfl rfl rfl ?_
                                          refine ev_loc f_X12_fails (nx := 26) rfl rfl rfl rfl ?_
                                          refine ev_getI f_X12_fails (nx := 29) rfl (hI.wf.s rfl) rfl rfl rfl ?_
                                          obtain ⟨l207, u207⟩ := hI.b (hI.wf.s (k := 69) rfl) (t_bdK rfl : t_bd 11 13 = some (0, 900))
                                          refine ev_putIT f_X12_fails (nx := 32) rfl (hI.wf.s rfl) rfl rfl rfl (hI.put0 (hI.wf.s rfl) rfl rfl) (hX.upI rfl) (fun g208 e208 hI hX => ?_)
                                          refine ev_ic f_X12_fails (nx := 33) (v := 0) rfl (by decide) rfl ?_
                                          refine ev_retK1 f_X12_fails rfl rfl rfl ?_
                                          refine ev_retK1 f_X12_number rfl rfl rfl ?_
                                          refine ev_t f_X12_passes (t1 := 74) (t2 := 70) rfl rfl rfl (by decide) ?_
                                          refine ev_ic f_X12_passes (nx := 75) (v := 0) rfl (by decide) rfl ?_
                                          refine ev_retK1 f_X12_passes rfl rfl rfl ?_
                                          refine ev_t f_X12_aShip (t1 := 140) (t2 := 142) rfl rfl rfl (by decide) ?_
                                          refine ev_ic f_X12_aShip (nx := 141) (v := 0) rfl (by decide) rfl ?_
                                          exact ev_ret f_X12_aShip rfl rfl rfl ⟨_, _, _, rfl, hI, hX, ⟨_, rfl, (by decide : (0:Int) ≤ (0:Int32).toInt), (Int.le_trans (by decide : (0:Int32).toInt ≤ (0:Int)) (by decide : (0:Int) ≤ 1)), (show (gi 69 14).toInt ≤ (g208 69 14).toInt ∧ (0 = 1 → (g208 69 12).toInt ≠ 0 → (gi 69 14).toInt < (g208 69 14).toInt) from (by have ff209 : (g208 69 14).toInt = (gi151 69 14).toInt := congrArg Int32.toInt ((by rw [e208]; exact x_up2_off (Or.inr (by decide)) : g208 69 14 = g206 69 14).trans ((by rw [e206]; exact x_up2_off (Or.inr (by decide)) : g206 69 14 = gi151 69 14).trans rfl)); have ff210 : (g208 69 12).toInt = (gi151 69 12).toInt := congrArg Int32.toInt ((by rw [e208]; exact x_up2_off (Or.inr (by decide)) : g208 69 12 = g206 69 12).trans ((by rw [e206]; exact x_up2_off (Or.inr (by decide)) : g206 69 12 = gi151 69 12).trans rfl)); omega))⟩⟩
                                        · have r211 : (gi151 69 18).toInt ≠ 0 := fun e => h203 (Int32.toInt_inj.mp (e.trans (by decide : (0:Int) = (0 : Int32).toInt)))
                                          refine ev_ic f_X12_fails (nx := 33) (v := 0) rfl (by decide) rfl ?_
                                          refine ev_retK1 f_X12_fails rfl rfl rfl ?_
                                          refine ev_retK1 f_X12_number rfl rfl rfl ?_
                                          refine ev_t f_X12_passes (t1 := 74) (t2 := 70) rfl rfl rfl (by decide) ?_
                                          refine ev_ic f_X12_passes (nx := 75) (v := 0) rfl (by decide) rfl ?_
                                          refine ev_retK1 f_X12_passes rfl rfl rfl ?_
                                          refine ev_t f_X12_aShip (t1 := 140) (t2 := 142) rfl rfl rfl (by decide) ?_
                                          refine ev_ic f_X12_aShip (nx := 141) (v := 0) rfl (by decide) rfl ?_
                                          exact ev_ret f_X12_aShip rfl rfl rfl ⟨_, _, _, rfl, hI, hX, ⟨_, rfl, (by decide : (0:Int) ≤ (0:Int32).toInt), (Int.le_trans (by decide : (0:Int32).toInt ≤ (0:Int)) (by decide : (0:Int) ≤ 1)), (show (gi 69 14).toInt ≤ (gi151 69 14).toInt ∧ (0 = 1 → (gi151 69 12).toInt ≠ 0 → (gi 69 14).toInt < (gi151 69 14).toInt) from (by omega))⟩⟩
                                  · have r212 : (gi151 69 12).toInt ≠ 3 := fun e => h159 (Int32.toInt_inj.mp (e.trans (by decide : (3:Int) = (3 : Int32).toInt)))
                                    refine ev_loc f_X12_number (nx := 9) rfl rfl rfl rfl ?_
                                    refine ev_ic f_X12_number (nx := 10) (v := 2) rfl (by decide) rfl ?_
                                    refine ev_inV2 f_X12_number (nx := 13) (lo2 := [(0, .ref 69), (1, .int 2)]) rfl rfl rfl rfl f_X12_fails (hI.wf.s rfl) rfl rfl rfl rfl rfl ?_
                                    refine ev_loc f_X12_fails (nx := 1) rfl rfl rfl rfl ?_
                                    refine ev_getI f_X12_fails (nx := 4) rfl (hI.wf.s rfl) rfl rfl rfl ?_
                                    refine ev_if f_X12_fails (t1 := 7) (t2 := 32) rfl rfl rfl (fun h213 => ?_) (fun h213 => ?_)
                                    · have u214 : (gi151 69 18).toInt ≤ 0 := t_equ h213 (by decide : (0:Int32).toInt ≤ (0:Int))
                                      have l215 : 0 ≤ (gi151 69 18).toInt := t_eql h213 (by decide : (0:Int) ≤ (0:Int32).toInt)
                                      refine ev_loc f_X12_fails (nx := 8) rfl rfl rfl rfl ?_
                                      refine ev_loc f_X12_fails (nx := 9) rfl rfl rfl rfl ?_
                                      refine ev_gvI f_X12_fails (nx := 12) (w := (gi151 69 12)) rfl (hI.wf.s rfl) rfl rfl rfl rfl ?_
                                      refine ev_ic f_X12_fails (nx := 13) (v := 1) rfl (by decide) rfl ?_
                                      refine ev_if f_X12_fails (t1 := 16) (t2 := 20) rfl rfl rfl (fun h216 => ?_) (fun h216 => ?_)
                                      · have u217 : (gi151 69 12).toInt ≤ 1 := t_equ h216 (by decide : (1:Int32).toInt ≤ (1:Int))
                                        have l218 : 1 ≤ (gi151 69 12).toInt := t_eql h216 (by decide : (1:Int) ≤ (1:Int32).toInt)
                                        refine ev_ic f_X12_fails (nx := 17) (v := 1) rfl (by decide) rfl ?_
                                        refine ev_jmp f_X12_fails (nx := 21) rfl rfl rfl ?_
                                        refine ev_putIT f_X12_fails (nx := 24) rfl (hI.wf.s rfl) rfl rfl rfl (hI.put0 (hI.wf.s rfl) rfl rfl) (hX.upI rfl) (fun g219 e219 hI hX => ?_)
                                        refine ev_loc f_X12_fails (nx := 25) rfl rfl rfl rfl ?_
                                        refine ev_loc f_X12_fails (nx := 26) rfl rfl rfl rfl ?_
                                        refine ev_getI f_X12_fails (nx := 29) rfl (hI.wf.s rfl) rfl rfl rfl ?_
                                        obtain ⟨l220, u220⟩ := hI.b (hI.wf.s (k := 69) rfl) (t_bdK rfl : t_bd 11 13 = some (0, 900))
                                        refine ev_putIT f_X12_fails (nx := 32) rfl (hI.wf.s rfl) rfl rfl rfl (hI.put0 (hI.wf.s rfl) rfl rfl) (hX.upI rfl) (fun g221 e221 hI hX => ?_)
                                        refine ev_ic f_X12_fails (nx := 33) (v := 0) rfl (by decide) rfl ?_
                                        refine ev_retK1 f_X12_fails rfl rfl rfl ?_
                                        refine ev_retK1 f_X12_number rfl rfl rfl ?_
                                        refine ev_t f_X12_passes (t1 := 74) (t2 := 70) rfl rfl rfl (by decide) ?_
                                        refine ev_ic f_X12_passes (nx := 75) (v := 0) rfl (by decide) rfl ?_
                                        refine ev_retK1 f_X12_passes rfl rfl rfl ?_
                                        refine ev_t f_X12_aShip (t1 := 140) (t2 := 142) rfl rfl rfl (by decide) ?_
                                        refine ev_ic f_X12_aShip (nx := 141) (v := 0) rfl (by decide) rfl ?_
                                        exact ev_ret f_X12_aShip rfl rfl rfl ⟨_, _, _, rfl, hI, hX, ⟨_, rfl, (by decide : (0:Int) ≤ (0:Int32).toInt), (Int.le_trans (by decide : (0:Int32).toInt ≤ (0:Int)) (by decide : (0:Int) ≤ 1)), (show (gi 69 14).toInt ≤ (g221 69 14).toInt ∧ (0 = 1 → (g221 69 12).toInt ≠ 0 → (gi 69 14).toInt < (g221 69 14).toInt) from (by have ff222 : (g221 69 14).toInt = (gi151 69 14).toInt := congrArg Int32.toInt ((by rw [e221]; exact x_up2_off (Or.inr (by decide)) : g221 69 14 = g219 69 14).trans ((by rw [e219]; exact x_up2_off (Or.inr (by decide)) : g219 69 14 = gi151 69 14).trans rfl)); have ff223 : (g221 69 12).toInt = (gi151 69 12).toInt := congrArg Int32.toInt ((by rw [e221]; exact x_up2_off (Or.inr (by decide)) : g221 69 12 = g219 69 12).trans ((by rw [e219]; exact x_up2_off (Or.inr (by decide)) : g219 69 12 = gi151 69 12).trans rfl)); omega))⟩⟩
                                      · have r224 : (gi151 69 12).toInt ≠ 1 := fun e => h216 (Int32.toInt_inj.mp (e.trans (by decide : (1:Int) = (1 : Int32).toInt)))
                                        refine ev_loc f_X12_fails (nx := 21) rfl rfl rfl rfl ?_
                                        refine ev_putIT f_X12_fails (nx := 24) rfl (hI.wf.s rfl) rfl rfl rfl (hI.put0 (hI.wf.s rfl) rfl rfl) (hX.upI rfl) (fun g225 e225 hI hX => ?_)
                                        refine ev_loc f_X12_fails (nx := 25) rfl rfl rfl rfl ?_
                                        refine ev_loc f_X12_fails (nx := 26) rfl rfl rfl rfl ?_
                                        refine ev_getI f_X12_fails (nx := 29) rfl (hI.wf.s rfl) rfl rfl rfl ?_
                                        obtain ⟨l226, u226⟩ := hI.b (hI.wf.s (k := 69) rfl) (t_bdK rfl : t_bd 11 13 = some (0, 900))
                                        refine ev_putIT f_X12_fails (nx := 32) rfl (hI.wf.s rfl) rfl rfl rfl (hI.put0 (hI.wf.s rfl) rfl rfl) (hX.upI rfl) (fun g227 e227 hI hX => ?_)
                                        refine ev_ic f_X12_fails (nx := 33) (v := 0) rfl (by decide) rfl ?_
                                        refine ev_retK1 f_X12_fails rfl rfl rfl ?_
                                        refine ev_retK1 f_X12_number rfl rfl rfl ?_
                                        refine ev_t f_X12_passes (t1 := 74) (t2 := 70) rfl rfl rfl (by decide) ?_
                                        refine ev_ic f_X12_passes (nx := 75) (v := 0) rfl (by decide) rfl ?_
                                        refine ev_retK1 f_X12_passes rfl rfl rfl ?_
                                        refine ev_t f_X12_aShip (t1 := 140) (t2 := 142) rfl rfl rfl (by decide) ?_
                                        refine ev_ic f_X12_aShip (nx := 141) (v := 0) rfl (by decide) rfl ?_
                                        exact ev_ret f_X12_aShip rfl rfl rfl ⟨_, _, _, rfl, hI, hX, ⟨_, rfl, (by decide : (0:Int) ≤ (0:Int32).toInt), (Int.le_trans (by decide : (0:Int32).toInt ≤ (0:Int)) (by decide : (0:Int) ≤ 1)), (show (gi 69 14).toInt ≤ (g227 69 14).toInt ∧ (0 = 1 → (g227 69 12).toInt ≠ 0 → (gi 69 14).toInt < (g227 69 14).toInt) from (by have ff228 : (g227 69 14).toInt = (gi151 69 14).toInt := congrArg Int32.toInt ((by rw [e227]; exact x_up2_off (Or.inr (by decide)) : g227 69 14 = g225 69 14).trans ((by rw [e225]; exact x_up2_off (Or.inr (by decide)) : g225 69 14 = gi151 69 14).trans rfl)); have ff229 : (g227 69 12).toInt = (gi151 69 12).toInt := congrArg Int32.toInt ((by rw [e227]; exact x_up2_off (Or.inr (by decide)) : g227 69 12 = g225 69 12).trans ((by rw [e225]; exact x_up2_off (Or.inr (by decide)) : g225 69 12 = gi151 69 12).trans rfl)); omega))⟩⟩
                                    · have r230 : (gi151 69 18).toInt ≠ 0 := fun e => h213 (Int32.toInt_inj.mp (e.trans (by decide : (0:Int) = (0 : Int32).toInt)))
                                      refine ev_ic f_X12_fails (nx := 33) (v := 0) rfl (by decide) rfl ?_
                                      refine ev_retK1 f_X12_fails rfl rfl rfl ?_
                                      refine ev_retK1 f_X12_number rfl rfl rfl ?_
                                      refine ev_t f_X12_passes (t1 := 74) (t2 := 70) rfl rfl rfl (by decide) ?_
                                      refine ev_ic f_X12_passes (nx := 75) (v := 0) rfl (by decide) rfl ?_
                                      refine ev_retK1 f_X12_passes rfl rfl rfl ?_
                                      refine ev_t f_X12_aShip (t1 := 140) (t2 := 142) rfl rfl rfl (by decide) ?_
                                      refine ev_ic f_X12_aShip (nx := 141) (v := 0) rfl (by decide) rfl ?_
                                      exact ev_ret f_X12_aShip rfl rfl rfl ⟨_, _, _, rfl, hI, hX, ⟨_, rfl, (by decide : (0:Int) ≤ (0:Int32).toInt), (Int.le_trans (by decide : (0:Int32).toInt ≤ (0:Int)) (by decide : (0:Int) ≤ 1)), (show (gi 69 14).toInt ≤ (gi151 69 14).toInt ∧ (0 = 1 → (gi151 69 12).toInt ≠ 0 → (gi 69 14).toInt < (gi151 69 14).toInt) from (by omega))⟩⟩
                              · have l231 : 21 ≤ (gi121 69 15).toInt := t_ltl (t_nle h144) (by decide : (20:Int) ≤ (20:Int32).toInt) rfl
                                refine ev_loc f_X12_number (nx := 31) rfl rfl rfl rfl ?_
                                refine ev_ic f_X12_number (nx := 32) (v := 4) rfl (by decide) rfl ?_
                                refine ev_inV2 f_X12_number (nx := 35) (lo2 := [(0, .ref 69), (1, .int 4)]) rfl rfl rfl rfl f_X12_fails (hI.wf.s rfl) rfl rfl rfl rfl rfl ?_
                                refine ev_loc f_X12_fails (nx := 1) rfl rfl rfl rfl ?_
                                refine ev_getI f_X12_fails (nx := 4) rfl (hI.wf.s rfl) rfl rfl rfl ?_
                                refine ev_if f_X12_fails (t1 := 7) (t2 := 32) rfl rfl rfl (fun h232 => ?_) (fun h232 => ?_)
                                · have u233 : (gi121 69 18).toInt ≤ 0 := t_equ h232 (by decide : (0:Int32).toInt ≤ (0:Int))
                                  have l234 : 0 ≤ (gi121 69 18).toInt := t_eql h232 (by decide : (0:Int) ≤ (0:Int32).toInt)
                                  refine ev_loc f_X12_fails (nx := 8) rfl rfl rfl rfl ?_
                                  refine ev_loc f_X12_fails (nx := 9) rfl rfl rfl rfl ?_
                                  refine ev_gvI f_X12_fails (nx := 12) (w := (gi121 69 12)) rfl (hI.wf.s rfl) rfl rfl rfl rfl ?_
                                  refine ev_ic f_X12_fails (nx := 13) (v := 1) rfl (by decide) rfl ?_
                                  refine ev_f f_X12_fails (t1 := 16) (t2 := 20) rfl rfl rfl (t_neT' (by decide : (1:Int32).toInt ≤ (1:Int)) l131 (by decide)) ?_
                                  refine ev_loc f_X12_fails (nx := 21) rfl rfl rfl rfl ?_
                                  refine ev_putIT f_X12_fails (nx := 24) rfl (hI.wf.s rfl) rfl rfl rfl (hI.put0 (hI.wf.s rfl) rfl rfl) (hX.upI rfl) (fun g235 e235 hI hX => ?_)
                                  refine ev_loc f_X12_fails (nx := 25) rfl rfl rfl rfl ?_
                                  refine ev_loc f_X12_fails (nx := 26) rfl rfl rfl rfl ?_
                                  refine ev_getI f_X12_fails (nx := 29) rfl (hI.wf.s rfl) rfl rfl rfl ?_
                                  obtain ⟨l236, u236⟩ := hI.b (hI.wf.s (k := 69) rfl) (t_bdK rfl : t_bd 11 13 = some (0, 900))
                                  refine ev_putIT f_X12_fails (nx := 32) rfl (hI.wf.s rfl) rfl rfl rfl (hI.put0 (hI.wf.s rfl) rfl rfl) (hX.upI rfl) (fun g237 e237 hI hX => ?_)
                                  refine ev_ic f_X12_fails (nx := 33) (v := 0) rfl (by decide) rfl ?_
                                  refine ev_retK1 f_X12_fails rfl rfl rfl ?_
                                  refine ev_retK1 f_X12_number rfl rfl rfl ?_
                                  refine ev_t f_X12_passes (t1 := 74) (t2 := 46) rfl rfl rfl (by decide) ?_
                                  refine ev_ic f_X12_passes (nx := 75) (v := 0) rfl (by decide) rfl ?_
                                  refine ev_retK1 f_X12_passes rfl rfl rfl ?_
                                  refine ev_t f_X12_aShip (t1 := 140) (t2 := 142) rfl rfl rfl (by decide) ?_
                                  refine ev_ic f_X12_aShip (nx := 141) (v := 0) rfl (by decide) rfl ?_
                                  exact ev_ret f_X12_aShip rfl rfl rfl ⟨_, _, _, rfl, hI, hX, ⟨_, rfl, (by decide : (0:Int) ≤ (0:Int32).toInt), (Int.le_trans (by decide : (0:Int32).toInt ≤ (0:Int)) (by decide : (0:Int) ≤ 1)), (show (gi 69 14).toInt ≤ (g237 69 14).toInt ∧ (0 = 1 → (g237 69 12).toInt ≠ 0 → (gi 69 14).toInt < (g237 69 14).toInt) from (by have ff238 : (g237 69 14).toInt = (gi121 69 14).toInt := congrArg Int32.toInt ((by rw [e237]; exact x_up2_off (Or.inr (by decide)) : g237 69 14 = g235 69 14).trans ((by rw [e235]; exact x_up2_off (Or.inr (by decide)) : g235 69 14 = gi121 69 14).trans rfl)); have ff239 : (g237 69 12).toInt = (gi121 69 12).toInt := congrArg Int32.toInt ((by rw [e237]; exact x_up2_off (Or.inr (by decide)) : g237 69 12 = g235 69 12).trans ((by rw [e235]; exact x_up2_off (Or.inr (by decide)) : g235 69 12 = gi121 69 12).trans rfl)); omega))⟩⟩
                                · have r240 : (gi121 69 18).toInt ≠ 0 := fun e => h232 (Int32.toInt_inj.mp (e.trans (by decide : (0:Int) = (0 : Int32).toInt)))
                                  refine ev_ic f_X12_fails (nx := 33) (v := 0) rfl (by decide) rfl ?_
                                  refine ev_retK1 f_X12_fails rfl rfl rfl ?_
                                  refine ev_retK1 f_X12_number rfl rfl rfl ?_
                                  refine ev_t f_X12_passes (t1 := 74) (t2 := 46) rfl rfl rfl (by decide) ?_
                                  refine ev_ic f_X12_passes (nx := 75) (v := 0) rfl (by decide) rfl ?_
                                  refine ev_retK1 f_X12_passes rfl rfl rfl ?_
                                  refine ev_t f_X12_aShip (t1 := 140) (t2 := 142) rfl rfl rfl (by decide) ?_
                                  refine ev_ic f_X12_aShip (nx := 141) (v := 0) rfl (by decide) rfl ?_
                                  exact ev_ret f_X12_aShip rfl rfl rfl ⟨_, _, _, rfl, hI, hX, ⟨_, rfl, (by decide : (0:Int) ≤ (0:Int32).toInt), (Int.le_trans (by decide : (0:Int32).toInt ≤ (0:Int)) (by decide : (0:Int) ≤ 1)), (show (gi 69 14).toInt ≤ (gi121 69 14).toInt ∧ (0 = 1 → (gi121 69 12).toInt ≠ 0 → (gi 69 14).toInt < (gi121 69 14).toInt) from (by omega))⟩⟩
                          · have r241 : (gi121 69 12).toInt ≠ 3 := fun e => h129 (Int32.toInt_inj.mp (e.trans (by decide : (3:Int) = (3 : Int32).toInt)))
                            refine ev_loc f_X12_number (nx := 9) rfl rfl rfl rfl ?_
                            refine ev_ic f_X12_number (nx := 10) (v := 2) rfl (by decide) rfl ?_
                            refine ev_inV2 f_X12_number (nx := 13) (lo2 := [(0, .ref 69), (1, .int 2)]) rfl rfl rfl rfl f_X12_fails (hI.wf.s rfl) rfl rfl rfl rfl rfl ?_
                            refine ev_loc f_X12_fails (nx := 1) rfl rfl rfl rfl ?_
                            refine ev_getI f_X12_fails (nx := 4) rfl (hI.wf.s rfl) rfl rfl rfl ?_
                            refine ev_if f_X12_fails (t1 := 7) (t2 := 32) rfl rfl rfl (fun h242 => ?_) (fun h242 => ?_)
                            · have u243 : (gi121 69 18).toInt ≤ 0 := t_equ h242 (by decide : (0:Int32).toInt ≤ (0:Int))
                              have l244 : 0 ≤ (gi121 69 18).toInt := t_eql h242 (by decide : (0:Int) ≤ (0:Int32).toInt)
                              refine ev_loc f_X12_fails (nx := 8) rfl rfl rfl rfl ?_
                              refine ev_loc f_X12_fails (nx := 9) rfl rfl rfl rfl ?_
                              refine ev_gvI f_X12_fails (nx := 12) (w := (gi121 69 12)) rfl (hI.wf.s rfl) rfl rfl rfl rfl ?_
                              refine ev_ic f_X12_fails (nx := 13) (v := 1) rfl (by decide) rfl ?_
                              refine ev_if f_X12_fails (t1 := 16) (t2 := 20) rfl rfl rfl (fun h245 => ?_) (fun h245 => ?_)
                              · have u246 : (gi121 69 12).toInt ≤ 1 := t_equ h245 (by decide : (1:Int32).toInt ≤ (1:Int))
                                have l247 : 1 ≤ (gi121 69 12).toInt := t_eql h245 (by decide : (1:Int) ≤ (1:Int32).toInt)
                                refine ev_ic f_X12_fails (nx := 17) (v := 1) rfl (by decide) rfl ?_
                                refine ev_jmp f_X12_fails (nx := 21) rfl rfl rfl ?_
                                refine ev_putIT f_X12_fails (nx := 24) rfl (hI.wf.s rfl) rfl rfl rfl (hI.put0 (hI.wf.s rfl) rfl rfl) (hX.upI rfl) (fun g248 e248 hI hX => ?_)
                                refine ev_loc f_X12_fails (nx := 25) rfl rfl rfl rfl ?_
                                refine ev_loc f_X12_fails (nx := 26) rfl rfl rfl rfl ?_
                                refine ev_getI f_X12_fails (nx := 29) rfl (hI.wf.s rfl) rfl rfl rfl ?_
                                obtain ⟨l249, u249⟩ := hI.b (hI.wf.s (k := 69) rfl) (t_bdK rfl : t_bd 11 13 = some (0, 900))
                                refine ev_putIT f_X12_fails (nx := 32) rfl (hI.wf.s rfl) rfl rfl rfl (hI.put0 (hI.wf.s rfl) rfl rfl) (hX.upI rfl) (fun g250 e250 hI hX => ?_)
                                refine ev_ic f_X12_fails (nx := 33) (v := 0) rfl (by decide) rfl ?_
                                refine ev_retK1 f_X12_fails rfl rfl rfl ?_
                                refine ev_retK1 f_X12_number rfl rfl rfl ?_
                                refine ev_t f_X12_passes (t1 := 74) (t2 := 46) rfl rfl rfl (by decide) ?_
                                refine ev_ic f_X12_passes (nx := 75) (v := 0) rfl (by decide) rfl ?_
                                refine ev_retK1 f_X12_passes rfl rfl rfl ?_
                                refine ev_t f_X12_aShip (t1 := 140) (t2 := 142) rfl rfl rfl (by decide) ?_
                                refine ev_ic f_X12_aShip (nx := 141) (v := 0) rfl (by decide) rfl ?_
                                exact ev_ret f_X12_aShip rfl rfl rfl ⟨_, _, _, rfl, hI, hX, ⟨_, rfl, (by decide : (0:Int) ≤ (0:Int32).toInt), (Int.le_trans (by decide : (0:Int32).toInt ≤ (0:Int)) (by decide : (0:Int) ≤ 1)), (show (gi 69 14).toInt ≤ (g250 69 14).toInt ∧ (0 = 1 → (g250 69 12).toInt ≠ 0 → (gi 69 14).toInt < (g250 69 14).toInt) from (by have ff251 : (g250 69 14).toInt = (gi121 69 14).toInt := congrArg Int32.toInt ((by rw [e250]; exact x_up2_off (Or.inr (by decide)) : g250 69 14 = g248 69 14).trans ((by rw [e248]; exact x_up2_off (Or.inr (by decide)) : g248 69 14 = gi121 69 14).trans rfl)); have ff252 : (g250 69 12).toInt = (gi121 69 12).toInt := congrArg Int32.toInt ((by rw [e250]; exact x_up2_off (Or.inr (by decide)) : g250 69 12 = g248 69 12).trans ((by rw [e248]; exact x_up2_off (Or.inr (by decide)) : g248 69 12 = gi121 69 12).trans rfl)); omega))⟩⟩
                              · have r253 : (gi121 69 12).toInt ≠ 1 := fun e => h245 (Int32.toInt_inj.mp (e.trans (by decide : (1:Int) = (1 : Int32).toInt)))
                                refine ev_loc f_X12_fails (nx := 21) rfl rfl rfl rfl ?_
                                refine ev_putIT f_X12_fails (nx := 24) rfl (hI.wf.s rfl) rfl rfl rfl (hI.put0 (hI.wf.s rfl) rfl rfl) (hX.upI rfl) (fun g254 e254 hI hX => ?_)
                                refine ev_loc f_X12_fails (nx := 25) rfl rfl rfl rfl ?_
                                refine ev_loc f_X12_fails (nx := 26) rfl rfl rfl rfl ?_
                                refine ev_getI f_X12_fails (nx := 29) rfl (hI.wf.s rfl) rfl rfl rfl ?_
                                obtain ⟨l255, u255⟩ := hI.b (hI.wf.s (k := 69) rfl) (t_bdK rfl : t_bd 11 13 = some (0, 900))
                                refine ev_putIT f_X12_fails (nx := 32) rfl (hI.wf.s rfl) rfl rfl rfl (hI.put0 (hI.wf.s rfl) rfl rfl) (hX.upI rfl) (fun g256 e256 hI hX => ?_)
                                refine ev_ic f_X12_fails (nx := 33) (v := 0) rfl (by decide) rfl ?_
                                refine ev_retK1 f_X12_fails rfl rfl rfl ?_
                                refine ev_retK1 f_X12_number rfl rfl rfl ?_
                                refine ev_t f_X12_passes (t1 := 74) (t2 := 46) rfl rfl rfl (by decide) ?_
                                refine ev_ic f_X12_passes (nx := 75) (v := 0) rfl (by decide) rfl ?_
                                refine ev_retK1 f_X12_passes rfl rfl rfl ?_
                                refine ev_t f_X12_aShip (t1 := 140) (t2 := 142) rfl rfl rfl (by decide) ?_
                                refine ev_ic f_X12_aShip (nx := 141) (v := 0) rfl (by decide) rfl ?_
                                exact ev_ret f_X12_aShip rfl rfl rfl ⟨_, _, _, rfl, hI, hX, ⟨_, rfl, (by decide : (0:Int) ≤ (0:Int32).toInt), (Int.le_trans (by decide : (0:Int32).toInt ≤ (0:Int)) (by decide : (0:Int) ≤ 1)), (show (gi 69 14).toInt ≤ (g256 69 14).toInt ∧ (0 = 1 → (g256 69 12).toInt ≠ 0 → (gi 69 14).toInt < (g256 69 14).toInt) from (by have ff257 : (g256 69 14).toInt = (gi121 69 14).toInt := congrArg Int32.toInt ((by rw [e256]; exact x_up2_off (Or.inr (by decide)) : g256 69 14 = g254 69 14).trans ((by rw [e254]; exact x_up2_off (Or.inr (by decide)) : g254 69 14 = gi121 69 14).trans rfl)); have ff258 : (g256 69 12).toInt = (gi121 69 12).toInt := congrArg Int32.toInt ((by rw [e256]; exact x_up2_off (Or.inr (by decide)) : g256 69 12 = g254 69 12).trans ((by rw [e254]; exact x_up2_off (Or.inr (by decide)) : g254 69 12 = gi121 69 12).trans rfl)); omega))⟩⟩
                            · have r259 : (gi121 69 18).toInt ≠ 0 := fun e => h242 (Int32.toInt_inj.mp (e.trans (by decide : (0:Int) = (0 : Int32).toInt)))
                              refine ev_ic f_X12_fails (nx := 33) (v := 0) rfl (by decide) rfl ?_
                              refine ev_retK1 f_X12_fails rfl rfl rfl ?_
                              refine ev_retK1 f_X12_number rfl rfl rfl ?_
                              refine ev_t f_X12_passes (t1 := 74) (t2 := 46) rfl rfl rfl (by decide) ?_
                              refine ev_ic f_X12_passes (nx := 75) (v := 0) rfl (by decide) rfl ?_
                              refine ev_retK1 f_X12_passes rfl rfl rfl ?_
                              refine ev_t f_X12_aShip (t1 := 140) (t2 := 142) rfl rfl rfl (by decide) ?_
                              refine ev_ic f_X12_aShip (nx := 141) (v := 0) rfl (by decide) rfl ?_
                              exact ev_ret f_X12_aShip rfl rfl rfl ⟨_, _, _, rfl, hI, hX, ⟨_, rfl, (by decide : (0:Int) ≤ (0:Int32).toInt), (Int.le_trans (by decide : (0:Int32).toInt ≤ (0:Int)) (by decide : (0:Int) ≤ 1)), (show (gi 69 14).toInt ≤ (gi121 69 14).toInt ∧ (0 = 1 → (gi121 69 12).toInt ≠ 0 → (gi 69 14).toInt < (gi121 69 14).toInt) from (by omega))⟩⟩
                      · have l260 : 121 ≤ (gi91 69 15).toInt := t_ltl (t_nle h114) (by decide : (120:Int) ≤ (120:Int32).toInt) rfl
                        refine ev_loc f_X12_number (nx := 31) rfl rfl rfl rfl ?_
                        refine ev_ic f_X12_number (nx := 32) (v := 4) rfl (by decide) rfl ?_
                        refine ev_inV2 f_X12_number (nx := 35) (lo2 := [(0, .ref 69), (1, .int 4)]) rfl rfl rfl rfl f_X12_fails (hI.wf.s rfl) rfl rfl rfl rfl rfl ?_
                        refine ev_loc f_X12_fails (nx := 1) rfl rfl rfl rfl ?_
                        refine ev_getI f_X12_fails (nx := 4) rfl (hI.wf.s rfl) rfl rfl rfl ?_
                        refine ev_if f_X12_fails (t1 := 7) (t2 := 32) rfl rfl rfl (fun h261 => ?_) (fun h261 => ?_)
                        · have u262 : (gi91 69 18).toInt ≤ 0 := t_equ h261 (by decide : (0:Int32).toInt ≤ (0:Int))
                          have l263 : 0 ≤ (gi91 69 18).toInt := t_eql h261 (by decide : (0:Int) ≤ (0:Int32).toInt)
                          refine ev_loc f_X12_fails (nx := 8) rfl rfl rfl rfl ?_
                          refine ev_loc f_X12_fails (nx := 9) rfl rfl rfl rfl ?_
                          refine ev_gvI f_X12_fails (nx := 12) (w := (gi91 69 12)) rfl (hI.wf.s rfl) rfl rfl rfl rfl ?_
                          refine ev_ic f_X12_fails (nx := 13) (v := 1) rfl (by decide) rfl ?_
                          refine ev_f f_X12_fails (t1 := 16) (t2 := 20) rfl rfl rfl (t_neT' (by decide : (1:Int32).toInt ≤ (1:Int)) l101 (by decide)) ?_
                          refine ev_loc f_X12_fails (nx := 21) rfl rfl rfl rfl ?_
                          refine ev_putIT f_X12_fails (nx := 24) rfl (hI.wf.s rfl) rfl rfl rfl (hI.put0 (hI.wf.s rfl) rfl rfl) (hX.upI rfl) (fun g264 e264 hI hX => ?_)
                          refine ev_loc f_X12_fails (nx := 25) rfl rfl rfl rfl ?_
                          refine ev_loc f_X12_fails (nx := 26) rfl rfl rfl rfl ?_
                          refine ev_getI f_X12_fails (nx := 29) rfl (hI.wf.s rfl) rfl rfl rfl ?_
                          obtain ⟨l265, u265⟩ := hI.b (hI.wf.s (k := 69) rfl) (t_bdK rfl : t_bd 11 13 = some (0, 900))
                          refine ev_putIT f_X12_fails (nx := 32) rfl (hI.wf.s rfl) rfl rfl rfl (hI.put0 (hI.wf.s rfl) rfl rfl) (hX.upI rfl) (fun g266 e266 hI hX => ?_)
                          refine ev_ic f_X12_fails (nx := 33) (v := 0) rfl (by decide) rfl ?_
                          refine ev_retK1 f_X12_fails rfl rfl rfl ?_
                          refine ev_retK1 f_X12_number rfl rfl rfl ?_
                          refine ev_t f_X12_passes (t1 := 74) (t2 := 22) rfl rfl rfl (by decide) ?_
                          refine ev_ic f_X12_passes (nx := 75) (v := 0) rfl (by decide) rfl ?_
                          refine ev_retK1 f_X12_passes rfl rfl rfl ?_
                          refine ev_t f_X12_aShip (t1 := 140) (t2 := 142) rfl rfl rfl (by decide) ?_
                          refine ev_ic f_X12_aShip (nx := 141) (v := 0) rfl (by decide) rfl ?_
                          exact ev_ret f_X12_aShip rfl rfl rfl ⟨_, _, _, rfl, hI, hX, ⟨_, rfl, (by decide : (0:Int) ≤ (0:Int32).toInt), (Int.le_trans (by decide : (0:Int32).toInt ≤ (0:Int)) (by decide : (0:Int) ≤ 1)), (show (gi 69 14).toInt ≤ (g266 69 14).toInt ∧ (0 = 1 → (g266 69 12).toInt ≠ 0 → (gi 69 14).toInt < (g266 69 14).toInt) from (by have ff267 : (g266 69 14).toInt = (gi91 69 14).toInt := congrArg Int32.toInt ((by rw [e266]; exact x_up2_off (Or.inr (by decide)) : g266 69 14 = g264 69 14).trans ((by rw [e264]; exact x_up2_off (Or.inr (by decide)) : g264 69 14 = gi91 69 14).trans rfl)); have ff268 : (g266 69 12).toInt = (gi91 69 12).toInt := congrArg Int32.toInt ((by rw [e266]; exact x_up2_off (Or.inr (by decide)) : g266 69 12 = g264 69 12).trans ((by rw [e264]; exact x_up2_off (Or.inr (by decide)) : g264 69 12 = gi91 69 12).trans rfl)); omega))⟩⟩
                        · have r269 : (gi91 69 18).toInt ≠ 0 := fun e => h261 (Int32.toInt_inj.mp (e.trans (by decide : (0:Int) = (0 : Int32).toInt)))
                          refine ev_ic f_X12_fails (nx := 33) (v := 0) rfl (by decide) rfl ?_
                          refine ev_retK1 f_X12_fails rfl rfl rfl ?_
                          refine ev_retK1 f_X12_number rfl rfl rfl ?_
                          refine ev_t f_X12_passes (t1 := 74) (t2 := 22) rfl rfl rfl (by decide) ?_
                          refine ev_ic f_X12_passes (nx := 75) (v := 0) rfl (by decide) rfl ?_
                          refine ev_retK1 f_X12_passes rfl rfl rfl ?_
                          refine ev_t f_X12_aShip (t1 := 140) (t2 := 142) rfl rfl rfl (by decide) ?_
                          refine ev_ic f_X12_aShip (nx := 141) (v := 0) rfl (by decide) rfl ?_
                          exact ev_ret f_X12_aShip rfl rfl rfl ⟨_, _, _, rfl, hI, hX, ⟨_, rfl, (by decide : (0:Int) ≤ (0:Int32).toInt), (Int.le_trans (by decide : (0:Int32).toInt ≤ (0:Int)) (by decide : (0:Int) ≤ 1)), (show (gi 69 14).toInt ≤ (gi91 69 14).toInt ∧ (0 = 1 → (gi91 69 12).toInt ≠ 0 → (gi 69 14).toInt < (gi91 69 14).toInt) from (by omega))⟩⟩
                  · have r270 : (gi91 69 12).toInt ≠ 3 := fun e => h99 (Int32.toInt_inj.mp (e.trans (by decide : (3:Int) = (3 : Int32).toInt)))
                    refine ev_loc f_X12_number (nx := 9) rfl rfl rfl rfl ?_
                    refine ev_ic f_X12_number (nx := 10) (v := 2) rfl (by decide) rfl ?_
                    refine ev_inV2 f_X12_number (nx := 13) (lo2 := [(0, .ref 69), (1, .int 2)]) rfl rfl rfl rfl f_X12_fails (hI.wf.s rfl) rfl rfl rfl rfl rfl ?_
                    refine ev_loc f_X12_fails (nx := 1) rfl rfl rfl rfl ?_
                    refine ev_getI f_X12_fails (nx := 4) rfl (hI.wf.s rfl) rfl rfl rfl ?_
                    refine ev_if f_X12_fails (t1 := 7) (t2 := 32) rfl rfl rfl (fun h271 => ?_) (fun h271 => ?_)
                    · have u272 : (gi91 69 18).toInt ≤ 0 := t_equ h271 (by decide : (0:Int32).toInt ≤ (0:Int))
                      have l273 : 0 ≤ (gi91 69 18).toInt := t_eql h271 (by decide : (0:Int) ≤ (0:Int32).toInt)
                      refine ev_loc f_X12_fails (nx := 8) rfl rfl rfl rfl ?_
                      refine ev_loc f_X12_fails (nx := 9) rfl rfl rfl rfl ?_
                      refine ev_gvI f_X12_fails (nx := 12) (w := (gi91 69 12)) rfl (hI.wf.s rfl) rfl rfl rfl rfl ?_
                      refine ev_ic f_X12_fails (nx := 13) (v := 1) rfl (by decide) rfl ?_
                      refine ev_if f_X12_fails (t1 := 16) (t2 := 20) rfl rfl rfl (fun h274 => ?_) (fun h274 => ?_)
                      · have u275 : (gi91 69 12).toInt ≤ 1 := t_equ h274 (by decide : (1:Int32).toInt ≤ (1:Int))
                        have l276 : 1 ≤ (gi91 69 12).toInt := t_eql h274 (by decide : (1:Int) ≤ (1:Int32).toInt)
                        refine ev_ic f_X12_fails (nx := 17) (v := 1) rfl (by decide) rfl ?_
                        refine ev_jmp f_X12_fails (nx := 21) rfl rfl rfl ?_
                        refine ev_putIT f_X12_fails (nx := 24) rfl (hI.wf.s rfl) rfl rfl rfl (hI.put0 (hI.wf.s rfl) rfl rfl) (hX.upI rfl) (fun g277 e277 hI hX => ?_)
                        refine ev_loc f_X12_fails (nx := 25) rfl rfl rfl rfl ?_
                        refine ev_loc f_X12_fails (nx := 26) rfl rfl rfl rfl ?_
                        refine ev_getI f_X12_fails (nx := 29) rfl (hI.wf.s rfl) rfl rfl rfl ?_
                        obtain ⟨l278, u278⟩ := hI.b (hI.wf.s (k := 69) rfl) (t_bdK rfl : t_bd 11 13 = some (0, 900))
                        refine ev_putIT f_X12_fails (nx := 32) rfl (hI.wf.s rfl) rfl rfl rfl (hI.put0 (hI.wf.s rfl) rfl rfl) (hX.upI rfl) (fun g279 e279 hI hX => ?_)
                        refine ev_ic f_X12_fails (nx := 33) (v := 0) rfl (by decide) rfl ?_
                        refine ev_retK1 f_X12_fails rfl rfl rfl ?_
                        refine ev_retK1 f_X12_number rfl rfl rfl ?_
                        refine ev_t f_X12_passes (t1 := 74) (t2 := 22) rfl rfl rfl (by decide) ?_
                        refine ev_ic f_X12_passes (nx := 75) (v := 0) rfl (by decide) rfl ?_
                        refine ev_retK1 f_X12_passes rfl rfl rfl ?_
                        refine ev_t f_X12_aShip (t1 := 140) (t2 := 142) rfl rfl rfl (by decide) ?_
                        refine ev_ic f_X12_aShip (nx := 141) (v := 0) rfl (by decide) rfl ?_
                        exact ev_ret f_X12_aShip rfl rfl rfl ⟨_, _, _, rfl, hI, hX, ⟨_, rfl, (by decide : (0:Int) ≤ (0:Int32).toInt), (Int.le_trans (by decide : (0:Int32).toInt ≤ (0:Int)) (by decide : (0:Int) ≤ 1)), (show (gi 69 14).toInt ≤ (g279 69 14).toInt ∧ (0 = 1 → (g279 69 12).toInt ≠ 0 → (gi 69 14).toInt < (g279 69 14).toInt) from (by have ff280 : (g279 69 14).toInt = (gi91 69 14).toInt := congrArg Int32.toInt ((by rw [e279]; exact x_up2_off (Or.inr (by decide)) : g279 69 14 = g277 69 14).trans ((by rw [e277]; exact x_up2_off (Or.inr (by decide)) : g277 69 14 = gi91 69 14).trans rfl)); have ff281 : (g279 69 12).toInt = (gi91 69 12).toInt := congrArg Int32.toInt ((by rw [e279]; exact x_up2_off (Or.inr (by decide)) : g279 69 12 = g277 69 12).trans ((by rw [e277]; exact x_up2_off (Or.inr (by decide)) : g277 69 12 = gi91 69 12).trans rfl)); omega))⟩⟩
                      · have r282 : (gi91 69 12).toInt ≠ 1 := fun e => h274 (Int32.toInt_inj.mp (e.trans (by decide : (1:Int) = (1 : Int32).toInt)))
                        refine ev_loc f_X12_fails (nx := 21) rfl rfl rfl rfl ?_
                        refine ev_putIT f_X12_fails (nx := 24) rfl (hI.wf.s rfl) rfl rfl rfl (hI.put0 (hI.wf.s rfl) rfl rfl) (hX.upI rfl) (fun g283 e283 hI hX => ?_)
                        refine ev_loc f_X12_fails (nx := 25) rfl rfl rfl rfl ?_
                        refine ev_loc f_X12_fails (nx := 26) rfl rfl rfl rfl ?_
                        refine ev_getI f_X12_fails (nx := 29) rfl (hI.wf.s rfl) rfl rfl rfl ?_
                        obtain ⟨l284, u284⟩ := hI.b (hI.wf.s (k := 69) rfl) (t_bdK rfl : t_bd 11 13 = some (0, 900))
                        refine ev_putIT f_X12_fails (nx := 32) rfl (hI.wf.s rfl) rfl rfl rfl (hI.put0 (hI.wf.s rfl) rfl rfl) (hX.upI rfl) (fun g285 e285 hI hX => ?_)
                        refine ev_ic f_X12_fails (nx := 33) (v := 0) rfl (by decide) rfl ?_
                        refine ev_retK1 f_X12_fails rfl rfl rfl ?_
                        refine ev_retK1 f_X12_number rfl rfl rfl ?_
                        refine ev_t f_X12_passes (t1 := 74) (t2 := 22) rfl rfl rfl (by decide) ?_
                        refine ev_ic f_X12_passes (nx := 75) (v := 0) rfl (by decide) rfl ?_
                        refine ev_retK1 f_X12_passes rfl rfl rfl ?_
                        refine ev_t f_X12_aShip (t1 := 140) (t2 := 142) rfl rfl rfl (by decide) ?_
                        refine ev_ic f_X12_aShip (nx := 141) (v := 0) rfl (by decide) rfl ?_
                        exact ev_ret f_X12_aShip rfl rfl rfl ⟨_, _, _, rfl, hI, hX, ⟨_, rfl, (by decide : (0:Int) ≤ (0:Int32).toInt), (Int.le_trans (by decide : (0:Int32).toInt ≤ (0:Int)) (by decide : (0:Int) ≤ 1)), (show (gi 69 14).toInt ≤ (g285 69 14).toInt ∧ (0 = 1 → (g285 69 12).toInt ≠ 0 → (gi 69 14).toInt < (g285 69 14).toInt) from (by have ff286 : (g285 69 14).toInt = (gi91 69 14).toInt := congrArg Int32.toInt ((by rw [e285]; exact x_up2_off (Or.inr (by decide)) : g285 69 14 = g283 69 14).trans ((by rw [e283]; exact x_up2_off (Or.inr (by decide)) : g283 69 14 = gi91 69 14).trans rfl)); have ff287 : (g285 69 12).toInt = (gi91 69 12).toInt := congrArg Int32.toInt ((by rw [e285]; exact x_up2_off (Or.inr (by decide)) : g285 69 12 = g283 69 12).trans ((by rw [e283]; exact x_up2_off (Or.inr (by decide)) : g283 69 12 = gi91 69 12).trans rfl)); omega))⟩⟩
                    · have r288 : (gi91 69 18).toInt ≠ 0 := fun e => h271 (Int32.toInt_inj.mp (e.trans (by decide : (0:Int) = (0 : Int32).toInt)))
                      refine ev_ic f_X12_fails (nx := 33) (v := 0) rfl (by decide) rfl ?_
                      refine ev_retK1 f_X12_fails rfl rfl rfl ?_
                      refine ev_retK1 f_X12_number rfl rfl rfl ?_
                      refine ev_t f_X12_passes (t1 := 74) (t2 := 22) rfl rfl rfl (by decide) ?_
                      refine ev_ic f_X12_passes (nx := 75) (v := 0) rfl (by decide) rfl ?_
                      refine ev_retK1 f_X12_passes rfl rfl rfl ?_
                      refine ev_t f_X12_aShip (t1 := 140) (t2 := 142) rfl rfl rfl (by decide) ?_
                      refine ev_ic f_X12_aShip (nx := 141) (v := 0) rfl (by decide) rfl ?_
                      exact ev_ret f_X12_aShip rfl rfl rfl ⟨_, _, _, rfl, hI, hX, ⟨_, rfl, (by decide : (0:Int) ≤ (0:Int32).toInt), (Int.le_trans (by decide : (0:Int32).toInt ≤ (0:Int)) (by decide : (0:Int) ≤ 1)), (show (gi 69 14).toInt ≤ (gi91 69 14).toInt ∧ (0 = 1 → (gi91 69 12).toInt ≠ 0 → (gi 69 14).toInt < (gi91 69 14).toInt) from (by omega))⟩⟩
            · have r289 : w62.toInt ≠ (-1) := fun e => h63 (Int32.toInt_inj.mp (e.trans (by decide : ((-1):Int) = ((-1) : Int32).toInt)))
              refine ev_ic f_X12_isName (nx := 36) (v := 0) rfl (by decide) rfl ?_
              refine ev_retK1 f_X12_isName rfl rfl rfl ?_
              refine ev_t f_X12_aShip (t1 := 75) (t2 := 81) rfl rfl rfl (by decide) ?_
              refine ev_loc f_X12_aShip (nx := 76) rfl rfl rfl rfl ?_
              refine ev_ic f_X12_aShip (nx := 77) (v := 2) rfl (by decide) rfl ?_
              refine ev_inV2 f_X12_aShip (nx := 80) (lo2 := [(0, .ref 69), (1, .int 2)]) rfl rfl rfl rfl f_X12_fails (hI.wf.s rfl) rfl rfl rfl rfl rfl ?_
              refine ev_loc f_X12_fails (nx := 1) rfl rfl rfl rfl ?_
              refine ev_getI f_X12_fails (nx := 4) rfl (hI.wf.s rfl) rfl rfl rfl ?_
              refine ev_if f_X12_fails (t1 := 7) (t2 := 32) rfl rfl rfl (fun h290 => ?_) (fun h290 => ?_)
              · have u291 : (gi62 69 18).toInt ≤ 0 := t_equ h290 (by decide : (0:Int32).toInt ≤ (0:Int))
                have l292 : 0 ≤ (gi62 69 18).toInt := t_eql h290 (by decide : (0:Int) ≤ (0:Int32).toInt)
                refine ev_loc f_X12_fails (nx := 8) rfl rfl rfl rfl ?_
                refine ev_loc f_X12_fails (nx := 9) rfl rfl rfl rfl ?_
                refine ev_gvI f_X12_fails (nx := 12) (w := (gi38 69 12)) rfl (hI.wf.s rfl) rfl rfl ((hC62.1 69 12 rfl).1.trans rfl) rfl ?_
                refine ev_ic f_X12_fails (nx := 13) (v := 1) rfl (by decide) rfl ?_
                refine ev_f f_X12_fails (t1 := 16) (t2 := 20) rfl rfl rfl (t_neT' (by decide : (1:Int32).toInt ≤ (1:Int)) l47 (by decide)) ?_
                refine ev_loc f_X12_fails (nx := 21) rfl rfl rfl rfl ?_
                refine ev_putIT f_X12_fails (nx := 24) rfl (hI.wf.s rfl) rfl rfl rfl (hI.put0 (hI.wf.s rfl) rfl rfl) (hX.upI rfl) (fun g293 e293 hI hX => ?_)
                refine ev_loc f_X12_fails (nx := 25) rfl rfl rfl rfl ?_
                refine ev_loc f_X12_fails (nx := 26) rfl rfl rfl rfl ?_
                refine ev_gvI f_X12_fails (nx := 29) (w := (gi38 69 13)) rfl (hI.wf.s rfl) rfl rfl ((by rw [e293]; exact x_up2_off (Or.inr (by decide)) : g293 69 13 = gi62 69 13).trans ((hC62.1 69 13 rfl).1.trans rfl)) rfl ?_
                refine ev_putIT f_X12_fails (nx := 32) rfl (hI.wf.s rfl) rfl rfl rfl (hI.put0 (hI.wf.s rfl) rfl rfl) (hX.upI rfl) (fun g294 e294 hI hX => ?_)
                refine ev_ic f_X12_fails (nx := 33) (v := 0) rfl (by decide) rfl ?_
                refine ev_retK1 f_X12_fails rfl rfl rfl ?_
                exact ev_ret f_X12_aShip rfl rfl rfl ⟨_, _, _, rfl, hI, hX, ⟨_, rfl, (by decide : (0:Int) ≤ (0:Int32).toInt), (Int.le_trans (by decide : (0:Int32).toInt ≤ (0:Int)) (by decide : (0:Int) ≤ 1)), (show (gi 69 14).toInt ≤ (g294 69 14).toInt ∧ (0 = 1 → (g294 69 12).toInt ≠ 0 → (gi 69 14).toInt < (g294 69 14).toInt) from (by have ff295 : (g294 69 14).toInt = (gi38 69 14).toInt := congrArg Int32.toInt ((by rw [e294]; exact x_up2_off (Or.inr (by decide)) : g294 69 14 = g293 69 14).trans ((by rw [e293]; exact x_up2_off (Or.inr (by decide)) : g293 69 14 = gi62 69 14).trans ((hC62.1 69 14 rfl).1.trans rfl))); have ff296 : (g294 69 12).toInt = (gi38 69 12).toInt := congrArg Int32.toInt ((by rw [e294]; exact x_up2_off (Or.inr (by decide)) : g294 69 12 = g293 69 12).trans ((by rw [e293]; exact x_up2_off (Or.inr (by decide)) : g293 69 12 = gi62 69 12).trans ((hC62.1 69 12 rfl).1.trans rfl))); omega))⟩⟩
              · have r297 : (gi62 69 18).toInt ≠ 0 := fun e => h290 (Int32.toInt_inj.mp (e.trans (by decide : (0:Int) = (0 : Int32).toInt)))
                refine ev_ic f_X12_fails (nx := 33) (v := 0) rfl (by decide) rfl ?_
                refine ev_retK1 f_X12_fails rfl rfl rfl ?_
                exact ev_ret f_X12_aShip rfl rfl rfl ⟨_, _, _, rfl, hI, hX, ⟨_, rfl, (by decide : (0:Int) ≤ (0:Int32).toInt), (Int.le_trans (by decide : (0:Int32).toInt ≤ (0:Int)) (by decide : (0:Int) ≤ 1)), (show (gi 69 14).toInt ≤ (gi62 69 14).toInt ∧ (0 = 1 → (gi62 69 12).toInt ≠ 0 → (gi 69 14).toInt < (gi62 69 14).toInt) from (by have ff298 : (gi62 69 14).toInt = (gi38 69 14).toInt := congrArg Int32.toInt ((hC62.1 69 14 rfl).1.trans rfl); have ff299 : (gi62 69 12).toInt = (gi38 69 12).toInt := congrArg Int32.toInt ((hC62.1 69 12 rfl).1.trans rfl); omega))⟩⟩
        · have r300 : (gi38 69 12).toInt ≠ 2 := fun e => h45 (Int32.toInt_inj.mp (e.trans (by decide : (2:Int) = (2 : Int32).toInt)))
          refine ev_ic f_X12_isName (nx := 36) (v := 0) rfl (by decide) rfl ?_
          refine ev_retK1 f_X12_isName rfl rfl rfl ?_
          refine ev_t f_X12_aShip (t1 := 75) (t2 := 81) rfl rfl rfl (by decide) ?_
          refine ev_loc f_X12_aShip (nx := 76) rfl rfl rfl rfl ?_
          refine ev_ic f_X12_aShip (nx := 77) (v := 2) rfl (by decide) rfl ?_
          refine ev_inV2 f_X12_aShip (nx := 80) (lo2 := [(0, .ref 69), (1, .int 2)]) rfl rfl rfl rfl f_X12_fails (hI.wf.s rfl) rfl rfl rfl rfl rfl ?_
          refine ev_loc f_X12_fails (nx := 1) rfl rfl rfl rfl ?_
          refine ev_getI f_X12_fails (nx := 4) rfl (hI.wf.s rfl) rfl rfl rfl ?_
          refine ev_if f_X12_fails (t1 := 7) (t2 := 32) rfl rfl rfl (fun h301 => ?_) (fun h301 => ?_)
          · have u302 : (gi38 69 18).toInt ≤ 0 := t_equ h301 (by decide : (0:Int32).toInt ≤ (0:Int))
            have l303 : 0 ≤ (gi38 69 18).toInt := t_eql h301 (by decide : (0:Int) ≤ (0:Int32).toInt)
            refine ev_loc f_X12_fails (nx := 8) rfl rfl rfl rfl ?_
            refine ev_loc f_X12_fails (nx := 9) rfl rfl rfl rfl ?_
            refine ev_gvI f_X12_fails (nx := 12) (w := (gi38 69 12)) rfl (hI.wf.s rfl) rfl rfl rfl rfl ?_
            refine ev_ic f_X12_fails (nx := 13) (v := 1) rfl (by decide) rfl ?_
            refine ev_if f_X12_fails (t1 := 16) (t2 := 20) rfl rfl rfl (fun h304 => ?_) (fun h304 => ?_)
            · have u305 : (gi38 69 12).toInt ≤ 1 := t_equ h304 (by decide : (1:Int32).toInt ≤ (1:Int))
              have l306 : 1 ≤ (gi38 69 12).toInt := t_eql h304 (by decide : (1:Int) ≤ (1:Int32).toInt)
              refine ev_ic f_X12_fails (nx := 17) (v := 1) rfl (by decide) rfl ?_
              refine ev_jmp f_X12_fails (nx := 21) rfl rfl rfl ?_
              refine ev_putIT f_X12_fails (nx := 24) rfl (hI.wf.s rfl) rfl rfl rfl (hI.put0 (hI.wf.s rfl) rfl rfl) (hX.upI rfl) (fun g307 e307 hI hX => ?_)
              refine ev_loc f_X12_fails (nx := 25) rfl rfl rfl rfl ?_
              refine ev_loc f_X12_fails (nx := 26) rfl rfl rfl rfl ?_
              refine ev_getI f_X12_fails (nx := 29) rfl (hI.wf.s rfl) rfl rfl rfl ?_
              obtain ⟨l308, u308⟩ := hI.b (hI.wf.s (k := 69) rfl) (t_bdK rfl : t_bd 11 13 = some (0, 900))
              refine ev_putIT f_X12_fails (nx := 32) rfl (hI.wf.s rfl) rfl rfl rfl (hI.put0 (hI.wf.s rfl) rfl rfl) (hX.upI rfl) (fun g309 e309 hI hX => ?_)
              refine ev_ic f_X12_fails (nx := 33) (v := 0) rfl (by decide) rfl ?_
              refine ev_retK1 f_X12_fails rfl rfl rfl ?_
              exact ev_ret f_X12_aShip rfl rfl rfl ⟨_, _, _, rfl, hI, hX, ⟨_, rfl, (by decide : (0:Int) ≤ (0:Int32).toInt), (Int.le_trans (by decide : (0:Int32).toInt ≤ (0:Int)) (by decide : (0:Int) ≤ 1)), (show (gi 69 14).toInt ≤ (g309 69 14).toInt ∧ (0 = 1 → (g309 69 12).toInt ≠ 0 → (gi 69 14).toInt < (g309 69 14).toInt) from (by have ff310 : (g309 69 14).toInt = (gi38 69 14).toInt := congrArg Int32.toInt ((by rw [e309]; exact x_up2_off (Or.inr (by decide)) : g309 69 14 = g307 69 14).trans ((by rw [e307]; exact x_up2_off (Or.inr (by decide)) : g307 69 14 = gi38 69 14).trans rfl)); have ff311 : (g309 69 12).toInt = (gi38 69 12).toInt := congrArg Int32.toInt ((by rw [e309]; exact x_up2_off (Or.inr (by decide)) : g309 69 12 = g307 69 12).trans ((by rw [e307]; exact x_up2_off (Or.inr (by decide)) : g307 69 12 = gi38 69 12).trans rfl)); omega))⟩⟩
            · have r312 : (gi38 69 12).toInt ≠ 1 := fun e => h304 (Int32.toInt_inj.mp (e.trans (by decide : (1:Int) = (1 : Int32).toInt)))
              refine ev_loc f_X12_fails (nx := 21) rfl rfl rfl rfl ?_
              refine ev_putIT f_X12_fails (nx := 24) rfl (hI.wf.s rfl) rfl rfl rfl (hI.put0 (hI.wf.s rfl) rfl rfl) (hX.upI rfl) (fun g313 e313 hI hX => ?_)
              refine ev_loc f_X12_fails (nx := 25) rfl rfl rfl rfl ?_
              refine ev_loc f_X12_fails (nx := 26) rfl rfl rfl rfl ?_
              refine ev_getI f_X12_fails (nx := 29) rfl (hI.wf.s rfl) rfl rfl rfl ?_
              obtain ⟨l314, u314⟩ := hI.b (hI.wf.s (k := 69) rfl) (t_bdK rfl : t_bd 11 13 = some (0, 900))
              refine ev_putIT f_X12_fails (nx := 32) rfl (hI.wf.s rfl) rfl rfl rfl (hI.put0 (hI.wf.s rfl) rfl rfl) (hX.upI rfl) (fun g315 e315 hI hX => ?_)
              refine ev_ic f_X12_fails (nx := 33) (v := 0) rfl (by decide) rfl ?_
              refine ev_retK1 f_X12_fails rfl rfl rfl ?_
              exact ev_ret f_X12_aShip rfl rfl rfl ⟨_, _, _, rfl, hI, hX, ⟨_, rfl, (by decide : (0:Int) ≤ (0:Int32).toInt), (Int.le_trans (by decide : (0:Int32).toInt ≤ (0:Int)) (by decide : (0:Int) ≤ 1)), (show (gi 69 14).toInt ≤ (g315 69 14).toInt ∧ (0 = 1 → (g315 69 12).toInt ≠ 0 → (gi 69 14).toInt < (g315 69 14).toInt) from (by have ff316 : (g315 69 14).toInt = (gi38 69 14).toInt := congrArg Int32.toInt ((by rw [e315]; exact x_up2_off (Or.inr (by decide)) : g315 69 14 = g313 69 14).trans ((by rw [e313]; exact x_up2_off (Or.inr (by decide)) : g313 69 14 = gi38 69 14).trans rfl)); have ff317 : (g315 69 12).toInt = (gi38 69 12).toInt := congrArg Int32.toInt ((by rw [e315]; exact x_up2_off (Or.inr (by decide)) : g315 69 12 = g313 69 12).trans ((by rw [e313]; exact x_up2_off (Or.inr (by decide)) : g313 69 12 = gi38 69 12).trans rfl)); omega))⟩⟩
          · have r318 : (gi38 69 18).toInt ≠ 0 := fun e => h301 (Int32.toInt_inj.mp (e.trans (by decide : (0:Int) = (0 : Int32).toInt)))
            refine ev_ic f_X12_fails (nx := 33) (v := 0) rfl (by decide) rfl ?_
            refine ev_retK1 f_X12_fails rfl rfl rfl ?_
            exact ev_ret f_X12_aShip rfl rfl rfl ⟨_, _, _, rfl, hI, hX, ⟨_, rfl, (by decide : (0:Int) ≤ (0:Int32).toInt), (Int.le_trans (by decide : (0:Int32).toInt ≤ (0:Int)) (by decide : (0:Int) ≤ 1)), (show (gi 69 14).toInt ≤ (gi38 69 14).toInt ∧ (0 = 1 → (gi38 69 12).toInt ≠ 0 → (gi 69 14).toInt < (gi38 69 14).toInt) from (by omega))⟩⟩
noncomputable def wl_m_aCart : List (Nat × Nat) := [(69, 12), (69, 13), (69, 14), (69, 15), (69, 17), (69, 18), (70, 140211402), (70, 148211500), (70, 148311501), (70, 148411502), (71, 7210089)]
noncomputable def Q_m_aCart (gi : Nat → Nat → Int32) (gl : Nat → Nat → Int64) (gr : Nat → Nat → Value) : Int32 → (Nat → Nat → Int32) → (Nat → Nat → Int64) → (Nat → Nat → Value) → Prop := fun (v : Int32) (gi2 : Nat → Nat → Int32) (gl2 : Nat → Nat → Int64) (gr2 : Nat → Nat → Value) => (gi 69 14).toInt ≤ (gi2 69 14).toInt ∧ (v.toInt = 1 → (gi2 69 12).toInt ≠ 0 → (gi 69 14).toInt < (gi2 69 14).toInt)
theorem c_m_aCart {X : x_Ext} {d : Nat} {sh : List (Nat ⊕ (Nat × Nat))} {gi : Nat → Nat → Int32} {gl : Nat → Nat → Int64} {gr : Nat → Nat → Value} (hI : t_I sh gi gr) : x_Me X (d + 8) n_X12_aCart [.ref 69] (sh, gi, gl, gr) (t_PI wl_m_aCart sh gi gl gr 0 1 (Q_m_aCart gi gl gr)) := by
  have hX : t_X wl_m_aCart sh gi gl gr gi gl gr := t_X.rf
  refine me_i f_X12_aCart (hI.wf.s rfl) rfl rfl rfl ?_
  obtain ⟨l1, u1⟩ := hI.b (hI.wf.s (k := 69) rfl) (t_bdK rfl : t_bd 11 12 = some (0, 4))
  obtain ⟨l2, u2⟩ := hI.b (hI.wf.s (k := 69) rfl) (t_bdK rfl : t_bd 11 14 = some (0, 900))
  refine ev_sp f_X12_aCart (nx := 3) (v := 1482) rfl (by decide) rfl ?_
  refine ev_ic f_X12_aCart (nx := 4) (v := 3) rfl (by decide) rfl ?_
  refine ev_loc f_X12_aCart (nx := 5) rfl rfl rfl rfl ?_
  refine ev_getR f_X12_aCart (nx := 8) rfl (hI.wf.s rfl) rfl rfl (hI.wf.r rfl) rfl rfl ?_
  refine ev_sp f_X12_aCart (nx := 11) (v := 1402) rfl (by decide) rfl ?_
  obtain ⟨l3, u3⟩ := hI.ab (by decide +kernel : t_abr 70 1402 1402 0 6 = true) (Nat.le_refl _) (Nat.le_refl _)
  refine ev_ialdv f_X12_aCart (nx := 12) (w := (gi 70 1402)) rfl (hI.wf.s rfl) (by decide) (rfl : (1402 : Int32).toNatClampNeg = 1402) (by decide) rfl rfl ?_
  refine ev_mulL f_X12_aCart (nx := 13) (c := 3) (l := 0) (u := 18) rfl (by decide) (by decide) l3 u3 rfl rfl (by decide) (by decide) rfl (fun z4 e4 l4 u4 => ?_)
  refine ev_addK f_X12_aCart (nx := 14) (c := 1482) (l := 1482) (u := 1500) rfl (by decide) l4 u4 rfl rfl (by decide) (by decide) rfl (fun z5 e5 l5 u5 => ?_)
  refine ev_loc f_X12_aCart (nx := 15) (lo' := [(1, .int z5), (0, .ref 69)]) rfl rfl rfl rfl ?_
  refine ev_loc f_X12_aCart (nx := 16) rfl rfl rfl rfl ?_
  refine ev_getR f_X12_aCart (nx := 19) rfl (hI.wf.s rfl) rfl rfl (hI.wf.r rfl) rfl rfl ?_
  refine ev_sp f_X12_aCart (nx := 22) (v := 1402) rfl (by decide) rfl ?_
  refine ev_ialdv f_X12_aCart (nx := 23) (w := (gi 70 1402)) rfl (hI.wf.s rfl) (by decide) (rfl : (1402 : Int32).toNatClampNeg = 1402) (by decide) rfl rfl ?_
  refine ev_bp f_X12_aCart (nx := 25) (v := 6) rfl (by decide) rfl ?_
  refine ev_if f_X12_aCart (t1 := 28) (t2 := 35) rfl rfl rfl (fun h7 => ?_) (fun h7 => ?_)
  · have l8 : 6 ≤ (gi 70 1402).toInt := t_eql h7 (by decide : (6:Int) ≤ (6:Int32).toInt)
    refine ev_loc f_X12_aCart (nx := 29) rfl rfl rfl rfl ?_
    refine ev_bp f_X12_aCart (nx := 31) (v := 6) rfl (by decide) rfl ?_
    refine ev_inV2 f_X12_aCart (nx := 34) (lo2 := [(0, .ref 69), (1, .int 6)]) rfl rfl rfl rfl f_X12_fails (hI.wf.s rfl) rfl rfl rfl rfl rfl ?_
    refine ev_loc f_X12_fails (nx := 1) rfl rfl rfl rfl ?_
    refine ev_getI f_X12_fails (nx := 4) rfl (hI.wf.s rfl) rfl rfl rfl ?_
    refine ev_if f_X12_fails (t1 := 7) (t2 := 32) rfl rfl rfl (fun h9 => ?_) (fun h9 => ?_)
    · have u10 : (gi 69 18).toInt ≤ 0 := t_equ h9 (by decide : (0:Int32).toInt ≤ (0:Int))
      have l11 : 0 ≤ (gi 69 18).toInt := t_eql h9 (by decide : (0:Int) ≤ (0:Int32).toInt)
      refine ev_loc f_X12_fails (nx := 8) rfl rfl rfl rfl ?_
      refine ev_loc f_X12_fails (nx := 9) rfl rfl rfl rfl ?_
      refine ev_gvI f_X12_fails (nx := 12) (w := (gi 69 12)) rfl (hI.wf.s rfl) rfl rfl rfl rfl ?_
      refine ev_ic f_X12_fails (nx := 13) (v := 1) rfl (by decide) rfl ?_
      refine ev_if f_X12_fails (t1 := 16) (t2 := 20) rfl rfl rfl (fun h12 => ?_) (fun h12 => ?_)
      · have u13 : (gi 69 12).toInt ≤ 1 := t_equ h12 (by decide : (1:Int32).toInt ≤ (1:Int))
        have l14 : 1 ≤ (gi 69 12).toInt := t_eql h12 (by decide : (1:Int) ≤ (1:Int32).toInt)
        refine ev_ic f_X12_fails (nx := 17) (v := 1) rfl (by decide) rfl ?_
        refine ev_jmp f_X12_fails (nx := 21) rfl rfl rfl ?_
        refine ev_putIT f_X12_fails (nx := 24) rfl (hI.wf.s rfl) rfl rfl rfl (hI.put0 (hI.wf.s rfl) rfl rfl) (hX.upI rfl) (fun g15 e15 hI hX => ?_)
        refine ev_loc f_X12_fails (nx := 25) rfl rfl rfl rfl ?_
        refine ev_loc f_X12_fails (nx := 26) rfl rfl rfl rfl ?_
        refine ev_getI f_X12_fails (nx := 29) rfl (hI.wf.s rfl) rfl rfl rfl ?_
        obtain ⟨l16, u16⟩ := hI.b (hI.wf.s (k := 69) rfl) (t_bdK rfl : t_bd 11 13 = some (0, 900))
        refine ev_putIT f_X12_fails (nx := 32) rfl (hI.wf.s rfl) rfl rfl rfl (hI.put0 (hI.wf.s rfl) rfl rfl) (hX.upI rfl) (fun g17 e17 hI hX => ?_)
        refine ev_ic f_X12_fails (nx := 33) (v := 0) rfl (by decide) rfl ?_
        refine ev_retK1 f_X12_fails rfl rfl rfl ?_
        exact ev_ret f_X12_aCart rfl rfl rfl ⟨_, _, _, rfl, hI, hX, ⟨_, rfl, (by decide : (0:Int) ≤ (0:Int32).toInt), (Int.le_trans (by decide : (0:Int32).toInt ≤ (0:Int)) (by decide : (0:Int) ≤ 1)), (show (gi 69 14).toInt ≤ (g17 69 14).toInt ∧ (0 = 1 → (g17 69 12).toInt ≠ 0 → (gi 69 14).toInt < (g17 69 14).toInt) from (by have ff18 : (g17 69 14).toInt = (gi 69 14).toInt := congrArg Int32.toInt ((by rw [e17]; exact x_up2_off (Or.inr (by decide)) : g17 69 14 = g15 69 14).trans ((by rw [e15]; exact x_up2_off (Or.inr (by decide)) : g15 69 14 = gi 69 14).trans rfl)); have ff19 : (g17 69 12).toInt = (gi 69 12).toInt := congrArg Int32.toInt ((by rw [e17]; exact x_up2_off (Or.inr (by decide)) : g17 69 12 = g15 69 12).trans ((by rw [e15]; exact x_up2_off (Or.inr (by decide)) : g15 69 12 = gi 69 12).trans rfl)); omega))⟩⟩
      · have r20 : (gi 69 12).toInt ≠ 1 := fun e => h12 (Int32.toInt_inj.mp (e.trans (by decide : (1:Int) = (1 : Int32).toInt)))
        refine ev_loc f_X12_fails (nx := 21) rfl rfl rfl rfl ?_
        refine ev_putIT f_X12_fails (nx := 24) rfl (hI.wf.s rfl) rfl rfl rfl (hI.put0 (hI.wf.s rfl) rfl rfl) (hX.upI rfl) (fun g21 e21 hI hX => ?_)
        refine ev_loc f_X12_fails (nx := 25) rfl rfl rfl rfl ?_
        refine ev_loc f_X12_fails (nx := 26) rfl rfl rfl rfl ?_
        refine ev_getI f_X12_fails (nx := 29) rfl (hI.wf.s rfl) rfl rfl rfl ?_
        obtain ⟨l22, u22⟩ := hI.b (hI.wf.s (k := 69) rfl) (t_bdK rfl : t_bd 11 13 = some (0, 900))
        refine ev_putIT f_X12_fails (nx := 32) rfl (hI.wf.s rfl) rfl rfl rfl (hI.put0 (hI.wf.s rfl) rfl rfl) (hX.upI rfl) (fun g23 e23 hI hX => ?_)
        refine ev_ic f_X12_fails (nx := 33) (v := 0) rfl (by decide) rfl ?_
        refine ev_retK1 f_X12_fails rfl rfl rfl ?_
        exact ev_ret f_X12_aCart rfl rfl rfl ⟨_, _, _, rfl, hI, hX, ⟨_, rfl, (by decide : (0:Int) ≤ (0:Int32).toInt), (Int.le_trans (by decide : (0:Int32).toInt ≤ (0:Int)) (by decide : (0:Int) ≤ 1)), (show (gi 69 14).toInt ≤ (g23 69 14).toInt ∧ (0 = 1 → (g23 69 12).toInt ≠ 0 → (gi 69 14).toInt < (g23 69 14).toInt) from (by have ff24 : (g23 69 14).toInt = (gi 69 14).toInt := congrArg Int32.toInt ((by rw [e23]; exact x_up2_off (Or.inr (by decide)) : g23 69 14 = g21 69 14).trans ((by rw [e21]; exact x_up2_off (Or.inr (by decide)) : g21 69 14 = gi 69 14).trans rfl)); have ff25 : (g23 69 12).toInt = (gi 69 12).toInt := congrArg Int32.toInt ((by rw [e23]; exact x_up2_off (Or.inr (by decide)) : g23 69 12 = g21 69 12).trans ((by rw [e21]; exact x_up2_off (Or.inr (by decide)) : g21 69 12 = gi 69 12).trans rfl)); omega))⟩⟩
    · have r26 : (gi 69 18).toInt ≠ 0 := fun e => h9 (Int32.toInt_inj.mp (e.trans (by decide : (0:Int) = (0 : Int32).toInt)))
      refine ev_ic f_X12_fails (nx := 33) (v := 0) rfl (by decide) rfl ?_
      refine ev_retK1 f_X12_fails rfl rfl rfl ?_
      exact ev_ret f_X12_aCart rfl rfl rfl ⟨_, _, _, rfl, hI, hX, ⟨_, rfl, (by decide : (0:Int) ≤ (0:Int32).toInt), (Int.le_trans (by decide : (0:Int32).toInt ≤ (0:Int)) (by decide : (0:Int) ≤ 1)), (show (gi 69 14).toInt ≤ (gi 69 14).toInt ∧ (0 = 1 → (gi 69 12).toInt ≠ 0 → (gi 69 14).toInt < (gi 69 14).toInt) from (by omega))⟩⟩
  · have r27 : (gi 70 1402).toInt ≠ 6 := fun e => h7 (Int32.toInt_inj.mp (e.trans (by decide : (6:Int) = (6 : Int32).toInt)))
    have u28 : (gi 70 1402).toInt ≤ 5 := t_neu h7 u3 rfl rfl
    refine ev_loc f_X12_aCart (nx := 36) rfl rfl rfl rfl ?_
    refine ev_bp f_X12_aCart (nx := 38) (v := 12) rfl (by decide) rfl ?_
    refine ev_loc f_X12_aCart (nx := 39) rfl rfl rfl rfl ?_
    refine ev_getR f_X12_aCart (nx := 42) rfl (hI.wf.s rfl) rfl rfl (hI.wf.r rfl) rfl rfl ?_
    refine ev_sp f_X12_aCart (nx := 45) (v := 1402) rfl (by decide) rfl ?_
    refine ev_ialdv f_X12_aCart (nx := 46) (w := (gi 70 1402)) rfl (hI.wf.s rfl) (by decide) (rfl : (1402 : Int32).toNatClampNeg = 1402) (by decide) rfl rfl ?_
    refine ev_addK f_X12_aCart (nx := 47) (c := 12) (l := 12) (u := 17) rfl (by decide) l3 u28 rfl rfl (by decide) (by decide) rfl (fun z30 e30 l30 u30 => ?_)
    refine ev_qI f_X12_aCart (nx := 50) (r := []) rfl rfl rfl rfl rfl rfl rfl (c_m_aNewName hI (z30) (Int.le_trans (by decide : (0:Int) ≤ 12) l30) u30) rfl hX rfl (fun w31 gi31 gl31 gr31 l31 u31 hI hX hC31 q31 => ?_)
    have q31 : (gi 69 14).toInt ≤ (gi31 69 14).toInt ∧ (w31.toInt = 1 → (gi31 69 12).toInt ≠ 0 → (gi 69 14).toInt < (gi31 69 14).toInt) := q31
    obtain ⟨l32, u32⟩ := hI.b (hI.wf.s (k := 69) rfl) (t_bdK rfl : t_bd 11 12 = some (0, 4))
    obtain ⟨l33, u33⟩ := hI.b (hI.wf.s (k := 69) rfl) (t_bdK rfl : t_bd 11 14 = some (0, 900))
    refine ev_if f_X12_aCart (t1 := 61) (t2 := 53) rfl rfl rfl (fun h34 => ?_) (fun h34 => ?_)
    · have u35 : w31.toInt ≤ 0 := t_equ h34 (by decide : (0:Int32).toInt ≤ (0:Int))
      refine ev_ic f_X12_aCart (nx := 62) (v := 0) rfl (by decide) rfl ?_
      exact ev_ret f_X12_aCart rfl rfl rfl ⟨_, _, _, rfl, hI, hX, ⟨_, rfl, (by decide : (0:Int) ≤ (0:Int32).toInt), (Int.le_trans (by decide : (0:Int32).toInt ≤ (0:Int)) (by decide : (0:Int) ≤ 1)), (show (gi 69 14).toInt ≤ (gi31 69 14).toInt ∧ (0 = 1 → (gi31 69 12).toInt ≠ 0 → (gi 69 14).toInt < (gi31 69 14).toInt) from (by omega))⟩⟩
    · have r36 : w31.toInt ≠ 0 := fun e => h34 (Int32.toInt_inj.mp (e.trans (by decide : (0:Int) = (0 : Int32).toInt)))
      have l37 : 1 ≤ w31.toInt := t_nel h34 l31 rfl rfl
      refine ev_loc f_X12_aCart (nx := 54) rfl rfl rfl rfl ?_
      refine ev_loc f_X12_aCart (nx := 55) rfl rfl rfl rfl ?_
      refine ev_inV2 f_X12_aCart (nx := 58) (lo2 := [(0, .ref 69), (1, .int z5)]) rfl rfl rfl rfl f_X12_passes (hI.wf.s rfl) rfl rfl rfl rfl rfl ?_
      refine ev_loc f_X12_passes (nx := 1) rfl rfl rfl rfl ?_
      refine ev_heap f_X12_passes (nx := 3) rfl rfl rfl rfl ?_
      refine ev_bp f_X12_passes (nx := 5) (v := 9) rfl (by decide) rfl ?_
      refine ev_qI f_X12_passes (nx := 8) (r := []) rfl rfl rfl rfl rfl rfl rfl (c_m_wantWord hI (9)) rfl hX rfl (fun w38 gi38 gl38 gr38 l38 u38 hI hX hC38 q38 => ?_)
      have q38 : (gi31 69 14).toInt ≤ (gi38 69 14).toInt ∧ (w38.toInt = 1 → (gi38 69 12).toInt ≠ 0 → (gi31 69 14).toInt < (gi38 69 14).toInt) := q38
      obtain ⟨l39, u39⟩ := hI.b (hI.wf.s (k := 69) rfl) (t_bdK rfl : t_bd 11 12 = some (0, 4))
      obtain ⟨l40, u40⟩ := hI.b (hI.wf.s (k := 69) rfl) (t_bdK rfl : t_bd 11 14 = some (0, 900))
      refine ev_if f_X12_passes (t1 := 74) (t2 := 11) rfl rfl rfl (fun h41 => ?_) (fun h41 => ?_)
      · have u42 : w38.toInt ≤ 0 := t_equ h41 (by decide : (0:Int32).toInt ≤ (0:Int))
        refine ev_ic f_X12_passes (nx := 75) (v := 0) rfl (by decide) rfl ?_
        refine ev_retK1 f_X12_passes rfl rfl rfl ?_
        refine ev_t f_X12_aCart (t1 := 61) (t2 := 63) rfl rfl rfl (by decide) ?_
        refine ev_ic f_X12_aCart (nx := 62) (v := 0) rfl (by decide) rfl ?_
        exact ev_ret f_X12_aCart rfl rfl rfl ⟨_, _, _, rfl, hI, hX, ⟨_, rfl, (by decide : (0:Int) ≤ (0:Int32).toInt), (Int.le_trans (by decide : (0:Int32).toInt ≤ (0:Int)) (by decide : (0:Int) ≤ 1)), (show (gi 69 14).toInt ≤ (gi38 69 14).toInt ∧ (0 = 1 → (gi38 69 12).toInt ≠ 0 → (gi 69 14).toInt < (gi38 69 14).toInt) from (by omega))⟩⟩
      · have r43 : w38.toInt ≠ 0 := fun e => h41 (Int32.toInt_inj.mp (e.trans (by decide : (0:Int) = (0 : Int32).toInt)))
        have l44 : 1 ≤ w38.toInt := t_nel h41 l38 rfl rfl
        refine ev_loc f_X12_passes (nx := 12) rfl rfl rfl rfl ?_
        refine ev_loc f_X12_passes (nx := 13) rfl rfl rfl rfl ?_
        refine ev_ic f_X12_passes (nx := 14) (v := 0) rfl (by decide) rfl ?_
        refine ev_bp f_X12_passes (nx := 16) (v := 120) rfl (by decide) rfl ?_
        refine ev_inV4 f_X12_passes (nx := 19) (lo2 := [(0, .ref 69), (1, .int z5), (2, .int 0), (3, .int 120)]) rfl rfl rfl rfl f_X12_number (hI.wf.s rfl) rfl rfl rfl rfl rfl ?_
        refine ev_loc f_X12_number (nx := 1) rfl rfl rfl rfl ?_
        refine ev_gvI f_X12_number (nx := 4) (w := (gi38 69 12)) rfl (hI.wf.s rfl) rfl rfl rfl rfl ?_
        refine ev_ic f_X12_number (nx := 5) (v := 3) rfl (by decide) rfl ?_
        refine ev_if f_X12_number (t1 := 14) (t2 := 8) rfl rfl rfl (fun h45 => ?_) (fun h45 => ?_)
        · have u46 : (gi38 69 12).toInt ≤ 3 := t_equ h45 (by decide : (3:Int32).toInt ≤ (3:Int))
          have l47 : 3 ≤ (gi38 69 12).toInt := t_eql h45 (by decide : (3:Int) ≤ (3:Int32).toInt)
          refine ev_loc f_X12_number (nx := 15) rfl rfl rfl rfl ?_
          refine ev_getI f_X12_number (nx := 18) rfl (hI.wf.s rfl) rfl rfl rfl ?_
          refine ev_loc f_X12_number (nx := 19) rfl rfl rfl rfl ?_
          refine ev_if f_X12_number (t1 := 30) (t2 := 22) rfl rfl rfl (fun h48 => ?_) (fun h48 => ?_)
          · have u49 : (gi38 69 15).toInt ≤ (-1) := t_ltu h48 (by decide : (0:Int32).toInt ≤ (0:Int)) rfl
            refine ev_loc f_X12_number (nx := 31) rfl rfl rfl rfl ?_
            refine ev_ic f_X12_number (nx := 32) (v := 4) rfl (by decide) rfl ?_
            refine ev_inV2 f_X12_number (nx := 35) (lo2 := [(0, .ref 69), (1, .int 4)]) rfl rfl rfl rfl f_X12_fails (hI.wf.s rfl) rfl rfl rfl rfl rfl ?_
            refine ev_loc f_X12_fails (nx := 1) rfl rfl rfl rfl ?_
            refine ev_getI f_X12_fails (nx := 4) rfl (hI.wf.s rfl) rfl rfl rfl ?_
            refine ev_if f_X12_fails (t1 := 7) (t2 := 32) rfl rfl rfl (fun h50 => ?_) (fun h50 => ?_)
            · have u51 : (gi38 69 18).toInt ≤ 0 := t_equ h50 (by decide : (0:Int32).toInt ≤ (0:Int))
              have l52 : 0 ≤ (gi38 69 18).toInt := t_eql h50 (by decide : (0:Int) ≤ (0:Int32).toInt)
              refine ev_loc f_X12_fails (nx := 8) rfl rfl rfl rfl ?_
              refine ev_loc f_X12_fails (nx := 9) rfl rfl rfl rfl ?_
              refine ev_gvI f_X12_fails (nx := 12) (w := (gi38 69 12)) rfl (hI.wf.s rfl) rfl rfl rfl rfl ?_
              refine ev_ic f_X12_fails (nx := 13) (v := 1) rfl (by decide) rfl ?_
              refine ev_f f_X12_fails (t1 := 16) (t2 := 20) rfl rfl rfl (t_neT' (by decide : (1:Int32).toInt ≤ (1:Int)) l47 (by decide)) ?_
              refine ev_loc f_X12_fails (nx := 21) rfl rfl rfl rfl ?_
              refine ev_putIT f_X12_fails (nx := 24) rfl (hI.wf.s rfl) rfl rfl rfl (hI.put0 (hI.wf.s rfl) rfl rfl) (hX.upI rfl) (fun g53 e53 hI hX => ?_)
              refine ev_loc f_X12_fails (nx := 25) rfl rfl rfl rfl ?_
              refine ev_loc f_X12_fails (nx := 26) rfl rfl rfl rfl ?_
              refine ev_getI f_X12_fails (nx := 29) rfl (hI.wf.s rfl) rfl rfl rfl ?_
              obtain ⟨l54, u54⟩ := hI.b (hI.wf.s (k := 69) rfl) (t_bdK rfl : t_bd 11 13 = some (0, 900))
              refine ev_putIT f_X12_fails (nx := 32) rfl (hI.wf.s rfl) rfl rfl rfl (hI.put0 (hI.wf.s rfl) rfl rfl) (hX.upI rfl) (fun g55 e55 hI hX => ?_)
              refine ev_ic f_X12_fails (nx := 33) (v := 0) rfl (by decide) rfl ?_
              refine ev_retK1 f_X12_fails rfl rfl rfl ?_
              refine ev_retK1 f_X12_number rfl rfl rfl ?_
              refine ev_t f_X12_passes (t1 := 74) (t2 := 22) rfl rfl rfl (by decide) ?_
              refine ev_ic f_X12_passes (nx := 75) (v := 0) rfl (by decide) rfl ?_
              refine ev_retK1 f_X12_passes rfl rfl rfl ?_
              refine ev_t f_X12_aCart (t1 := 61) (t2 := 63) rfl rfl rfl (by decide) ?_
              refine ev_ic f_X12_aCart (nx := 62) (v := 0) rfl (by decide) rfl ?_
              exact ev_ret f_X12_aCart rfl rfl rfl ⟨_, _, _, rfl, hI, hX, ⟨_, rfl, (by decide : (0:Int) ≤ (0:Int32).toInt), (Int.le_trans (by decide : (0:Int32).toInt ≤ (0:Int)) (by decide : (0:Int) ≤ 1)), (show (gi 69 14).toInt ≤ (g55 69 14).toInt ∧ (0 = 1 → (g55 69 12).toInt ≠ 0 → (gi 69 14).toInt < (g55 69 14).toInt) from (by have ff56 : (g55 69 14).toInt = (gi38 69 14).toInt := congrArg Int32.toInt ((by rw [e55]; exact x_up2_off (Or.inr (by decide)) : g55 69 14 = g53 69 14).trans ((by rw [e53]; exact x_up2_off (Or.inr (by decide)) : g53 69 14 = gi38 69 14).trans rfl)); have ff57 : (g55 69 12).toInt = (gi38 69 12).toInt := congrArg Int32.toInt ((by rw [e55]; exact x_up2_off (Or.inr (by decide)) : g55 69 12 = g53 69 12).trans ((by rw [e53]; exact x_up2_off (Or.inr (by decide)) : g53 69 12 = gi38 69 12).trans rfl)); omega))⟩⟩
            · have r58 : (gi38 69 18).toInt ≠ 0 := fun e => h50 (Int32.toInt_inj.mp (e.trans (by decide : (0:Int) = (0 : Int32).toInt)))
              refine ev_ic f_X12_fails (nx := 33) (v := 0) rfl (by decide) rfl ?_
              refine ev_retK1 f_X12_fails rfl rfl rfl ?_
              refine ev_retK1 f_X12_number rfl rfl rfl ?_
              refine ev_t f_X12_passes (t1 := 74) (t2 := 22) rfl rfl rfl (by decide) ?_
              refine ev_ic f_X12_passes (nx := 75) (v := 0) rfl (by decide) rfl ?_
              refine ev_retK1 f_X12_passes rfl rfl rfl ?_
              refine ev_t f_X12_aCart (t1 := 61) (t2 := 63) rfl rfl rfl (by decide) ?_
              refine ev_ic f_X12_aCart (nx := 62) (v := 0) rfl (by decide) rfl ?_
              exact ev_ret f_X12_aCart rfl rfl rfl ⟨_, _, _, rfl, hI, hX, ⟨_, rfl, (by decide : (0:Int) ≤ (0:Int32).toInt), (Int.le_trans (by decide : (0:Int32).toInt ≤ (0:Int)) (by decide : (0:Int) ≤ 1)), (show (gi 69 14).toInt ≤ (gi38 69 14).toInt ∧ (0 = 1 → (gi38 69 12).toInt ≠ 0 → (gi 69 14).toInt < (gi38 69 14).toInt) from (by omega))⟩⟩
          · have l59 : 0 ≤ (gi38 69 15).toInt := t_lel (t_nlt h48) (by decide : (0:Int) ≤ (0:Int32).toInt)
            refine ev_loc f_X12_number (nx := 23) rfl rfl rfl rfl ?_
            refine ev_gvI f_X12_number (nx := 26) (w := (gi38 69 15)) rfl (hI.wf.s rfl) rfl rfl rfl rfl ?_
            refine ev_loc f_X12_number (nx := 27) rfl rfl rfl rfl ?_
            refine ev_if f_X12_number (t1 := 36) (t2 := 30) rfl rfl rfl (fun h60 => ?_) (fun h60 => ?_)
            · have u61 : (gi38 69 15).toInt ≤ 120 := t_leu h60 (by decide : (120:Int32).toInt ≤ (120:Int))
              refine ev_loc f_X12_number (nx := 37) rfl rfl rfl rfl ?_
              refine ev_getR f_X12_number (nx := 40) rfl (hI.wf.s rfl) rfl rfl (hI.wf.r rfl) rfl rfl ?_
              refine ev_loc f_X12_number (nx := 41) rfl rfl rfl rfl ?_
              refine ev_loc f_X12_number (nx := 42) rfl rfl rfl rfl ?_
              refine ev_gvI f_X12_number (nx := 45) (w := (gi38 69 15)) rfl (hI.wf.s rfl) rfl rfl rfl rfl ?_
              refine ev_iastT f_X12_number (nx := 46) rfl (hI.wf.s rfl) l5 (by decide) u5 (by decide) rfl (hI.astA (x := (gi 70 1402)) (hI.wf.s rfl) (by decide +kernel : t_abwa 70 1482 3 0 5 0 120 = true) (by omega) (by omega) (by omega) l59 u61 rfl) (hX.upI (t_inR (p := 1482) (m := 1500) rfl l5 (by decide) u5 (by decide) (by decide))) (fun g62 e62 hI hX => ?_)
              refine ev_loc f_X12_number (nx := 47) rfl rfl rfl rfl ?_
              refine ev_qN f_X12_number (nx := 50) (r := []) rfl rfl rfl rfl rfl rfl rfl (c_m_ahead hI ) rfl hX rfl (fun gi63 gl63 gr63 hI hX hC63 q63 => ?_)
              have ff64 : (g62 69 14).toInt = (gi38 69 14).toInt := congrArg Int32.toInt ((by rw [e62]; exact x_up2_off (Or.inl (by decide)) : g62 69 14 = gi38 69 14).trans rfl)
              have q63 : (g62 69 14).toInt ≤ (gi63 69 14).toInt ∧ ((gi63 69 12).toInt ≠ 0 → (g62 69 14).toInt < (gi63 69 14).toInt) := q63
              obtain ⟨l65, u65⟩ := hI.b (hI.wf.s (k := 69) rfl) (t_bdK rfl : t_bd 11 12 = some (0, 4))
              obtain ⟨l66, u66⟩ := hI.b (hI.wf.s (k := 69) rfl) (t_bdK rfl : t_bd 11 14 = some (0, 900))
              refine ev_ic f_X12_number (nx := 51) (v := 1) rfl (by decide) rfl ?_
              refine ev_retK1 f_X12_number rfl rfl rfl ?_
              refine ev_f f_X12_passes (t1 := 74) (t2 := 22) rfl rfl rfl (by decide) ?_
              refine ev_loc f_X12_passes (nx := 23) rfl rfl rfl rfl ?_
              refine ev_heap f_X12_passes (nx := 25) rfl rfl rfl rfl ?_
              refine ev_bp f_X12_passes (nx := 27) (v := 10) rfl (by decide) rfl ?_
              refine ev_qI f_X12_passes (nx := 30) (r := []) rfl rfl rfl rfl rfl rfl rfl (c_m_wantWord hI (10)) rfl hX rfl (fun w67 gi67 gl67 gr67 l67 u67 hI hX hC67 q67 => ?_)
              have q67 : (gi63 69 14).toInt ≤ (gi67 69 14).toInt ∧ (w67.toInt = 1 → (gi67 69 12).toInt ≠ 0 → (gi63 69 14).toInt < (gi67 69 14).toInt) := q67
              obtain ⟨l68, u68⟩ := hI.b (hI.wf.s (k := 69) rfl) (t_bdK rfl : t_bd 11 12 = some (0, 4))
              obtain ⟨l69, u69⟩ := hI.b (hI.wf.s (k := 69) rfl) (t_bdK rfl : t_bd 11 14 = some (0, 900))
              refine ev_if f_X12_passes (t1 := 74) (t2 := 33) rfl rfl rfl (fun h70 => ?_) (fun h70 => ?_)
              · have u71 : w67.toInt ≤ 0 := t_equ h70 (by decide : (0:Int32).toInt ≤ (0:Int))
                refine ev_ic f_X12_passes (nx := 75) (v := 0) rfl (by decide) rfl ?_
                refine ev_retK1 f_X12_passes rfl rfl rfl ?_
                refine ev_t f_X12_aCart (t1 := 61) (t2 := 63) rfl rfl rfl (by decide) ?_
                refine ev_ic f_X12_aCart (nx := 62) (v := 0) rfl (by decide) rfl ?_
                exact ev_ret f_X12_aCart rfl rfl rfl ⟨_, _, _, rfl, hI, hX, ⟨_, rfl, (by decide : (0:Int) ≤ (0:Int32).toInt), (Int.le_trans (by decide : (0:Int32).toInt ≤ (0:Int)) (by decide : (0:Int) ≤ 1)), (show (gi 69 14).toInt ≤ (gi67 69 14).toInt ∧ (0 = 1 → (gi67 69 12).toInt ≠ 0 → (gi 69 14).toInt < (gi67 69 14).toInt) from (by omega))⟩⟩
              · have r72 : w67.toInt ≠ 0 := fun e => h70 (Int32.toInt_inj.mp (e.trans (by decide : (0:Int) = (0 : Int32).toInt)))
                have l73 : 1 ≤ w67.toInt := t_nel h70 l67 rfl rfl
                refine ev_loc f_X12_passes (nx := 34) rfl rfl rfl rfl ?_
                refine ev_loc f_X12_passes (nx := 35) rfl rfl rfl rfl ?_
                refine ev_ic f_X12_passes (nx := 36) (v := 1) rfl (by decide) rfl ?_
                refine ev_addC f_X12_passes (nx := 37) (c := 1) (l := 1483) (u := 1501) rfl (by decide) l5 u5 rfl rfl (by decide) (by decide) rfl (fun z74 e74 l74 u74 => ?_)
                refine ev_ic f_X12_passes (nx := 38) (v := 1) rfl (by decide) rfl ?_
                refine ev_bp f_X12_passes (nx := 40) (v := 20) rfl (by decide) rfl ?_
                refine ev_inV4 f_X12_passes (nx := 43) (lo2 := [(0, .ref 69), (1, .int z74), (2, .int 1), (3, .int 20)]) rfl rfl rfl rfl f_X12_number (hI.wf.s rfl) rfl rfl rfl rfl rfl ?_
                refine ev_loc f_X12_number (nx := 1) rfl rfl rfl rfl ?_
                refine ev_gvI f_X12_number (nx := 4) (w := (gi67 69 12)) rfl (hI.wf.s rfl) rfl rfl rfl rfl ?_
                refine ev_ic f_X12_number (nx := 5) (v := 3) rfl (by decide) rfl ?_
                refine ev_if f_X12_number (t1 := 14) (t2 := 8) rfl rfl rfl (fun h75 => ?_) (fun h75 => ?_)
                · have u76 : (gi67 69 12).toInt ≤ 3 := t_equ h75 (by decide : (3:Int32).toInt ≤ (3:Int))
                  have l77 : 3 ≤ (gi67 69 12).toInt := t_eql h75 (by decide : (3:Int) ≤ (3:Int32).toInt)
                  refine ev_loc f_X12_number (nx := 15) rfl rfl rfl rfl ?_
                  refine ev_getI f_X12_number (nx := 18) rfl (hI.wf.s rfl) rfl rfl rfl ?_
                  refine ev_loc f_X12_number (nx := 19) rfl rfl rfl rfl ?_
                  refine ev_if f_X12_number (t1 := 30) (t2 := 22) rfl rfl rfl (fun h78 => ?_) (fun h78 => ?_)
                  · have u79 : (gi67 69 15).toInt ≤ 0 := t_ltu h78 (by decide : (1:Int32).toInt ≤ (1:Int)) rfl
                    refine ev_loc f_X12_number (nx := 31) rfl rfl rfl rfl ?_
                    refine ev_ic f_X12_number (nx := 32) (v := 4) rfl (by decide) rfl ?_
                    refine ev_inV2 f_X12_number (nx := 35) (lo2 := [(0, .ref 69), (1, .int 4)]) rfl rfl rfl rfl f_X12_fails (hI.wf.s rfl) rfl rfl rfl rfl rfl ?_
                    refine ev_loc f_X12_fails (nx := 1) rfl rfl rfl rfl ?_
                    refine ev_getI f_X12_fails (nx := 4) rfl (hI.wf.s rfl) rfl rfl rfl ?_
                    refine ev_if f_X12_fails (t1 := 7) (t2 := 32) rfl rfl rfl (fun h80 => ?_) (fun h80 => ?_)
                    · have u81 : (gi67 69 18).toInt ≤ 0 := t_equ h80 (by decide : (0:Int32).toInt ≤ (0:Int))
                      have l82 : 0 ≤ (gi67 69 18).toInt := t_eql h80 (by decide : (0:Int) ≤ (0:Int32).toInt)
                      refine ev_loc f_X12_fails (nx := 8) rfl rfl rfl rfl ?_
                      refine ev_loc f_X12_fails (nx := 9) rfl rfl rfl rfl ?_
                      refine ev_gvI f_X12_fails (nx := 12) (w := (gi67 69 12)) rfl (hI.wf.s rfl) rfl rfl rfl rfl ?_
                      refine ev_ic f_X12_fails (nx := 13) (v := 1) rfl (by decide) rfl ?_
                      refine ev_f f_X12_fails (t1 := 16) (t2 := 20) rfl rfl rfl (t_neT' (by decide : (1:Int32).toInt ≤ (1:Int)) l77 (by decide)) ?_
                      refine ev_loc f_X12_fails (nx := 21) rfl rfl rfl rfl ?_
                      refine ev_putIT f_X12_fails (nx := 24) rfl (hI.wf.s rfl) rfl rfl rfl (hI.put0 (hI.wf.s rfl) rfl rfl) (hX.upI rfl) (fun g83 e83 hI hX => ?_)
                      refine ev_loc f_X12_fails (nx := 25) rfl rfl rfl rfl ?_
                      refine ev_loc f_X12_fails (nx := 26) rfl rfl rfl rfl ?_
                      refine ev_getI f_X12_fails (nx := 29) rfl (hI.wf.s rfl) rfl rfl rfl ?_
                      obtain ⟨l84, u84⟩ := hI.b (hI.wf.s (k := 69) rfl) (t_bdK rfl : t_bd 11 13 = some (0, 900))
                      refine ev_putIT f_X12_fails (nx := 32) rfl (hI.wf.s rfl) rfl rfl rfl (hI.put0 (hI.wf.s rfl) rfl rfl) (hX.upI rfl) (fun g85 e85 hI hX => ?_)
                      refine ev_ic f_X12_fails (nx := 33) (v := 0) rfl (by decide) rfl ?_
                      refine ev_retK1 f_X12_fails rfl rfl rfl ?_
                      refine ev_retK1 f_X12_number rfl rfl rfl ?_
                      refine ev_t f_X12_passes (t1 := 74) (t2 := 46) rfl rfl rfl (by decide) ?_
                      refine ev_ic f_X12_passes (nx := 75) (v := 0) rfl (by decide) rfl ?_
                      refine ev_retK1 f_X12_passes rfl rfl rfl ?_
                      refine ev_t f_X12_aCart (t1 := 61) (t2 := 63) rfl rfl rfl (by decide) ?_
                      refine ev_ic f_X12_aCart (nx := 62) (v := 0) rfl (by decide) rfl ?_
                      exact ev_ret f_X12_aCart rfl rfl rfl ⟨_, _, _, rfl, hI, hX, ⟨_, rfl, (by decide : (0:Int) ≤ (0:Int32).toInt), (Int.le_trans (by decide : (0:Int32).toInt ≤ (0:Int)) (by decide : (0:Int) ≤ 1)), (show (gi 69 14).toInt ≤ (g85 69 14).toInt ∧ (0 = 1 → (g85 69 12).toInt ≠ 0 → (gi 69 14).toInt < (g85 69 14).toInt) from (by have ff86 : (g85 69 14).toInt = (gi67 69 14).toInt := congrArg Int32.toInt ((by rw [e85]; exact x_up2_off (Or.inr (by decide)) : g85 69 14 = g83 69 14).trans ((by rw [e83]; exact x_up2_off (Or.inr (by decide)) : g83 69 14 = gi67 69 14).trans rfl)); have ff87 : (g85 69 12).toInt = (gi67 69 12).toInt := congrArg Int32.toInt ((by rw [e85]; exact x_up2_off (Or.inr (by decide)) : g85 69 12 = g83 69 12).trans ((by rw [e83]; exact x_up2_off (Or.inr (by decide)) : g83 69 12 = gi67 69 12).trans rfl)); omega))⟩⟩
                    · have r88 : (gi67 69 18).toInt ≠ 0 := fun e => h80 (Int32.toInt_inj.mp (e.trans (by decide : (0:Int) = (0 : Int32).toInt)))
                      refine ev_ic f_X12_fails (nx := 33) (v := 0) rfl (by decide) rfl ?_
                      refine ev_retK1 f_X12_fails rfl rfl rfl ?_
                      refine ev_retK1 f_X12_number rfl rfl rfl ?_
                      refine ev_t f_X12_passes (t1 := 74) (t2 := 46) rfl rfl rfl (by decide) ?_
                      refine ev_ic f_X12_passes (nx := 75) (v := 0) rfl (by decide) rfl ?_
                      refine ev_retK1 f_X12_passes rfl rfl rfl ?_
                      refine ev_t f_X12_aCart (t1 := 61) (t2 := 63) rfl rfl rfl (by decide) ?_
                      refine ev_ic f_X12_aCart (nx := 62) (v := 0) rfl (by decide) rfl ?_
                      exact ev_ret f_X12_aCart rfl rfl rfl ⟨_, _, _, rfl, hI, hX, ⟨_, rfl, (by decide : (0:Int) ≤ (0:Int32).toInt), (Int.le_trans (by decide : (0:Int32).toInt ≤ (0:Int)) (by decide : (0:Int) ≤ 1)), (show (gi 69 14).toInt ≤ (gi67 69 14).toInt ∧ (0 = 1 → (gi67 69 12).toInt ≠ 0 → (gi 69 14).toInt < (gi67 69 14).toInt) from (by omega))⟩⟩
                  · have l89 : 1 ≤ (gi67 69 15).toInt := t_lel (t_nlt h78) (by decide : (1:Int) ≤ (1:Int32).toInt)
                    refine ev_loc f_X12_number (nx := 23) rfl rfl rfl rfl ?_
                    refine ev_gvI f_X12_number (nx := 26) (w := (gi67 69 15)) rfl (hI.wf.s rfl) rfl rfl rfl rfl ?_
                    refine ev_loc f_X12_number (nx := 27) rfl rfl rfl rfl ?_
                    refine ev_if f_X12_number (t1 := 36) (t2 := 30) rfl rfl rfl (fun h90 => ?_) (fun h90 => ?_)
                    · have u91 : (gi67 69 15).toInt ≤ 20 := t_leu h90 (by decide : (20:Int32).toInt ≤ (20:Int))
                      refine ev_loc f_X12_number (nx := 37) rfl rfl rfl rfl ?_
                      refine ev_getR f_X12_number (nx := 40) rfl (hI.wf.s rfl) rfl rfl (hI.wf.r rfl) rfl rfl ?_
                      refine ev_loc f_X12_number (nx := 41) rfl rfl rfl rfl ?_
                      refine ev_loc f_X12_number (nx := 42) rfl rfl rfl rfl ?_
                      refine ev_gvI f_X12_number (nx := 45) (w := (gi67 69 15)) rfl (hI.wf.s rfl) rfl rfl rfl rfl ?_
                      refine ev_iastT f_X12_number (nx := 46) rfl (hI.wf.s rfl) l74 (by decide) u74 (by decide) rfl (hI.astA (x := (gi 70 1402)) (hI.wf.s rfl) (by decide +kernel : t_abwa 70 1483 3 0 5 1 20 = true) (by omega) (by omega) (by omega) l89 u91 rfl) (hX.upI (t_inR (p := 1483) (m := 1501) rfl l74 (by decide) u74 (by decide) (by decide))) (fun g92 e92 hI hX => ?_)
                      refine ev_loc f_X12_number (nx := 47) rfl rfl rfl rfl ?_
                      refine ev_qN f_X12_number (nx := 50) (r := []) rfl rfl rfl rfl rfl rfl rfl (c_m_ahead hI ) rfl hX rfl (fun gi93 gl93 gr93 hI hX hC93 q93 => ?_)
                      have ff94 : (g92 69 14).toInt = (gi67 69 14).toInt := congrArg Int32.toInt ((by rw [e92]; exact x_up2_off (Or.inl (by decide)) : g92 69 14 = gi67 69 14).trans rfl)
                      have q93 : (g92 69 14).toInt ≤ (gi93 69 14).toInt ∧ ((gi93 69 12).toInt ≠ 0 → (g92 69 14).toInt < (gi93 69 14).toInt) := q93
                      obtain ⟨l95, u95⟩ := hI.b (hI.wf.s (k := 69) rfl) (t_bdK rfl : t_bd 11 12 = some (0, 4))
                      obtain ⟨l96, u96⟩ := hI.b (hI.wf.s (k := 69) rfl) (t_bdK rfl : t_bd 11 14 = some (0, 900))
                      refine ev_ic f_X12_number (nx := 51) (v := 1) rfl (by decide) rfl ?_
                      refine ev_retK1 f_X12_number rfl rfl rfl ?_
                      refine ev_f f_X12_passes (t1 := 74) (t2 := 46) rfl rfl rfl (by decide) ?_
                      refine ev_loc f_X12_passes (nx := 47) rfl rfl rfl rfl ?_
                      refine ev_heap f_X12_passes (nx := 49) rfl rfl rfl rfl ?_
                      refine ev_bp f_X12_passes (nx := 51) (v := 11) rfl (by decide) rfl ?_
                      refine ev_qI f_X12_passes (nx := 54) (r := []) rfl rfl rfl rfl rfl rfl rfl (c_m_wantWord hI (11)) rfl hX rfl (fun w97 gi97 gl97 gr97 l97 u97 hI hX hC97 q97 => ?_)
                      have q97 : (gi93 69 14).toInt ≤ (gi97 69 14).toInt ∧ (w97.toInt = 1 → (gi97 69 12).toInt ≠ 0 → (gi93 69 14).toInt < (gi97 69 14).toInt) := q97
                      obtain ⟨l98, u98⟩ := hI.b (hI.wf.s (k := 69) rfl) (t_bdK rfl : t_bd 11 12 = some (0, 4))
                      obtain ⟨l99, u99⟩ := hI.b (hI.wf.s (k := 69) rfl) (t_bdK rfl : t_bd 11 14 = some (0, 900))
                      refine ev_if f_X12_passes (t1 := 74) (t2 := 57) rfl rfl rfl (fun h100 => ?_) (fun h100 => ?_)
                      · have u101 : w97.toInt ≤ 0 := t_equ h100 (by decide : (0:Int32).toInt ≤ (0:Int))
                        refine ev_ic f_X12_passes (nx := 75) (v := 0) rfl (by decide) rfl ?_
                        refine ev_retK1 f_X12_passes rfl rfl rfl ?_
                        refine ev_t f_X12_aCart (t1 := 61) (t2 := 63) rfl rfl rfl (by decide) ?_
                        refine ev_ic f_X12_aCart (nx := 62) (v := 0) rfl (by decide) rfl ?_
                        exact ev_ret f_X12_aCart rfl rfl rfl ⟨_, _, _, rfl, hI, hX, ⟨_, rfl, (by decide : (0:Int) ≤ (0:Int32).toInt), (Int.le_trans (by decide : (0:Int32).toInt ≤ (0:Int)) (by decide : (0:Int) ≤ 1)), (show (gi 69 14).toInt ≤ (gi97 69 14).toInt ∧ (0 = 1 → (gi97 69 12).toInt ≠ 0 → (gi 69 14).toInt < (gi97 69 14).toInt) from (by omega))⟩⟩
                      · have r102 : w97.toInt ≠ 0 := fun e => h100 (Int32.toInt_inj.mp (e.trans (by decide : (0:Int) = (0 : Int32).toInt)))
                        have l103 : 1 ≤ w97.toInt := t_nel h100 l97 rfl rfl
                        refine ev_loc f_X12_passes (nx := 58) rfl rfl rfl rfl ?_
                        refine ev_loc f_X12_passes (nx := 59) rfl rfl rfl rfl ?_
                        refine ev_ic f_X12_passes (nx := 60) (v := 2) rfl (by decide) rfl ?_
                        refine ev_addC f_X12_passes (nx := 61) (c := 2) (l := 1484) (u := 1502) rfl (by decide) l5 u5 rfl rfl (by decide) (by decide) rfl (fun z104 e104 l104 u104 => ?_)
                        refine ev_ic f_X12_passes (nx := 62) (v := 0) rfl (by decide) rfl ?_
                        refine ev_bp f_X12_passes (nx := 64) (v := 99) rfl (by decide) rfl ?_
                        refine ev_inV4 f_X12_passes (nx := 67) (lo2 := [(0, .ref 69), (1, .int z104), (2, .int 0), (3, .int 99)]) rfl rfl rfl rfl f_X12_number (hI.wf.s rfl) rfl rfl rfl rfl rfl ?_
                        refine ev_loc f_X12_number (nx := 1) rfl rfl rfl rfl ?_
                        refine ev_gvI f_X12_number (nx := 4) (w := (gi97 69 12)) rfl (hI.wf.s rfl) rfl rfl rfl rfl ?_
                        refine ev_ic f_X12_number (nx := 5) (v := 3) rfl (by decide) rfl ?_
                        refine ev_if f_X12_number (t1 := 14) (t2 := 8) rfl rfl rfl (fun h105 => ?_) (fun h105 => ?_)
                        · have u106 : (gi97 69 12).toInt ≤ 3 := t_equ h105 (by decide : (3:Int32).toInt ≤ (3:Int))
                          have l107 : 3 ≤ (gi97 69 12).toInt := t_eql h105 (by decide : (3:Int) ≤ (3:Int32).toInt)
                          refine ev_loc f_X12_number (nx := 15) rfl rfl rfl rfl ?_
                          refine ev_getI f_X12_number (nx := 18) rfl (hI.wf.s rfl) rfl rfl rfl ?_
                          refine ev_loc f_X12_number (nx := 19) rfl rfl rfl rfl ?_
                          refine ev_if f_X12_number (t1 := 30) (t2 := 22) rfl rfl rfl (fun h108 => ?_) (fun h108 => ?_)
                          · have u109 : (gi97 69 15).toInt ≤ (-1) := t_ltu h108 (by decide : (0:Int32).toInt ≤ (0:Int)) rfl
                            refine ev_loc f_X12_number (nx := 31) rfl rfl rfl rfl ?_
                            refine ev_ic f_X12_number (nx := 32) (v := 4) rfl (by decide) rfl ?_
                            refine ev_inV2 f_X12_number (nx := 35) (lo2 := [(0, .ref 69), (1, .int 4)]) rfl rfl rfl rfl f_X12_fails (hI.wf.s rfl) rfl rfl rfl rfl rfl ?_
                            refine ev_loc f_X12_fails (nx := 1) rfl rfl rfl rfl ?_
                            refine ev_getI f_X12_fails (nx := 4) rfl (hI.wf.s rfl) rfl rfl rfl ?_
                            refine ev_if f_X12_fails (t1 := 7) (t2 := 32) rfl rfl rfl (fun h110 => ?_) (fun h110 => ?_)
                            · have u111 : (gi97 69 18).toInt ≤ 0 := t_equ h110 (by decide : (0:Int32).toInt ≤ (0:Int))
                              have l112 : 0 ≤ (gi97 69 18).toInt := t_eql h110 (by decide : (0:Int) ≤ (0:Int32).toInt)
                              refine ev_loc f_X12_fails (nx := 8) rfl rfl rfl rfl ?_
                              refine ev_loc f_X12_fails (nx := 9) rfl rfl rfl rfl ?_
                              refine ev_gvI f_X12_fails (nx := 12) (w := (gi97 69 12)) rfl (hI.wf.s rfl) rfl rfl rfl rfl ?_
                              refine ev_ic f_X12_fails (nx := 13) (v := 1) rfl (by decide) rfl ?_
                              refine ev_f f_X12_fails (t1 := 16) (t2 := 20) rfl rfl rfl (t_neT' (by decide : (1:Int32).toInt ≤ (1:Int)) l107 (by decide)) ?_
                              refine ev_loc f_X12_fails (nx := 21) rfl rfl rfl rfl ?_
                              refine ev_putIT f_X12_fails (nx := 24) rfl (hI.wf.s rfl) rfl rfl rfl (hI.put0 (hI.wf.s rfl) rfl rfl) (hX.upI rfl) (fun g113 e113 hI hX => ?_)
                              refine ev_loc f_X12_fails (nx := 25) rfl rfl rfl rfl ?_
                              refine ev_loc f_X12_fails (nx := 26) rfl rfl rfl rfl ?_
                              refine ev_getI f_X12_fails (nx := 29) rfl (hI.wf.s rfl) rfl rfl rfl ?_
                              obtain ⟨l114, u114⟩ := hI.b (hI.wf.s (k := 69) rfl) (t_bdK rfl : t_bd 11 13 = some (0, 900))
                              refine ev_putIT f_X12_fails (nx := 32) rfl (hI.wf.s rfl) rfl rfl rfl (hI.put0 (hI.wf.s rfl) rfl rfl) (hX.upI rfl) (fun g115 e115 hI hX => ?_)
                              refine ev_ic f_X12_fails (nx := 33) (v := 0) rfl (by decide) rfl ?_
                              refine ev_retK1 f_X12_fails rfl rfl rfl ?_
                              refine ev_retK1 f_X12_number rfl rfl rfl ?_
                              refine ev_t f_X12_passes (t1 := 74) (t2 := 70) rfl rfl rfl (by decide) ?_
                              refine ev_ic f_X12_passes (nx := 75) (v := 0) rfl (by decide) rfl ?_
                              refine ev_retK1 f_X12_passes rfl rfl rfl ?_
                              refine ev_t f_X12_aCart (t1 := 61) (t2 := 63) rfl rfl rfl (by decide) ?_
                              refine ev_ic f_X12_aCart (nx := 62) (v := 0) rfl (by decide) rfl ?_
                              exact ev_ret f_X12_aCart rfl rfl rfl ⟨_, _, _, rfl, hI, hX, ⟨_, rfl, (by decide : (0:Int) ≤ (0:Int32).toInt), (Int.le_trans (by decide : (0:Int32).toInt ≤ (0:Int)) (by decide : (0:Int) ≤ 1)), (show (gi 69 14).toInt ≤ (g115 69 14).toInt ∧ (0 = 1 → (g115 69 12).toInt ≠ 0 → (gi 69 14).toInt < (g115 69 14).toInt) from (by have ff116 : (g115 69 14).toInt = (gi97 69 14).toInt := congrArg Int32.toInt ((by rw [e115]; exact x_up2_off (Or.inr (by decide)) : g115 69 14 = g113 69 14).trans ((by rw [e113]; exact x_up2_off (Or.inr (by decide)) : g113 69 14 = gi97 69 14).trans rfl)); have ff117 : (g115 69 12).toInt = (gi97 69 12).toInt := congrArg Int32.toInt ((by rw [e115]; exact x_up2_off (Or.inr (by decide)) : g115 69 12 = g113 69 12).trans ((by rw [e113]; exact x_up2_off (Or.inr (by decide)) : g113 69 12 = gi97 69 12).trans rfl)); omega))⟩⟩
                            · have r118 : (gi97 69 18).toInt ≠ 0 := fun e => h110 (Int32.toInt_inj.mp (e.trans (by decide : (0:Int) = (0 : Int32).toInt)))
                              refine ev_ic f_X12_fails (nx := 33) (v := 0) rfl (by decide) rfl ?_
                              refine ev_retK1 f_X12_fails rfl rfl rfl ?_
                              refine ev_retK1 f_X12_number rfl rfl rfl ?_
                              refine ev_t f_X12_passes (t1 := 74) (t2 := 70) rfl rfl rfl (by decide) ?_
                              refine ev_ic f_X12_passes (nx := 75) (v := 0) rfl (by decide) rfl ?_
                              refine ev_retK1 f_X12_passes rfl rfl rfl ?_
                              refine ev_t f_X12_aCart (t1 := 61) (t2 := 63) rfl rfl rfl (by decide) ?_
                              refine ev_ic f_X12_aCart (nx := 62) (v := 0) rfl (by decide) rfl ?_
                              exact ev_ret f_X12_aCart rfl rfl rfl ⟨_, _, _, rfl, hI, hX, ⟨_, rfl, (by decide : (0:Int) ≤ (0:Int32).toInt), (Int.le_trans (by decide : (0:Int32).toInt ≤ (0:Int)) (by decide : (0:Int) ≤ 1)), (show (gi 69 14).toInt ≤ (gi97 69 14).toInt ∧ (0 = 1 → (gi97 69 12).toInt ≠ 0 → (gi 69 14).toInt < (gi97 69 14).toInt) from (by omega))⟩⟩
                          · have l119 : 0 ≤ (gi97 69 15).toInt := t_lel (t_nlt h108) (by decide : (0:Int) ≤ (0:Int32).toInt)
                            refine ev_loc f_X12_number (nx := 23) rfl rfl rfl rfl ?_
                            refine ev_gvI f_X12_number (nx := 26) (w := (gi97 69 15)) rfl (hI.wf.s rfl) rfl rfl rfl rfl ?_
                            refine ev_loc f_X12_number (nx := 27) rfl rfl rfl rfl ?_
                            refine ev_if f_X12_number (t1 := 36) (t2 := 30) rfl rfl rfl (fun h120 => ?_) (fun h120 => ?_)
                            · have u121 : (gi97 69 15).toInt ≤ 99 := t_leu h120 (by decide : (99:Int32).toInt ≤ (99:Int))
                              refine ev_loc f_X12_number (nx := 37) rfl rfl rfl rfl ?_
                              refine ev_getR f_X12_number (nx := 40) rfl (hI.wf.s rfl) rfl rfl (hI.wf.r rfl) rfl rfl ?_
                              refine ev_loc f_X12_number (nx := 41) rfl rfl rfl rfl ?_
                              refine ev_loc f_X12_number (nx := 42) rfl rfl rfl rfl ?_
                              refine ev_gvI f_X12_number (nx := 45) (w := (gi97 69 15)) rfl (hI.wf.s rfl) rfl rfl rfl rfl ?_
                              refine ev_iastT f_X12_number (nx := 46) rfl (hI.wf.s rfl) l104 (by decide) u104 (by decide) rfl (hI.astA (x := (gi 70 1402)) (hI.wf.s rfl) (by decide +kernel : t_abwa 70 1484 3 0 5 0 99 = true) (by omega) (by omega) (by omega) l119 u121 rfl) (hX.upI (t_inR (p := 1484) (m := 1502) rfl l104 (by decide) u104 (by decide) (by decide))) (fun g122 e122 hI hX => ?_)
                              refine ev_loc f_X12_number (nx := 47) rfl rfl rfl rfl ?_
                              refine ev_qN f_X12_number (nx := 50) (r := []) rfl rfl rfl rfl rfl rfl rfl (c_m_ahead hI ) rfl hX rfl (fun gi123 gl123 gr123 hI hX hC123 q123 => ?_)
                              have ff124 : (g122 69 14).toInt = (gi97 69 14).toInt := congrArg Int32.toInt ((by rw [e122]; exact x_up2_off (Or.inl (by decide)) : g122 69 14 = gi97 69 14).trans rfl)
                              have q123 : (g122 69 14).toInt ≤ (gi123 69 14).toInt ∧ ((gi123 69 12).toInt ≠ 0 → (g122 69 14).toInt < (gi123 69 14).toInt) := q123
                              obtain ⟨l125, u125⟩ := hI.b (hI.wf.s (k := 69) rfl) (t_bdK rfl : t_bd 11 12 = some (0, 4))
                              obtain ⟨l126, u126⟩ := hI.b (hI.wf.s (k := 69) rfl) (t_bdK rfl : t_bd 11 14 = some (0, 900))
                              refine ev_ic f_X12_number (nx := 51) (v := 1) rfl (by decide) rfl ?_
                              refine ev_retK1 f_X12_number rfl rfl rfl ?_
                              refine ev_f f_X12_passes (t1 := 74) (t2 := 70) rfl rfl rfl (by decide) ?_
                              refine ev_ic f_X12_passes (nx := 71) (v := 1) rfl (by decide) rfl ?_
                              refine ev_jmp f_X12_passes (nx := 75) rfl rfl rfl ?_
                              refine ev_retK1 f_X12_passes rfl rfl rfl ?_
                              refine ev_f f_X12_aCart (t1 := 61) (t2 := 63) rfl rfl rfl (by decide) ?_
                              refine ev_loc f_X12_aCart (nx := 64) rfl rfl rfl rfl ?_
                              refine ev_getR f_X12_aCart (nx := 67) rfl (hI.wf.s rfl) rfl rfl (hI.wf.r rfl) rfl rfl ?_
                              refine ev_sp f_X12_aCart (nx := 70) (v := 1402) rfl (by decide) rfl ?_
                              refine ev_alu f_X12_aCart (nx := 71) rfl rfl rfl rfl ?_
                              refine ev_ialdv f_X12_aCart (nx := 72) (w := (gi 70 1402)) rfl (hI.wf.s rfl) (by decide) (rfl : (1402 : Int32).toNatClampNeg = 1402) (by decide) ((hC123.1 70 1402 rfl).1.trans ((by rw [e122]; exact x_up2_off (Or.inr (t_neCl l104 (by decide))) : g122 70 1402 = gi97 70 1402).trans ((hC97.1 70 1402 rfl).1.trans ((hC93.1 70 1402 rfl).1.trans ((by rw [e92]; exact x_up2_off (Or.inr (t_neCl l74 (by decide))) : g92 70 1402 = gi67 70 1402).trans ((hC67.1 70 1402 rfl).1.trans ((hC63.1 70 1402 rfl).1.trans ((by rw [e62]; exact x_up2_off (Or.inr (t_neCl l5 (by decide))) : g62 70 1402 = gi38 70 1402).trans ((hC38.1 70 1402 rfl).1.trans ((hC31.1 70 1402 rfl).1.trans rfl)))))))))) rfl ?_
                              refine ev_ic f_X12_aCart (nx := 73) (v := 1) rfl (by decide) rfl ?_
                              refine ev_addC f_X12_aCart (nx := 74) (c := 1) (l := 1) (u := 6) rfl (by decide) l3 u28 rfl rfl (by decide) (by decide) rfl (fun z128 e128 l128 u128 => ?_)
                              refine ev_iastT f_X12_aCart (nx := 75) rfl (hI.wf.s rfl) (by decide : (1402:Int) ≤ (1402:Int32).toInt) (by decide) (by decide : (1402:Int32).toInt ≤ (1402:Int)) (by decide) rfl (hI.astL (hI.wf.s rfl) (by decide +kernel : t_abw 70 1402 1402 1 6 = true) (t_cl1 (by decide : (1402:Int) ≤ (1402:Int32).toInt) (by decide)) (t_cl2 (by decide : (1402:Int) ≤ (1402:Int32).toInt) (by decide : (1402:Int32).toInt ≤ (1402:Int)) (by decide) (by decide)) l128 u128 rfl) (hX.upI (t_inR (p := 1402) (m := 1402) rfl (by decide : (1402:Int) ≤ (1402:Int32).toInt) (by decide) (by decide : (1402:Int32).toInt ≤ (1402:Int)) (by decide) (by decide))) (fun g129 e129 hI hX => ?_)
                              refine ev_ic f_X12_aCart (nx := 76) (v := 1) rfl (by decide) rfl ?_
                              exact ev_ret f_X12_aCart rfl rfl rfl ⟨_, _, _, rfl, hI, hX, ⟨_, rfl, (Int.le_trans (by decide : (0:Int) ≤ 1) (by decide : (1:Int) ≤ (1:Int32).toInt)), (by decide : (1:Int32).toInt ≤ (1:Int)), (show (gi 69 14).toInt ≤ (g129 69 14).toInt ∧ (1 = 1 → (g129 69 12).toInt ≠ 0 → (gi 69 14).toInt < (g129 69 14).toInt) from (by have ff130 : (g129 69 14).toInt = (gi123 69 14).toInt := congrArg Int32.toInt ((by rw [e129]; exact x_up2_off (Or.inl (by decide)) : g129 69 14 = gi123 69 14).trans rfl); have ff131 : (g129 69 12).toInt = (gi123 69 12).toInt := congrArg Int32.toInt ((by rw [e129]; exact x_up2_off (Or.inl (by decide)) : g129 69 12 = gi123 69 12).trans rfl); omega))⟩⟩
                            · have l132 : 100 ≤ (gi97 69 15).toInt := t_ltl (t_nle h120) (by decide : (99:Int) ≤ (99:Int32).toInt) rfl
                              refine ev_loc f_X12_number (nx := 31) rfl rfl rfl rfl ?_
                              refine ev_ic f_X12_number (nx := 32) (v := 4) rfl (by decide) rfl ?_
                              refine ev_inV2 f_X12_number (nx := 35) (lo2 := [(0, .ref 69), (1, .int 4)]) rfl rfl rfl rfl f_X12_fails (hI.wf.s rfl) rfl rfl rfl rfl rfl ?_
                              refine ev_loc f_X12_fails (nx := 1) rfl rfl rfl rfl ?_
                              refine ev_getI f_X12_fails (nx := 4) rfl (hI.wf.s rfl) rfl rfl rfl ?_
                              refine ev_if f_X12_fails (t1 := 7) (t2 := 32) rfl rfl rfl (fun h133 => ?_) (fun h133 => ?_)
                              · have u134 : (gi97 69 18).toInt ≤ 0 := t_equ h133 (by decide : (0:Int32).toInt ≤ (0:Int))
                                have l135 : 0 ≤ (gi97 69 18).toInt := t_eql h133 (by decide : (0:Int) ≤ (0:Int32).toInt)
                                refine ev_loc f_X12_fails (nx := 8) rfl rfl rfl rfl ?_
                                refine ev_loc f_X12_fails (nx := 9) rfl rfl rfl rfl ?_
                                refine ev_gvI f_X12_fails (nx := 12) (w := (gi97 69 12)) rfl (hI.wf.s rfl) rfl rfl rfl rfl ?_
                                refine ev_ic f_X12_fails (nx := 13) (v := 1) rfl (by decide) rfl ?_
                                refine ev_f f_X12_fails (t1 := 16) (t2 := 20) rfl rfl rfl (t_neT' (by decide : (1:Int32).toInt ≤ (1:Int)) l107 (by decide)) ?_
                                refine ev_loc f_X12_fails (nx := 21) rfl rfl rfl rfl ?_
                                refine ev_putIT f_X12_fails (nx := 24) rfl (hI.wf.s rfl) rfl rfl rfl (hI.put0 (hI.wf.s rfl) rfl rfl) (hX.upI rfl) (fun g136 e136 hI hX => ?_)
                                refine ev_loc f_X12_fails (nx := 25) rfl rfl rfl rfl ?_
                                refine ev_loc f_X12_fails (nx := 26) rfl rfl rfl rfl ?_
                                refine ev_getI f_X12_fails (nx := 29) rfl (hI.wf.s rfl) rfl rfl rfl ?_
                                obtain ⟨l137, u137⟩ := hI.b (hI.wf.s (k := 69) rfl) (t_bdK rfl : t_bd 11 13 = some (0, 900))
                                refine ev_putIT f_X12_fails (nx := 32) rfl (hI.wf.s rfl) rfl rfl rfl (hI.put0 (hI.wf.s rfl) rfl rfl) (hX.upI rfl) (fun g138 e138 hI hX => ?_)
                                refine ev_ic f_X12_fails (nx := 33) (v := 0) rfl (by decide) rfl ?_
                                refine ev_retK1 f_X12_fails rfl rfl rfl ?_
                                refine ev_retK1 f_X12_number rfl rfl rfl ?_
                                refine ev_t f_X12_passes (t1 := 74) (t2 := 70) rfl rfl rfl (by decide) ?_
                                refine ev_ic f_X12_passes (nx := 75) (v := 0) rfl (by decide) rfl ?_
                                refine ev_retK1 f_X12_passes rfl rfl rfl ?_
                                refine ev_t f_X12_aCart (t1 := 61) (t2 := 63) rfl rfl rfl (by decide) ?_
                                refine ev_ic f_X12_aCart (nx := 62) (v := 0) rfl (by decide) rfl ?_
                                exact ev_ret f_X12_aCart rfl rfl rfl ⟨_, _, _, rfl, hI, hX, ⟨_, rfl, (by decide : (0:Int) ≤ (0:Int32).toInt), (Int.le_trans (by decide : (0:Int32).toInt ≤ (0:Int)) (by decide : (0:Int) ≤ 1)), (show (gi 69 14).toInt ≤ (g138 69 14).toInt ∧ (0 = 1 → (g138 69 12).toInt ≠ 0 → (gi 69 14).toInt < (g138 69 14).toInt) from (by have ff139 : (g138 69 14).toInt = (gi97 69 14).toInt := congrArg Int32.toInt ((by rw [e138]; exact x_up2_off (Or.inr (by decide)) : g138 69 14 = g136 69 14).trans ((by rw [e136]; exact x_up2_off (Or.inr (by decide)) : g136 69 14 = gi97 69 14).trans rfl)); have ff140 : (g138 69 12).toInt = (gi97 69 12).toInt := congrArg Int32.toInt ((by rw [e138]; exact x_up2_off (Or.inr (by decide)) : g138 69 12 = g136 69 12).trans ((by rw [e136]; exact x_up2_off (Or.inr (by decide)) : g136 69 12 = gi97 69 12).trans rfl)); omega))⟩⟩
                              · have r141 : (gi97 69 18).toInt ≠ 0 := fun e => h133 (Int32.toInt_inj.mp (e.trans (by decide : (0:Int) = (0 : Int32).toInt)))
                                refine ev_ic f_X12_fails (nx := 33) (v := 0) rfl (by decide) rfl ?_
                                refine ev_retK1 f_X12_fails rfl rfl rfl ?_
                                refine ev_retK1 f_X12_number rfl rfl rfl ?_
                                refine ev_t f_X12_passes (t1 := 74) (t2 := 70) rfl rfl rfl (by decide) ?_
                                refine ev_ic f_X12_passes (nx := 75) (v := 0) rfl (by decide) rfl ?_
                                refine ev_retK1 f_X12_passes rfl rfl rfl ?_
                                refine ev_t f_X12_aCart (t1 := 61) (t2 := 63) rfl rfl rfl (by decide) ?_
                                refine ev_ic f_X12_aCart (nx := 62) (v := 0) rfl (by decide) rfl ?_
                                exact ev_ret f_X12_aCart rfl rfl rfl ⟨_, _, _, rfl, hI, hX, ⟨_, rfl, (by decide : (0:Int) ≤ (0:Int32).toInt), (Int.le_trans (by decide : (0:Int32).toInt ≤ (0:Int)) (by decide : (0:Int) ≤ 1)), (show (gi 69 14).toInt ≤ (gi97 69 14).toInt ∧ (0 = 1 → (gi97 69 12).toInt ≠ 0 → (gi 69 14).toInt < (gi97 69 14).toInt) from (by omega))⟩⟩
                        · have r142 : (gi97 69 12).toInt ≠ 3 := fun e => h105 (Int32.toInt_inj.mp (e.trans (by decide : (3:Int) = (3 : Int32).toInt)))
                          refine ev_loc f_X12_number (nx := 9) rfl rfl rfl rfl ?_
                          refine ev_ic f_X12_number (nx := 10) (v := 2) rfl (by decide) rfl ?_
                          refine ev_inV2 f_X12_number (nx := 13) (lo2 := [(0, .ref 69), (1, .int 2)]) rfl rfl rfl rfl f_X12_fails (hI.wf.s rfl) rfl rfl rfl rfl rfl ?_
                          refine ev_loc f_X12_fails (nx := 1) rfl rfl rfl rfl ?_
                          refine ev_getI f_X12_fails (nx := 4) rfl (hI.wf.s rfl) rfl rfl rfl ?_
                          refine ev_if f_X12_fails (t1 := 7) (t2 := 32) rfl rfl rfl (fun h143 => ?_) (fun h143 => ?_)
                          · have u144 : (gi97 69 18).toInt ≤ 0 := t_equ h143 (by decide : (0:Int32).toInt ≤ (0:Int))
                            have l145 : 0 ≤ (gi97 69 18).toInt := t_eql h143 (by decide : (0:Int) ≤ (0:Int32).toInt)
                            refine ev_loc f_X12_fails (nx := 8) rfl rfl rfl rfl ?_
                            refine ev_loc f_X12_fails (nx := 9) rfl rfl rfl rfl ?_
                            refine ev_gvI f_X12_fails (nx := 12) (w := (gi97 69 12)) rfl (hI.wf.s rfl) rfl rfl rfl rfl ?_
                            refine ev_ic f_X12_fails (nx := 13) (v := 1) rfl (by decide) rfl ?_
                            refine ev_if f_X12_fails (t1 := 16) (t2 := 20) rfl rfl rfl (fun h146 => ?_) (fun h146 => ?_)
                            · have u147 : (gi97 69 12).toInt ≤ 1 := t_equ h146 (by decide : (1:Int32).toInt ≤ (1:Int))
                              have l148 : 1 ≤ (gi97 69 12).toInt := t_eql h146 (by decide : (1:Int) ≤ (1:Int32).toInt)
                              refine ev_ic f_X12_fails (nx := 17) (v := 1) rfl (by decide) rfl ?_
                              refine ev_jmp f_X12_fails (nx := 21) rfl rfl rfl ?_
                              refine ev_putIT f_X12_fails (nx := 24) rfl (hI.wf.s rfl) rfl rfl rfl (hI.put0 (hI.wf.s rfl) rfl rfl) (hX.upI rfl) (fun g149 e149 hI hX => ?_)
                              refine ev_loc f_X12_fails (nx := 25) rfl rfl rfl rfl ?_
                              refine ev_loc f_X12_fails (nx := 26) rfl rfl rfl rfl ?_
                              refine ev_getI f_X12_fails (nx := 29) rfl (hI.wf.s rfl) rfl rfl rfl ?_
                              obtain ⟨l150, u150⟩ := hI.b (hI.wf.s (k := 69) rfl) (t_bdK rfl : t_bd 11 13 = some (0, 900))
                              refine ev_putIT f_X12_fails (nx := 32) rfl (hI.wf.s rfl) rfl rfl rfl (hI.put0 (hI.wf.s rfl) rfl rfl) (hX.upI rfl) (fun g151 e151 hI hX => ?_)
                              refine ev_ic f_X12_fails (nx := 33) (v := 0) rfl (by decide) rfl ?_
                              refine ev_retK1 f_X12_fails rfl rfl rfl ?_
                              refine ev_retK1 f_X12_number rfl rfl rfl ?_
                              refine ev_t f_X12_passes (t1 := 74) (t2 := 70) rfl rfl rfl (by decide) ?_
                              refine ev_ic f_X12_passes (nx := 75) (v := 0) rfl (by decide) rfl ?_
                              refine ev_retK1 f_X12_passes rfl rfl rfl ?_
                              refine ev_t f_X12_aCart (t1 := 61) (t2 := 63) rfl rfl rfl (by decide) ?_
                              refine ev_ic f_X12_aCart (nx := 62) (v := 0) rfl (by decide) rfl ?_
                              exact ev_ret f_X12_aCart rfl rfl rfl ⟨_, _, _, rfl, hI, hX, ⟨_, rfl, (by decide : (0:Int) ≤ (0:Int32).toInt), (Int.le_trans (by decide : (0:Int32).toInt ≤ (0:Int)) (by decide : (0:Int) ≤ 1)), (show (gi 69 14).toInt ≤ (g151 69 14).toInt ∧ (0 = 1 → (g151 69 12).toInt ≠ 0 → (gi 69 14).toInt < (g151 69 14).toInt) from (by have ff152 : (g151 69 14).toInt = (gi97 69 14).toInt := congrArg Int32.toInt ((by rw [e151]; exact x_up2_off (Or.inr (by decide)) : g151 69 14 = g149 69 14).trans ((by rw [e149]; exact x_up2_off (Or.inr (by decide)) : g149 69 14 = gi97 69 14).trans rfl)); have ff153 : (g151 69 12).toInt = (gi97 69 12).toInt := congrArg Int32.toInt ((by rw [e151]; exact x_up2_off (Or.inr (by decide)) : g151 69 12 = g149 69 12).trans ((by rw [e149]; exact x_up2_off (Or.inr (by decide)) : g149 69 12 = gi97 69 12).trans rfl)); omega))⟩⟩
                            · have r154 : (gi97 69 12).toInt ≠ 1 := fun e => h146 (Int32.toInt_inj.mp (e.trans (by decide : (1:Int) = (1 : Int32).toInt)))
                              refine ev_loc f_X12_fails (nx := 21) rfl rfl rfl rfl ?_
                              refine ev_putIT f_X12_fails (nx := 24) rfl (hI.wf.s rfl) rfl rfl rfl (hI.put0 (hI.wf.s rfl) rfl rfl) (hX.upI rfl) (fun g155 e155 hI hX => ?_)
                              refine ev_loc f_X12_fails (nx := 25) rfl rfl rfl rfl ?_
                              refine ev_loc f_X12_fails (nx := 26) rfl rfl rfl rfl ?_
                              refine ev_getI f_X12_fails (nx := 29) rfl (hI.wf.s rfl) rfl rfl rfl ?_
                              obtain ⟨l156, u156⟩ := hI.b (hI.wf.s (k := 69) rfl) (t_bdK rfl : t_bd 11 13 = some (0, 900))
                              refine ev_putIT f_X12_fails (nx := 32) rfl (hI.wf.s rfl) rfl rfl rfl (hI.put0 (hI.wf.s rfl) rfl rfl) (hX.upI rfl) (fun g157 e157 hI hX => ?_)
                              refine ev_ic f_X12_fails (nx := 33) (v := 0) rfl (by decide) rfl ?_
                              refine ev_retK1 f_X12_fails rfl rfl rfl ?_
                              refine ev_retK1 f_X12_number rfl rfl rfl ?_
                              refine ev_t f_X12_passes (t1 := 74) (t2 := 70) rfl rfl rfl (by decide) ?_
                              refine ev_ic f_X12_passes (nx := 75) (v := 0) rfl (by decide) rfl ?_
                              refine ev_retK1 f_X12_passes rfl rfl rfl ?_
                              refine ev_t f_X12_aCart (t1 := 61) (t2 := 63) rfl rfl rfl (by decide) ?_
                              refine ev_ic f_X12_aCart (nx := 62) (v := 0) rfl (by decide) rfl ?_
                              exact ev_ret f_X12_aCart rfl rfl rfl ⟨_, _, _, rfl, hI, hX, ⟨_, rfl, (by decide : (0:Int) ≤ (0:Int32).toInt), (Int.le_trans (by decide : (0:Int32).toInt ≤ (0:Int)) (by decide : (0:Int) ≤ 1)), (show (gi 69 14).toInt ≤ (g157 69 14).toInt ∧ (0 = 1 → (g157 69 12).toInt ≠ 0 → (gi 69 14).toInt < (g157 69 14).toInt) from (by have ff158 : (g157 69 14).toInt = (gi97 69 14).toInt := congrArg Int32.toInt ((by rw [e157]; exact x_up2_off (Or.inr (by decide)) : g157 69 14 = g155 69 14).trans ((by rw [e155]; exact x_up2_off (Or.inr (by decide)) : g155 69 14 = gi97 69 14).trans rfl)); have ff159 : (g157 69 12).toInt = (gi97 69 12).toInt := congrArg Int32.toInt ((by rw [e157]; exact x_up2_off (Or.inr (by decide)) : g157 69 12 = g155 69 12).trans ((by rw [e155]; exact x_up2_off (Or.inr (by decide)) : g155 69 12 = gi97 69 12).trans rfl)); omega))⟩⟩
                          · have r160 : (gi97 69 18).toInt ≠ 0 := fun e => h143 (Int32.toInt_inj.mp (e.trans (by decide : (0:Int) = (0 : Int32).toInt)))
                            refine ev_ic f_X12_fails (nx := 33) (v := 0) rfl (by decide) rfl ?_
                            refine ev_retK1 f_X12_fails rfl rfl rfl ?_
                            refine ev_retK1 f_X12_number rfl rfl rfl ?_
                            refine ev_t f_X12_passes (t1 := 74) (t2 := 70) rfl rfl rfl (by decide) ?_
                            refine ev_ic f_X12_passes (nx := 75) (v := 0) rfl (by decide) rfl ?_
                            refine ev_retK1 f_X12_passes rfl rfl rfl ?_
                            refine ev_t f_X12_aCart (t1 := 61) (t2 := 63) rfl rfl rfl (by decide) ?_
                            refine ev_ic f_X12_aCart (nx := 62) (v := 0) rfl (by decide) rfl ?_
                            exact ev_ret f_X12_aCart rfl rfl rfl ⟨_, _, _, rfl, hI, hX, ⟨_, rfl, (by decide : (0:Int) ≤ (0:Int32).toInt), (Int.le_trans (by decide : (0:Int32).toInt ≤ (0:Int)) (by decide : (0:Int) ≤ 1)), (show (gi 69 14).toInt ≤ (gi97 69 14).toInt ∧ (0 = 1 → (gi97 69 12).toInt ≠ 0 → (gi 69 14).toInt < (gi97 69 14).toInt) from (by omega))⟩⟩
                    · have l161 : 21 ≤ (gi67 69 15).toInt := t_ltl (t_nle h90) (by decide : (20:Int) ≤ (20:Int32).toInt) rfl
                      refine ev_loc f_X12_number (nx := 31) rfl rfl rfl rfl ?_
                      refine ev_ic f_X12_number (nx := 32) (v := 4) rfl (by decide) rfl ?_
                      refine ev_inV2 f_X12_number (nx := 35) (lo2 := [(0, .ref 69), (1, .int 4)]) rfl rfl rfl rfl f_X12_fails (hI.wf.s rfl) rfl rfl rfl rfl rfl ?_
                      refine ev_loc f_X12_fails (nx := 1) rfl rfl rfl rfl ?_
                      refine ev_getI f_X12_fails (nx := 4) rfl (hI.wf.s rfl) rfl rfl rfl ?_
                      refine ev_if f_X12_fails (t1 := 7) (t2 := 32) rfl rfl rfl (fun h162 => ?_) (fun h162 => ?_)
                      · have u163 : (gi67 69 18).toInt ≤ 0 := t_equ h162 (by decide : (0:Int32).toInt ≤ (0:Int))
                        have l164 : 0 ≤ (gi67 69 18).toInt := t_eql h162 (by decide : (0:Int) ≤ (0:Int32).toInt)
                        refine ev_loc f_X12_fails (nx := 8) rfl rfl rfl rfl ?_
                        refine ev_loc f_X12_fails (nx := 9) rfl rfl rfl rfl ?_
                        refine ev_gvI f_X12_fails (nx := 12) (w := (gi67 69 12)) rfl (hI.wf.s rfl) rfl rfl rfl rfl ?_
                        refine ev_ic f_X12_fails (nx := 13) (v := 1) rfl (by decide) rfl ?_
                        refine ev_f f_X12_fails (t1 := 16) (t2 := 20) rfl rfl rfl (t_neT' (by decide : (1:Int32).toInt ≤ (1:Int)) l77 (by decide)) ?_
                        refine ev_loc f_X12_fails (nx := 21) rfl rfl rfl rfl ?_
                        refine ev_putIT f_X12_fails (nx := 24) rfl (hI.wf.s rfl) rfl rfl rfl (hI.put0 (hI.wf.s rfl) rfl rfl) (hX.upI rfl) (fun g165 e165 hI hX => ?_)
                        refine ev_loc f_X12_fails (nx := 25) rfl rfl rfl rfl ?_
                        refine ev_loc f_X12_fails (nx := 26) rfl rfl rfl rfl ?_
                        refine ev_getI f_X12_fails (nx := 29) rfl (hI.wf.s rfl) rfl rfl rfl ?_
                        obtain ⟨l166, u166⟩ := hI.b (hI.wf.s (k := 69) rfl) (t_bdK rfl : t_bd 11 13 = some (0, 900))
                        refine ev_putIT f_X12_fails (nx := 32) rfl (hI.wf.s rfl) rfl rfl rfl (hI.put0 (hI.wf.s rfl) rfl rfl) (hX.upI rfl) (fun g167 e167 hI hX => ?_)
                        refine ev_ic f_X12_fails (nx := 33) (v := 0) rfl (by decide) rfl ?_
                        refine ev_retK1 f_X12_fails rfl rfl rfl ?_
                        refine ev_retK1 f_X12_number rfl rfl rfl ?_
                        refine ev_t f_X12_passes (t1 := 74) (t2 := 46) rfl rfl rfl (by decide) ?_
                        refine ev_ic f_X12_passes (nx := 75) (v := 0) rfl (by decide) rfl ?_
                        refine ev_retK1 f_X12_passes rfl rfl rfl ?_
                        refine ev_t f_X12_aCart (t1 := 61) (t2 := 63) rfl rfl rfl (by decide) ?_
                        refine ev_ic f_X12_aCart (nx := 62) (v := 0) rfl (by decide) rfl ?_
                        exact ev_ret f_X12_aCart rfl rfl rfl ⟨_, _, _, rfl, hI, hX, ⟨_, rfl, (by decide : (0:Int) ≤ (0:Int32).toInt), (Int.le_trans (by decide : (0:Int32).toInt ≤ (0:Int)) (by decide : (0:Int) ≤ 1)), (show (gi 69 14).toInt ≤ (g167 69 14).toInt ∧ (0 = 1 → (g167 69 12).toInt ≠ 0 → (gi 69 14).toInt < (g167 69 14).toInt) from (by have ff168 : (g167 69 14).toInt = (gi67 69 14).toInt := congrArg Int32.toInt ((by rw [e167]; exact x_up2_off (Or.inr (by decide)) : g167 69 14 = g165 69 14).trans ((by rw [e165]; exact x_up2_off (Or.inr (by decide)) : g165 69 14 = gi67 69 14).trans rfl)); have ff169 : (g167 69 12).toInt = (gi67 69 12).toInt := congrArg Int32.toInt ((by rw [e167]; exact x_up2_off (Or.inr (by decide)) : g167 69 12 = g165 69 12).trans ((by rw [e165]; exact x_up2_off (Or.inr (by decide)) : g165 69 12 = gi67 69 12).trans rfl)); omega))⟩⟩
                      · have r170 : (gi67 69 18).toInt ≠ 0 := fun e => h162 (Int32.toInt_inj.mp (e.trans (by decide : (0:Int) = (0 : Int32).toInt)))
                        refine ev_ic f_X12_fails (nx := 33) (v := 0) rfl (by decide) rfl ?_
                        refine ev_retK1 f_X12_fails rfl rfl rfl ?_
                        refine ev_retK1 f_X12_number rfl rfl rfl ?_
                        refine ev_t f_X12_passes (t1 := 74) (t2 := 46) rfl rfl rfl (by decide) ?_
                        refine ev_ic f_X12_passes (nx := 75) (v := 0) rfl (by decide) rfl ?_
                        refine ev_retK1 f_X12_passes rfl rfl rfl ?_
                        refine ev_t f_X12_aCart (t1 := 61) (t2 := 63) rfl rfl rfl (by decide) ?_
                        refine ev_ic f_X12_aCart (nx := 62) (v := 0) rfl (by decide) rfl ?_
                        exact ev_ret f_X12_aCart rfl rfl rfl ⟨_, _, _, rfl, hI, hX, ⟨_, rfl, (by decide : (0:Int) ≤ (0:Int32).toInt), (Int.le_trans (by decide : (0:Int32).toInt ≤ (0:Int)) (by decide : (0:Int) ≤ 1)), (show (gi 69 14).toInt ≤ (gi67 69 14).toInt ∧ (0 = 1 → (gi67 69 12).toInt ≠ 0 → (gi 69 14).toInt < (gi67 69 14).toInt) from (by omega))⟩⟩
                · have r171 : (gi67 69 12).toInt ≠ 3 := fun e => h75 (Int32.toInt_inj.mp (e.trans (by decide : (3:Int) = (3 : Int32).toInt)))
                  refine ev_loc f_X12_number (nx := 9) rfl rfl rfl rfl ?_
                  refine ev_ic f_X12_number (nx := 10) (v := 2) rfl (by decide) rfl ?_
                  refine ev_inV2 f_X12_number (nx := 13) (lo2 := [(0, .ref 69), (1, .int 2)]) rfl rfl rfl rfl f_X12_fails (hI.wf.s rfl) rfl rfl rfl rfl rfl ?_
                  refine ev_loc f_X12_fails (nx := 1) rfl rfl rfl rfl ?_
                  refine ev_getI f_X12_fails (nx := 4) rfl (hI.wf.s rfl) rfl rfl rfl ?_
                  refine ev_if f_X12_fails (t1 := 7) (t2 := 32) rfl rfl rfl (fun h172 => ?_) (fun h172 => ?_)
                  · have u173 : (gi67 69 18).toInt ≤ 0 := t_equ h172 (by decide : (0:Int32).toInt ≤ (0:Int))
                    have l174 : 0 ≤ (gi67 69 18).toInt := t_eql h172 (by decide : (0:Int) ≤ (0:Int32).toInt)
                    refine ev_loc f_X12_fails (nx := 8) rfl rfl rfl rfl ?_
                    refine ev_loc f_X12_fails (nx := 9) rfl rfl rfl rfl ?_
                    refine ev_gvI f_X12_fails (nx := 12) (w := (gi67 69 12)) rfl (hI.wf.s rfl) rfl rfl rfl rfl ?_
                    refine ev_ic f_X12_fails (nx := 13) (v := 1) rfl (by decide) rfl ?_
                    refine ev_if f_X12_fails (t1 := 16) (t2 := 20) rfl rfl rfl (fun h175 => ?_) (fun h175 => ?_)
                    · have u176 : (gi67 69 12).toInt ≤ 1 := t_equ h175 (by decide : (1:Int32).toInt ≤ (1:Int))
                      have l177 : 1 ≤ (gi67 69 12).toInt := t_eql h175 (by decide : (1:Int) ≤ (1:Int32).toInt)
                      refine ev_ic f_X12_fails (nx := 17) (v := 1) rfl (by decide) rfl ?_
                      refine ev_jmp f_X12_fails (nx := 21) rfl rfl rfl ?_
                      refine ev_putIT f_X12_fails (nx := 24) rfl (hI.wf.s rfl) rfl rfl rfl (hI.put0 (hI.wf.s rfl) rfl rfl) (hX.upI rfl) (fun g178 e178 hI hX => ?_)
                      refine ev_loc f_X12_fails (nx := 25) rfl rfl rfl rfl ?_
                      refine ev_loc f_X12_fails (nx := 26) rfl rfl rfl rfl ?_
                      refine ev_getI f_X12_fails (nx := 29) rfl (hI.wf.s rfl) rfl rfl rfl ?_
                      obtain ⟨l179, u179⟩ := hI.b (hI.wf.s (k := 69) rfl) (t_bdK rfl : t_bd 11 13 = some (0, 900))
                      refine ev_putIT f_X12_fails (nx := 32) rfl (hI.wf.s rfl) rfl rfl rfl (hI.put0 (hI.wf.s rfl) rfl rfl) (hX.upI rfl) (fun g180 e180 hI hX => ?_)
                      refine ev_ic f_X12_fails (nx := 33) (v := 0) rfl (by decide) rfl ?_
                      refine ev_retK1 f_X12_fails rfl rfl rfl ?_
                      refine ev_retK1 f_X12_number rfl rfl rfl ?_
                      refine ev_t f_X12_passes (t1 := 74) (t2 := 46) rfl rfl rfl (by decide) ?_
                      refine ev_ic f_X12_passes (nx := 75) (v := 0) rfl (by decide) rfl ?_
                      refine ev_retK1 f_X12_passes rfl rfl rfl ?_
                      refine ev_t f_X12_aCart (t1 := 61) (t2 := 63) rfl rfl rfl (by decide) ?_
                      refine ev_ic f_X12_aCart (nx := 62) (v := 0) rfl (by decide) rfl ?_
                      exact ev_ret f_X12_aCart rfl rfl rfl ⟨_, _, _, rfl, hI, hX, ⟨_, rfl, (by decide : (0:Int) ≤ (0:Int32).toInt), (Int.le_trans (by decide : (0:Int32).toInt ≤ (0:Int)) (by decide : (0:Int) ≤ 1)), (show (gi 69 14).toInt ≤ (g180 69 14).toInt ∧ (0 = 1 → (g180 69 12).toInt ≠ 0 → (gi 69 14).toInt < (g180 69 14).toInt) from (by have ff181 : (g180 69 14).toInt = (gi67 69 14).toInt := congrArg Int32.toInt ((by rw [e180]; exact x_up2_off (Or.inr (by decide)) : g180 69 14 = g178 69 14).trans ((by rw [e178]; exact x_up2_off (Or.inr (by decide)) : g178 69 14 = gi67 69 14).trans rfl)); have ff182 : (g180 69 12).toInt = (gi67 69 12).toInt := congrArg Int32.toInt ((by rw [e180]; exact x_up2_off (Or.inr (by decide)) : g180 69 12 = g178 69 12).trans ((by rw [e178]; exact x_up2_off (Or.inr (by decide)) : g178 69 12 = gi67 69 12).trans rfl)); omega))⟩⟩
                    · have r183 : (gi67 69 12).toInt ≠ 1 := fun e => h175 (Int32.toInt_inj.mp (e.trans (by decide : (1:Int) = (1 : Int32).toInt)))
                      refine ev_loc f_X12_fails (nx := 21) rfl rfl rfl rfl ?_
                      refine ev_putIT f_X12_fails (nx := 24) rfl (hI.wf.s rfl) rfl rfl rfl (hI.put0 (hI.wf.s rfl) rfl rfl) (hX.upI rfl) (fun g184 e184 hI hX => ?_)
                      refine ev_loc f_X12_fails (nx := 25) rfl rfl rfl rfl ?_
                      refine ev_loc f_X12_fails (nx := 26) rfl rfl rfl rfl ?_
                      refine ev_getI f_X12_fails (nx := 29) rfl (hI.wf.s rfl) rfl rfl rfl ?_
                      obtain ⟨l185, u185⟩ := hI.b (hI.wf.s (k := 69) rfl) (t_bdK rfl : t_bd 11 13 = some (0, 900))
                      refine ev_putIT f_X12_fails (nx := 32) rfl (hI.wf.s rfl) rfl rfl rfl (hI.put0 (hI.wf.s rfl) rfl rfl) (hX.upI rfl) (fun g186 e186 hI hX => ?_)
                      refine ev_ic f_X12_fails (nx := 33) (v := 0) rfl (by decide) rfl ?_
                      refine ev_retK1 f_X12_fails rfl rfl rfl ?_
                      refine ev_retK1 f_X12_number rfl rfl rfl ?_
                      refine ev_t f_X12_passes (t1 := 74) (t2 := 46) rfl rfl rfl (by decide) ?_
                      refine ev_ic f_X12_passes (nx := 75) (v := 0) rfl (by decide) rfl ?_
                      refine ev_retK1 f_X12_passes rfl rfl rfl ?_
                      refine ev_t f_X12_aCart (t1 := 61) (t2 := 63) rfl rfl rfl (by decide) ?_
                      refine ev_ic f_X12_aCart (nx := 62) (v := 0) rfl (by decide) rfl ?_
                      exact ev_ret f_X12_aCart rfl rfl rfl ⟨_, _, _, rfl, hI, hX, ⟨_, rfl, (by decide : (0:Int) ≤ (0:Int32).toInt), (Int.le_trans (by decide : (0:Int32).toInt ≤ (0:Int)) (by decide : (0:Int) ≤ 1)), (show (gi 69 14).toInt ≤ (g186 69 14).toInt ∧ (0 = 1 → (g186 69 12).toInt ≠ 0 → (gi 69 14).toInt < (g186 69 14).toInt) from (by have ff187 : (g186 69 14).toInt = (gi67 69 14).toInt := congrArg Int32.toInt ((by rw [e186]; exact x_up2_off (Or.inr (by decide)) : g186 69 14 = g184 69 14).trans ((by rw [e184]; exact x_up2_off (Or.inr (by decide)) : g184 69 14 = gi67 69 14).trans rfl)); have ff188 : (g186 69 12).toInt = (gi67 69 12).toInt := congrArg Int32.toInt ((by rw [e186]; exact x_up2_off (Or.inr (by decide)) : g186 69 12 = g184 69 12).trans ((by rw [e184]; exact x_up2_off (Or.inr (by decide)) : g184 69 12 = gi67 69 12).trans rfl)); omega))⟩⟩
                  · have r189 : (gi67 69 18).toInt ≠ 0 := fun e => h172 (Int32.toInt_inj.mp (e.trans (by decide : (0:Int) = (0 : Int32).toInt)))
                    refine ev_ic f_X12_fails (nx := 33) (v := 0) rfl (by decide) rfl ?_
                    refine ev_retK1 f_X12_fails rfl rfl rfl ?_
                    refine ev_retK1 f_X12_number rfl rfl rfl ?_
                    refine ev_t f_X12_passes (t1 := 74) (t2 := 46) rfl rfl rfl (by decide) ?_
                    refine ev_ic f_X12_passes (nx := 75) (v := 0) rfl (by decide) rfl ?_
                    refine ev_retK1 f_X12_passes rfl rfl rfl ?_
                    refine ev_t f_X12_aCart (t1 := 61) (t2 := 63) rfl rfl rfl (by decide) ?_
                    refine ev_ic f_X12_aCart (nx := 62) (v := 0) rfl (by decide) rfl ?_
                    exact ev_ret f_X12_aCart rfl rfl rfl ⟨_, _, _, rfl, hI, hX, ⟨_, rfl, (by decide : (0:Int) ≤ (0:Int32).toInt), (Int.le_trans (by decide : (0:Int32).toInt ≤ (0:Int)) (by decide : (0:Int) ≤ 1)), (show (gi 69 14).toInt ≤ (gi67 69 14).toInt ∧ (0 = 1 → (gi67 69 12).toInt ≠ 0 → (gi 69 14).toInt < (gi67 69 14).toInt) from (by omega))⟩⟩
            · have l190 : 121 ≤ (gi38 69 15).toInt := t_ltl (t_nle h60) (by decide : (120:Int) ≤ (120:Int32).toInt) rfl
              refine ev_loc f_X12_number (nx := 31) rfl rfl rfl rfl ?_
              refine ev_ic f_X12_number (nx := 32) (v := 4) rfl (by decide) rfl ?_
              refine ev_inV2 f_X12_number (nx := 35) (lo2 := [(0, .ref 69), (1, .int 4)]) rfl rfl rfl rfl f_X12_fails (hI.wf.s rfl) rfl rfl rfl rfl rfl ?_
              refine ev_loc f_X12_fails (nx := 1) rfl rfl rfl rfl ?_
              refine ev_getI f_X12_fails (nx := 4) rfl (hI.wf.s rfl) rfl rfl rfl ?_
              refine ev_if f_X12_fails (t1 := 7) (t2 := 32) rfl rfl rfl (fun h191 => ?_) (fun h191 => ?_)
              · have u192 : (gi38 69 18).toInt ≤ 0 := t_equ h191 (by decide : (0:Int32).toInt ≤ (0:Int))
                have l193 : 0 ≤ (gi38 69 18).toInt := t_eql h191 (by decide : (0:Int) ≤ (0:Int32).toInt)
                refine ev_loc f_X12_fails (nx := 8) rfl rfl rfl rfl ?_
                refine ev_loc f_X12_fails (nx := 9) rfl rfl rfl rfl ?_
                refine ev_gvI f_X12_fails (nx := 12) (w := (gi38 69 12)) rfl (hI.wf.s rfl) rfl rfl rfl rfl ?_
                refine ev_ic f_X12_fails (nx := 13) (v := 1) rfl (by decide) rfl ?_
                refine ev_f f_X12_fails (t1 := 16) (t2 := 20) rfl rfl rfl (t_neT' (by decide : (1:Int32).toInt ≤ (1:Int)) l47 (by decide)) ?_
                refine ev_loc f_X12_fails (nx := 21) rfl rfl rfl rfl ?_
                refine ev_putIT f_X12_fails (nx := 24) rfl (hI.wf.s rfl) rfl rfl rfl (hI.put0 (hI.wf.s rfl) rfl rfl) (hX.upI rfl) (fun g194 e194 hI hX => ?_)
                refine ev_loc f_X12_fails (nx := 25) rfl rfl rfl rfl ?_
                refine ev_loc f_X12_fails (nx := 26) rfl rfl rfl rfl ?_
                refine ev_getI f_X12_fails (nx := 29) rfl (hI.wf.s rfl) rfl rfl rfl ?_
                obtain ⟨l195, u195⟩ := hI.b (hI.wf.s (k := 69) rfl) (t_bdK rfl : t_bd 11 13 = some (0, 900))
                refine ev_putIT f_X12_fails (nx := 32) rfl (hI.wf.s rfl) rfl rfl rfl (hI.put0 (hI.wf.s rfl) rfl rfl) (hX.upI rfl) (fun g196 e196 hI hX => ?_)
                refine ev_ic f_X12_fails (nx := 33) (v := 0) rfl (by decide) rfl ?_
                refine ev_retK1 f_X12_fails rfl rfl rfl ?_
                refine ev_retK1 f_X12_number rfl rfl rfl ?_
                refine ev_t f_X12_passes (t1 := 74) (t2 := 22) rfl rfl rfl (by decide) ?_
                refine ev_ic f_X12_passes (nx := 75) (v := 0) rfl (by decide) rfl ?_
                refine ev_retK1 f_X12_passes rfl rfl rfl ?_
                refine ev_t f_X12_aCart (t1 := 61) (t2 := 63) rfl rfl rfl (by decide) ?_
                refine ev_ic f_X12_aCart (nx := 62) (v := 0) rfl (by decide) rfl ?_
                exact ev_ret f_X12_aCart rfl rfl rfl ⟨_, _, _, rfl, hI, hX, ⟨_, rfl, (by decide : (0:Int) ≤ (0:Int32).toInt), (Int.le_trans (by decide : (0:Int32).toInt ≤ (0:Int)) (by decide : (0:Int) ≤ 1)), (show (gi 69 14).toInt ≤ (g196 69 14).toInt ∧ (0 = 1 → (g196 69 12).toInt ≠ 0 → (gi 69 14).toInt < (g196 69 14).toInt) from (by have ff197 : (g196 69 14).toInt = (gi38 69 14).toInt := congrArg Int32.toInt ((by rw [e196]; exact x_up2_off (Or.inr (by decide)) : g196 69 14 = g194 69 14).trans ((by rw [e194]; exact x_up2_off (Or.inr (by decide)) : g194 69 14 = gi38 69 14).trans rfl)); have ff198 : (g196 69 12).toInt = (gi38 69 12).toInt := congrArg Int32.toInt ((by rw [e196]; exact x_up2_off (Or.inr (by decide)) : g196 69 12 = g194 69 12).trans ((by rw [e194]; exact x_up2_off (Or.inr (by decide)) : g194 69 12 = gi38 69 12).trans rfl)); omega))⟩⟩
              · have r199 : (gi38 69 18).toInt ≠ 0 := fun e => h191 (Int32.toInt_inj.mp (e.trans (by decide : (0:Int) = (0 : Int32).toInt)))
                refine ev_ic f_X12_fails (nx := 33) (v := 0) rfl (by decide) rfl ?_
                refine ev_retK1 f_X12_fails rfl rfl rfl ?_
                refine ev_retK1 f_X12_number rfl rfl rfl ?_
                refine ev_t f_X12_passes (t1 := 74) (t2 := 22) rfl rfl rfl (by decide) ?_
                refine ev_ic f_X12_passes (nx := 75) (v := 0) rfl (by decide) rfl ?_
                refine ev_retK1 f_X12_passes rfl rfl rfl ?_
                refine ev_t f_X12_aCart (t1 := 61) (t2 := 63) rfl rfl rfl (by decide) ?_
                refine ev_ic f_X12_aCart (nx := 62) (v := 0) rfl (by decide) rfl ?_
                exact ev_ret f_X12_aCart rfl rfl rfl ⟨_, _, _, rfl, hI, hX, ⟨_, rfl, (by decide : (0:Int) ≤ (0:Int32).toInt), (Int.le_trans (by decide : (0:Int32).toInt ≤ (0:Int)) (by decide : (0:Int) ≤ 1)), (show (gi 69 14).toInt ≤ (gi38 69 14).toInt ∧ (0 = 1 → (gi38 69 12).toInt ≠ 0 → (gi 69 14).toInt < (gi38 69 14).toInt) from (by omega))⟩⟩
        · have r200 : (gi38 69 12).toInt ≠ 3 := fun e => h45 (Int32.toInt_inj.mp (e.trans (by decide : (3:Int) = (3 : Int32).toInt)))
          refine ev_loc f_X12_number (nx := 9) rfl rfl rfl rfl ?_
          refine ev_ic f_X12_number (nx := 10) (v := 2) rfl (by decide) rfl ?_
          refine ev_inV2 f_X12_number (nx := 13) (lo2 := [(0, .ref 69), (1, .int 2)]) rfl rfl rfl rfl f_X12_fails (hI.wf.s rfl) rfl rfl rfl rfl rfl ?_
          refine ev_loc f_X12_fails (nx := 1) rfl rfl rfl rfl ?_
          refine ev_getI f_X12_fails (nx := 4) rfl (hI.wf.s rfl) rfl rfl rfl ?_
          refine ev_if f_X12_fails (t1 := 7) (t2 := 32) rfl rfl rfl (fun h201 => ?_) (fun h201 => ?_)
          · have u202 : (gi38 69 18).toInt ≤ 0 := t_equ h201 (by decide : (0:Int32).toInt ≤ (0:Int))
            have l203 : 0 ≤ (gi38 69 18).toInt := t_eql h201 (by decide : (0:Int) ≤ (0:Int32).toInt)
            refine ev_loc f_X12_fails (nx := 8) rfl rfl rfl rfl ?_
            refine ev_loc f_X12_fails (nx := 9) rfl rfl rfl rfl ?_
            refine ev_gvI f_X12_fails (nx := 12) (w := (gi38 69 12)) rfl (hI.wf.s rfl) rfl rfl rfl rfl ?_
            refine ev_ic f_X12_fails (nx := 13) (v := 1) rfl (by decide) rfl ?_
            refine ev_if f_X12_fails (t1 := 16) (t2 := 20) rfl rfl rfl (fun h204 => ?_) (fun h204 => ?_)
            · have u205 : (gi38 69 12).toInt ≤ 1 := t_equ h204 (by decide : (1:Int32).toInt ≤ (1:Int))
              have l206 : 1 ≤ (gi38 69 12).toInt := t_eql h204 (by decide : (1:Int) ≤ (1:Int32).toInt)
              refine ev_ic f_X12_fails (nx := 17) (v := 1) rfl (by decide) rfl ?_
              refine ev_jmp f_X12_fails (nx := 21) rfl rfl rfl ?_
              refine ev_putIT f_X12_fails (nx := 24) rfl (hI.wf.s rfl) rfl rfl rfl (hI.put0 (hI.wf.s rfl) rfl rfl) (hX.upI rfl) (fun g207 e207 hI hX => ?_)
              refine ev_loc f_X12_fails (nx := 25) rfl rfl rfl rfl ?_
              refine ev_loc f_X12_fails (nx := 26) rfl rfl rfl rfl ?_
              refine ev_getI f_X12_fails (nx := 29) rfl (hI.wf.s rfl) rfl rfl rfl ?_
              obtain ⟨l208, u208⟩ := hI.b (hI.wf.s (k := 69) rfl) (t_bdK rfl : t_bd 11 13 = some (0, 900))
              refine ev_putIT f_X12_fails (nx := 32) rfl (hI.wf.s rfl) rfl rfl rfl (hI.put0 (hI.wf.s rfl) rfl rfl) (hX.upI rfl) (fun g209 e209 hI hX => ?_)
              refine ev_ic f_X12_fails (nx := 33) (v := 0) rfl (by decide) rfl ?_
              refine ev_retK1 f_X12_fails rfl rfl rfl ?_
              refine ev_retK1 f_X12_number rfl rfl rfl ?_
              refine ev_t f_X12_passes (t1 := 74) (t2 := 22) rfl rfl rfl (by decide) ?_
              refine ev_ic f_X12_passes (nx := 75) (v := 0) rfl (by decide) rfl ?_
              refine ev_retK1 f_X12_passes rfl rfl rfl ?_
              refine ev_t f_X12_aCart (t1 := 61) (t2 := 63) rfl rfl rfl (by decide) ?_
              refine ev_ic f_X12_aCart (nx := 62) (v := 0) rfl (by decide) rfl ?_
              exact ev_ret f_X12_aCart rfl rfl rfl ⟨_, _, _, rfl, hI, hX, ⟨_, rfl, (by decide : (0:Int) ≤ (0:Int32).toInt), (Int.le_trans (by decide : (0:Int32).toInt ≤ (0:Int)) (by decide : (0:Int) ≤ 1)), (show (gi 69 14).toInt ≤ (g209 69 14).toInt ∧ (0 = 1 → (g209 69 12).toInt ≠ 0 → (gi 69 14).toInt < (g209 69 14).toInt) from (by have ff210 : (g209 69 14).toInt = (gi38 69 14).toInt := congrArg Int32.toInt ((by rw [e209]; exact x_up2_off (Or.inr (by decide)) : g209 69 14 = g207 69 14).trans ((by rw [e207]; exact x_up2_off (Or.inr (by decide)) : g207 69 14 = gi38 69 14).trans rfl)); have ff211 : (g209 69 12).toInt = (gi38 69 12).toInt := congrArg Int32.toInt ((by rw [e209]; exact x_up2_off (Or.inr (by decide)) : g209 69 12 = g207 69 12).trans ((by rw [e207]; exact x_up2_off (Or.inr (by decide)) : g207 69 12 = gi38 69 12).trans rfl)); omega))⟩⟩
            · have r212 : (gi38 69 12).toInt ≠ 1 := fun e => h204 (Int32.toInt_inj.mp (e.trans (by decide : (1:Int) = (1 : Int32).toInt)))
              refine ev_loc f_X12_fails (nx := 21) rfl rfl rfl rfl ?_
              refine ev_putIT f_X12_fails (nx := 24) rfl (hI.wf.s rfl) rfl rfl rfl (hI.put0 (hI.wf.s rfl) rfl rfl) (hX.upI rfl) (fun g213 e213 hI hX => ?_)
              refine ev_loc f_X12_fails (nx := 25) rfl rfl rfl rfl ?_
              refine ev_loc f_X12_fails (nx := 26) rfl rfl rfl rfl ?_
              refine ev_getI f_X12_fails (nx := 29) rfl (hI.wf.s rfl) rfl rfl rfl ?_
              obtain ⟨l214, u214⟩ := hI.b (hI.wf.s (k := 69) rfl) (t_bdK rfl : t_bd 11 13 = some (0, 900))
              refine ev_putIT f_X12_fails (nx := 32) rfl (hI.wf.s rfl) rfl rfl rfl (hI.put0 (hI.wf.s rfl) rfl rfl) (hX.upI rfl) (fun g215 e215 hI hX => ?_)
              refine ev_ic f_X12_fails (nx := 33) (v := 0) rfl (by decide) rfl ?_
              refine ev_retK1 f_X12_fails rfl rfl rfl ?_
              refine ev_retK1 f_X12_number rfl rfl rfl ?_
              refine ev_t f_X12_passes (t1 := 74) (t2 := 22) rfl rfl rfl (by decide) ?_
              refine ev_ic f_X12_passes (nx := 75) (v := 0) rfl (by decide) rfl ?_
              refine ev_retK1 f_X12_passes rfl rfl rfl ?_
              refine ev_t f_X12_aCart (t1 := 61) (t2 := 63) rfl rfl rfl (by decide) ?_
              refine ev_ic f_X12_aCart (nx := 62) (v := 0) rfl (by decide) rfl ?_
              exact ev_ret f_X12_aCart rfl rfl rfl ⟨_, _, _, rfl, hI, hX, ⟨_, rfl, (by decide : (0:Int) ≤ (0:Int32).toInt), (Int.le_trans (by decide : (0:Int32).toInt ≤ (0:Int)) (by decide : (0:Int) ≤ 1)), (show (gi 69 14).toInt ≤ (g215 69 14).toInt ∧ (0 = 1 → (g215 69 12).toInt ≠ 0 → (gi 69 14).toInt < (g215 69 14).toInt) from (by have ff216 : (g215 69 14).toInt = (gi38 69 14).toInt := congrArg Int32.toInt ((by rw [e215]; exact x_up2_off (Or.inr (by decide)) : g215 69 14 = g213 69 14).trans ((by rw [e213]; exact x_up2_off (Or.inr (by decide)) : g213 69 14 = gi38 69 14).trans rfl)); have ff217 : (g215 69 12).toInt = (gi38 69 12).toInt := congrArg Int32.toInt ((by rw [e215]; exact x_up2_off (Or.inr (by decide)) : g215 69 12 = g213 69 12).trans ((by rw [e213]; exact x_up2_off (Or.inr (by decide)) : g213 69 12 = gi38 69 12).trans rfl)); omega))⟩⟩
          · have r218 : (gi38 69 18).toInt ≠ 0 := fun e => h201 (Int32.toInt_inj.mp (e.trans (by decide : (0:Int) = (0 : Int32).toInt)))
            refine ev_ic f_X12_fails (nx := 33) (v := 0) rfl (by decide) rfl ?_
            refine ev_retK1 f_X12_fails rfl rfl rfl ?_
            refine ev_retK1 f_X12_number rfl rfl rfl ?_
            refine ev_t f_X12_passes (t1 := 74) (t2 := 22) rfl rfl rfl (by decide) ?_
            refine ev_ic f_X12_passes (nx := 75) (v := 0) rfl (by decide) rfl ?_
            refine ev_retK1 f_X12_passes rfl rfl rfl ?_
            refine ev_t f_X12_aCart (t1 := 61) (t2 := 63) rfl rfl rfl (by decide) ?_
            refine ev_ic f_X12_aCart (nx := 62) (v := 0) rfl (by decide) rfl ?_
            exact ev_ret f_X12_aCart rfl rfl rfl ⟨_, _, _, rfl, hI, hX, ⟨_, rfl, (by decide : (0:Int) ≤ (0:Int32).toInt), (Int.le_trans (by decide : (0:Int32).toInt ≤ (0:Int)) (by decide : (0:Int) ≤ 1)), (show (gi 69 14).toInt ≤ (gi38 69 14).toInt ∧ (0 = 1 → (gi38 69 12).toInt ≠ 0 → (gi 69 14).toInt < (gi38 69 14).toInt) from (by omega))⟩⟩
noncomputable def wl_m_riverPart : List (Nat × Nat) := [(69, 12), (69, 13), (69, 14), (69, 15), (69, 17), (69, 18), (69, 20), (70, 140011400), (70, 140111401), (70, 140211402), (70, 140411404), (70, 140511405), (70, 140611406), (70, 140711407), (70, 141011452), (70, 141111458), (70, 145211482), (70, 145311483), (70, 145411484), (70, 145511485), (70, 145611486), (70, 148211500), (70, 148311501), (70, 148411502), (71, 7210089)]
noncomputable def Q_m_riverPart (gi : Nat → Nat → Int32) (gl : Nat → Nat → Int64) (gr : Nat → Nat → Value) : Int32 → (Nat → Nat → Int32) → (Nat → Nat → Int64) → (Nat → Nat → Value) → Prop := fun (v : Int32) (gi2 : Nat → Nat → Int32) (gl2 : Nat → Nat → Int64) (gr2 : Nat → Nat → Value) => (gi 69 14).toInt ≤ (gi2 69 14).toInt ∧ (v.toInt = 1 → (gi2 69 12).toInt ≠ 0 → (gi 69 14).toInt < (gi2 69 14).toInt) ∧ (1 ≤ (gi 70 1404).toInt → 1 ≤ (gi2 70 1404).toInt)
theorem c_m_riverPart {X : x_Ext} {d : Nat} {sh : List (Nat ⊕ (Nat × Nat))} {gi : Nat → Nat → Int32} {gl : Nat → Nat → Int64} {gr : Nat → Nat → Value} (hI : t_I sh gi gr) : x_Me X (d + 9) n_X12_riverPart [.ref 69] (sh, gi, gl, gr) (t_PI wl_m_riverPart sh gi gl gr 0 1 (Q_m_riverPart gi gl gr)) := by
  have hX : t_X wl_m_riverPart sh gi gl gr gi gl gr := t_X.rf
  refine me_i f_X12_riverPart (hI.wf.s rfl) rfl rfl rfl ?_
  obtain ⟨l1, u1⟩ := hI.b (hI.wf.s (k := 69) rfl) (t_bdK rfl : t_bd 11 12 = some (0, 4))
  obtain ⟨l2, u2⟩ := hI.b (hI.wf.s (k := 69) rfl) (t_bdK rfl : t_bd 11 14 = some (0, 900))
  obtain ⟨l3, u3⟩ := hI.ab (by decide +kernel : t_abr 70 1404 1404 0 20 = true) (Nat.le_refl _) (Nat.le_refl _)
  refine ev_loc f_X12_riverPart (nx := 1) rfl rfl rfl rfl ?_
  refine ev_heap f_X12_riverPart (nx := 3) rfl rfl rfl rfl ?_
  refine ev_qI f_X12_riverPart (nx := 6) (r := []) rfl rfl rfl rfl rfl rfl rfl (c_m_inWords hI ) rfl hX rfl (fun w4 gi4 gl4 gr4 l4 u4 hI hX hC4 q4 => ?_)
  have q4 : 0 ≤ w4.toInt → (gi 69 12).toInt = 2 := q4
  refine ev_loc f_X12_riverPart (nx := 7) (lo' := [(2, .int w4), (0, .ref 69)]) rfl rfl rfl rfl ?_
  refine ev_loc f_X12_riverPart (nx := 8) rfl rfl rfl rfl ?_
  have h5 : w4.toInt = 0 ∨ w4.toInt = 1 ∨ w4.toInt = 2 ∨ w4.toInt = 3 ∨ w4.toInt = 4 ∨ w4.toInt = 5 ∨ (w4.toInt ≠ 0 ∧ w4.toInt ≠ 1 ∧ w4.toInt ≠ 2 ∧ w4.toInt ≠ 3 ∧ w4.toInt ≠ 4 ∧ w4.toInt ≠ 5) := by have := l4; have := u4; omega
  rcases h5 with h5 | h5 | h5 | h5 | h5 | h5 | h5
  · refine ev_swt f_X12_riverPart (nx := 48) (c := 0) rfl h5 rfl ?_
    refine ev_loc f_X12_riverPart (nx := 49) rfl rfl rfl rfl ?_
    refine ev_qI f_X12_riverPart (nx := 52) (r := []) rfl rfl rfl rfl rfl rfl rfl (c_m_aPort hI ) rfl hX rfl (fun w6 gi6 gl6 gr6 l6 u6 hI hX hC6 q6 => ?_)
    have ff7 : (gi4 69 14).toInt = (gi 69 14).toInt := congrArg Int32.toInt ((hC4.1 69 14 rfl).1.trans rfl)
    have q6 : (gi4 69 14).toInt ≤ (gi6 69 14).toInt ∧ (w6.toInt = 1 → (gi6 69 12).toInt ≠ 0 → (gi4 69 14).toInt < (gi6 69 14).toInt) := q6
    obtain ⟨l8, u8⟩ := hI.b (hI.wf.s (k := 69) rfl) (t_bdK rfl : t_bd 11 12 = some (0, 4))
    obtain ⟨l9, u9⟩ := hI.b (hI.wf.s (k := 69) rfl) (t_bdK rfl : t_bd 11 14 = some (0, 900))
    refine ev_loc f_X12_riverPart (nx := 53) (lo' := [(1, .int w6), (2, .int w4), (0, .ref 69)]) rfl rfl rfl rfl ?_
    refine ev_jmp f_X12_riverPart (nx := 87) rfl rfl rfl ?_
    refine ev_loc f_X12_riverPart (nx := 88) rfl rfl rfl rfl ?_
    refine ev_if f_X12_riverPart (t1 := 104) (t2 := 91) rfl rfl rfl (fun h10 => ?_) (fun h10 => ?_)
    · have u11 : w6.toInt ≤ 0 := t_equ h10 (by decide : (0:Int32).toInt ≤ (0:Int))
      refine ev_ic f_X12_riverPart (nx := 105) (v := 0) rfl (by decide) rfl ?_
      exact ev_ret f_X12_riverPart rfl rfl rfl ⟨_, _, _, rfl, hI, hX, ⟨_, rfl, (by decide : (0:Int) ≤ (0:Int32).toInt), (Int.le_trans (by decide : (0:Int32).toInt ≤ (0:Int)) (by decide : (0:Int) ≤ 1)), (show (gi 69 14).toInt ≤ (gi6 69 14).toInt ∧ (0 = 1 → (gi6 69 12).toInt ≠ 0 → (gi 69 14).toInt < (gi6 69 14).toInt) ∧ (1 ≤ (gi 70 1404).toInt → 1 ≤ (gi6 70 1404).toInt) from (by have ff12 : (gi6 70 1404).toInt = (gi 70 1404).toInt := congrArg Int32.toInt ((hC6.1 70 1404 rfl).1.trans ((hC4.1 70 1404 rfl).1.trans rfl)); omega))⟩⟩
    · have r13 : w6.toInt ≠ 0 := fun e => h10 (Int32.toInt_inj.mp (e.trans (by decide : (0:Int) = (0 : Int32).toInt)))
      have l14 : 1 ≤ w6.toInt := t_nel h10 l6 rfl rfl
      refine ev_loc f_X12_riverPart (nx := 92) rfl rfl rfl rfl ?_
      refine ev_bp f_X12_riverPart (nx := 94) (v := 59) rfl (by decide) rfl ?_
      refine ev_qI f_X12_riverPart (nx := 97) (r := []) rfl rfl rfl rfl rfl rfl rfl (c_m_wantSign hI (59)) rfl hX rfl (fun w15 gi15 gl15 gr15 l15 u15 hI hX hC15 q15 => ?_)
      have q15 : (gi6 69 14).toInt ≤ (gi15 69 14).toInt ∧ (w15.toInt = 1 → (gi15 69 12).toInt ≠ 0 → (gi6 69 14).toInt < (gi15 69 14).toInt) := q15
      obtain ⟨l16, u16⟩ := hI.b (hI.wf.s (k := 69) rfl) (t_bdK rfl : t_bd 11 12 = some (0, 4))
      obtain ⟨l17, u17⟩ := hI.b (hI.wf.s (k := 69) rfl) (t_bdK rfl : t_bd 11 14 = some (0, 900))
      refine ev_if f_X12_riverPart (t1 := 104) (t2 := 100) rfl rfl rfl (fun h18 => ?_) (fun h18 => ?_)
      · have u19 : w15.toInt ≤ 0 := t_equ h18 (by decide : (0:Int32).toInt ≤ (0:Int))
        refine ev_ic f_X12_riverPart (nx := 105) (v := 0) rfl (by decide) rfl ?_
        exact ev_ret f_X12_riverPart rfl rfl rfl ⟨_, _, _, rfl, hI, hX, ⟨_, rfl, (by decide : (0:Int) ≤ (0:Int32).toInt), (Int.le_trans (by decide : (0:Int32).toInt ≤ (0:Int)) (by decide : (0:Int) ≤ 1)), (show (gi 69 14).toInt ≤ (gi15 69 14).toInt ∧ (0 = 1 → (gi15 69 12).toInt ≠ 0 → (gi 69 14).toInt < (gi15 69 14).toInt) ∧ (1 ≤ (gi 70 1404).toInt → 1 ≤ (gi15 70 1404).toInt) from (by have ff20 : (gi15 70 1404).toInt = (gi 70 1404).toInt := congrArg Int32.toInt ((hC15.1 70 1404 rfl).1.trans ((hC6.1 70 1404 rfl).1.trans ((hC4.1 70 1404 rfl).1.trans rfl))); omega))⟩⟩
      · have r21 : w15.toInt ≠ 0 := fun e => h18 (Int32.toInt_inj.mp (e.trans (by decide : (0:Int) = (0 : Int32).toInt)))
        have l22 : 1 ≤ w15.toInt := t_nel h18 l15 rfl rfl
        refine ev_ic f_X12_riverPart (nx := 101) (v := 1) rfl (by decide) rfl ?_
        refine ev_jmp f_X12_riverPart (nx := 105) rfl rfl rfl ?_
        exact ev_ret f_X12_riverPart rfl rfl rfl ⟨_, _, _, rfl, hI, hX, ⟨_, rfl, (Int.le_trans (by decide : (0:Int) ≤ 1) (by decide : (1:Int) ≤ (1:Int32).toInt)), (by decide : (1:Int32).toInt ≤ (1:Int)), (show (gi 69 14).toInt ≤ (gi15 69 14).toInt ∧ (1 = 1 → (gi15 69 12).toInt ≠ 0 → (gi 69 14).toInt < (gi15 69 14).toInt) ∧ (1 ≤ (gi 70 1404).toInt → 1 ≤ (gi15 70 1404).toInt) from (by have ff23 : (gi15 70 1404).toInt = (gi 70 1404).toInt := congrArg Int32.toInt ((hC15.1 70 1404 rfl).1.trans ((hC6.1 70 1404 rfl).1.trans ((hC4.1 70 1404 rfl).1.trans rfl))); omega))⟩⟩
  · refine ev_swt f_X12_riverPart (nx := 72) (c := 1) rfl h5 rfl ?_
    refine ev_loc f_X12_riverPart (nx := 73) rfl rfl rfl rfl ?_
    refine ev_loc f_X12_riverPart (nx := 74) rfl rfl rfl rfl ?_
    refine ev_inV2 f_X12_riverPart (nx := 77) (lo2 := [(0, .ref 69), (1, .int w4)]) rfl rfl rfl rfl f_X12_once (hI.wf.s rfl) rfl rfl rfl rfl rfl ?_
    refine ev_loc f_X12_once (nx := 1) rfl rfl rfl rfl ?_
    refine ev_getI f_X12_once (nx := 4) rfl (hI.wf.s rfl) rfl rfl rfl ?_
    refine ev_loc f_X12_once (nx := 5) rfl rfl rfl rfl ?_
    refine ev_anyI f_X12_once (nx := 6) rfl rfl rfl rfl (fun z24 => ?_)
    refine ev_ic f_X12_once (nx := 7) (v := 1) rfl (by decide) rfl ?_
    refine ev_andE f_X12_once (nx := 8) (c := 1) rfl (by decide) (by decide) rfl (fun z25 e25 l25 u25 => ?_)
    refine ev_ic f_X12_once (nx := 9) (v := 1) rfl (by decide) rfl ?_
    refine ev_if f_X12_once (t1 := 12) (t2 := 18) rfl rfl rfl (fun h26 => ?_) (fun h26 => ?_)
    · have l27 : 1 ≤ z25.toInt := t_eql h26 (by decide : (1:Int) ≤ (1:Int32).toInt)
      refine ev_loc f_X12_once (nx := 13) rfl rfl rfl rfl ?_
      refine ev_ic f_X12_once (nx := 14) (v := 5) rfl (by decide) rfl ?_
      refine ev_inV2 f_X12_once (nx := 17) (lo2 := [(0, .ref 69), (1, .int 5)]) rfl rfl rfl rfl f_X12_fails (hI.wf.s rfl) rfl rfl rfl rfl rfl ?_
      refine ev_loc f_X12_fails (nx := 1) rfl rfl rfl rfl ?_
      refine ev_getI f_X12_fails (nx := 4) rfl (hI.wf.s rfl) rfl rfl rfl ?_
      refine ev_if f_X12_fails (t1 := 7) (t2 := 32) rfl rfl rfl (fun h28 => ?_) (fun h28 => ?_)
      · have u29 : (gi4 69 18).toInt ≤ 0 := t_equ h28 (by decide : (0:Int32).toInt ≤ (0:Int))
        have l30 : 0 ≤ (gi4 69 18).toInt := t_eql h28 (by decide : (0:Int) ≤ (0:Int32).toInt)
        refine ev_loc f_X12_fails (nx := 8) rfl rfl rfl rfl ?_
        refine ev_loc f_X12_fails (nx := 9) rfl rfl rfl rfl ?_
        refine ev_gvI f_X12_fails (nx := 12) (w := (gi 69 12)) rfl (hI.wf.s rfl) rfl rfl ((hC4.1 69 12 rfl).1.trans rfl) rfl ?_
        refine ev_ic f_X12_fails (nx := 13) (v := 1) rfl (by decide) rfl ?_
        refine ev_if f_X12_fails (t1 := 16) (t2 := 20) rfl rfl rfl (fun h31 => ?_) (fun h31 => ?_)
        · have u32 : (gi 69 12).toInt ≤ 1 := t_equ h31 (by decide : (1:Int32).toInt ≤ (1:Int))
          have l33 : 1 ≤ (gi 69 12).toInt := t_eql h31 (by decide : (1:Int) ≤ (1:Int32).toInt)
          refine ev_ic f_X12_fails (nx := 17) (v := 1) rfl (by decide) rfl ?_
          refine ev_jmp f_X12_fails (nx := 21) rfl rfl rfl ?_
          refine ev_putIT f_X12_fails (nx := 24) rfl (hI.wf.s rfl) rfl rfl rfl (hI.put0 (hI.wf.s rfl) rfl rfl) (hX.upI rfl) (fun g34 e34 hI hX => ?_)
          refine ev_loc f_X12_fails (nx := 25) rfl rfl rfl rfl ?_
          refine ev_loc f_X12_fails (nx := 26) rfl rfl rfl rfl ?_
          refine ev_getI f_X12_fails (nx := 29) rfl (hI.wf.s rfl) rfl rfl rfl ?_
          obtain ⟨l35, u35⟩ := hI.b (hI.wf.s (k := 69) rfl) (t_bdK rfl : t_bd 11 13 = some (0, 900))
          refine ev_putIT f_X12_fails (nx := 32) rfl (hI.wf.s rfl) rfl rfl rfl (hI.put0 (hI.wf.s rfl) rfl rfl) (hX.upI rfl) (fun g36 e36 hI hX => ?_)
          refine ev_ic f_X12_fails (nx := 33) (v := 0) rfl (by decide) rfl ?_
          refine ev_retK1 f_X12_fails rfl rfl rfl ?_
          refine ev_retK1 f_X12_once rfl rfl rfl ?_
          refine ev_loc f_X12_riverPart (nx := 78) (lo' := [(1, .int 0), (2, .int w4), (0, .ref 69)]) rfl rfl rfl rfl ?_
          refine ev_jmp f_X12_riverPart (nx := 87) rfl rfl rfl ?_
          refine ev_loc f_X12_riverPart (nx := 88) rfl rfl rfl rfl ?_
          refine ev_t f_X12_riverPart (t1 := 104) (t2 := 91) rfl rfl rfl (by decide) ?_
          refine ev_ic f_X12_riverPart (nx := 105) (v := 0) rfl (by decide) rfl ?_
          exact ev_ret f_X12_riverPart rfl rfl rfl ⟨_, _, _, rfl, hI, hX, ⟨_, rfl, (by decide : (0:Int) ≤ (0:Int32).toInt), (Int.le_trans (by decide : (0:Int32).toInt ≤ (0:Int)) (by decide : (0:Int) ≤ 1)), (show (gi 69 14).toInt ≤ (g36 69 14).toInt ∧ (0 = 1 → (g36 69 12).toInt ≠ 0 → (gi 69 14).toInt < (g36 69 14).toInt) ∧ (1 ≤ (gi 70 1404).toInt → 1 ≤ (g36 70 1404).toInt) from (by have ff37 : (g36 69 14).toInt = (gi 69 14).toInt := congrArg Int32.toInt ((by rw [e36]; exact x_up2_off (Or.inr (by decide)) : g36 69 14 = g34 69 14).trans ((by rw [e34]; exact x_up2_off (Or.inr (by decide)) : g34 69 14 = gi4 69 14).trans ((hC4.1 69 14 rfl).1.trans rfl))); have ff38 : (g36 69 12).toInt = (gi 69 12).toInt := congrArg Int32.toInt ((by rw [e36]; exact x_up2_off (Or.inr (by decide)) : g36 69 12 = g34 69 12).trans ((by rw [e34]; exact x_up2_off (Or.inr (by decide)) : g34 69 12 = gi4 69 12).trans ((hC4.1 69 12 rfl).1.trans rfl))); have ff39 : (g36 70 1404).toInt = (gi 70 1404).toInt := congrArg Int32.toInt ((by rw [e36]; exact x_up2_off (Or.inr (by decide)) : g36 70 1404 = g34 70 1404).trans ((by rw [e34]; exact x_up2_off (Or.inr (by decide)) : g34 70 1404 = gi4 70 1404).trans ((hC4.1 70 1404 rfl).1.trans rfl))); omega))⟩⟩
        · have r40 : (gi 69 12).toInt ≠ 1 := fun e => h31 (Int32.toInt_inj.mp (e.trans (by decide : (1:Int) = (1 : Int32).toInt)))
          refine ev_loc f_X12_fails (nx := 21) rfl rfl rfl rfl ?_
          refine ev_putIT f_X12_fails (nx := 24) rfl (hI.wf.s rfl) rfl rfl rfl (hI.put0 (hI.wf.s rfl) rfl rfl) (hX.upI rfl) (fun g41 e41 hI hX => ?_)
          refine ev_loc f_X12_fails (nx := 25) rfl rfl rfl rfl ?_
          refine ev_loc f_X12_fails (nx := 26) rfl rfl rfl rfl ?_
          refine ev_getI f_X12_fails (nx := 29) rfl (hI.wf.s rfl) rfl rfl rfl ?_
          obtain ⟨l42, u42⟩ := hI.b (hI.wf.s (k := 69) rfl) (t_bdK rfl : t_bd 11 13 = some (0, 900))
          refine ev_putIT f_X12_fails (nx := 32) rfl (hI.wf.s rfl) rfl rfl rfl (hI.put0 (hI.wf.s rfl) rfl rfl) (hX.upI rfl) (fun g43 e43 hI hX => ?_)
          refine ev_ic f_X12_fails (nx := 33) (v := 0) rfl (by decide) rfl ?_
          refine ev_retK1 f_X12_fails rfl rfl rfl ?_
          refine ev_retK1 f_X12_once rfl rfl rfl ?_
          refine ev_loc f_X12_riverPart (nx := 78) (lo' := [(1, .int 0), (2, .int w4), (0, .ref 69)]) rfl rfl rfl rfl ?_
          refine ev_jmp f_X12_riverPart (nx := 87) rfl rfl rfl ?_
          refine ev_loc f_X12_riverPart (nx := 88) rfl rfl rfl rfl ?_
          refine ev_t f_X12_riverPart (t1 := 104) (t2 := 91) rfl rfl rfl (by decide) ?_
          refine ev_ic f_X12_riverPart (nx := 105) (v := 0) rfl (by decide) rfl ?_
          exact ev_ret f_X12_riverPart rfl rfl rfl ⟨_, _, _, rfl, hI, hX, ⟨_, rfl, (by decide : (0:Int) ≤ (0:Int32).toInt), (Int.le_trans (by decide : (0:Int32).toInt ≤ (0:Int)) (by decide : (0:Int) ≤ 1)), (show (gi 69 14).toInt ≤ (g43 69 14).toInt ∧ (0 = 1 → (g43 69 12).toInt ≠ 0 → (gi 69 14).toInt < (g43 69 14).toInt) ∧ (1 ≤ (gi 70 1404).toInt → 1 ≤ (g43 70 1404).toInt) from (by have ff44 : (g43 69 14).toInt = (gi 69 14).toInt := congrArg Int32.toInt ((by rw [e43]; exact x_up2_off (Or.inr (by decide)) : g43 69 14 = g41 69 14).trans ((by rw [e41]; exact x_up2_off (Or.inr (by decide)) : g41 69 14 = gi4 69 14).trans ((hC4.1 69 14 rfl).1.trans rfl))); have ff45 : (g43 69 12).toInt = (gi 69 12).toInt := congrArg Int32.toInt ((by rw [e43]; exact x_up2_off (Or.inr (by decide)) : g43 69 12 = g41 69 12).trans ((by rw [e41]; exact x_up2_off (Or.inr (by decide)) : g41 69 12 = gi4 69 12).trans ((hC4.1 69 12 rfl).1.trans rfl))); have ff46 : (g43 70 1404).toInt = (gi 70 1404).toInt := congrArg Int32.toInt ((by rw [e43]; exact x_up2_off (Or.inr (by decide)) : g43 70 1404 = g41 70 1404).trans ((by rw [e41]; exact x_up2_off (Or.inr (by decide)) : g41 70 1404 = gi4 70 1404).trans ((hC4.1 70 1404 rfl).1.trans rfl))); omega))⟩⟩
      · have r47 : (gi4 69 18).toInt ≠ 0 := fun e => h28 (Int32.toInt_inj.mp (e.trans (by decide : (0:Int) = (0 : Int32).toInt)))
        refine ev_ic f_X12_fails (nx := 33) (v := 0) rfl (by decide) rfl ?_
        refine ev_retK1 f_X12_fails rfl rfl rfl ?_
        refine ev_retK1 f_X12_once rfl rfl rfl ?_
        refine ev_loc f_X12_riverPart (nx := 78) (lo' := [(1, .int 0), (2, .int w4), (0, .ref 69)]) rfl rfl rfl rfl ?_
        refine ev_jmp f_X12_riverPart (nx := 87) rfl rfl rfl ?_
        refine ev_loc f_X12_riverPart (nx := 88) rfl rfl rfl rfl ?_
        refine ev_t f_X12_riverPart (t1 := 104) (t2 := 91) rfl rfl rfl (by decide) ?_
        refine ev_ic f_X12_riverPart (nx := 105) (v := 0) rfl (by decide) rfl ?_
        exact ev_ret f_X12_riverPart rfl rfl rfl ⟨_, _, _, rfl, hI, hX, ⟨_, rfl, (by decide : (0:Int) ≤ (0:Int32).toInt), (Int.le_trans (by decide : (0:Int32).toInt ≤ (0:Int)) (by decide : (0:Int) ≤ 1)), (show (gi 69 14).toInt ≤ (gi4 69 14).toInt ∧ (0 = 1 → (gi4 69 12).toInt ≠ 0 → (gi 69 14).toInt < (gi4 69 14).toInt) ∧ (1 ≤ (gi 70 1404).toInt → 1 ≤ (gi4 70 1404).toInt) from (by have ff48 : (gi4 69 14).toInt = (gi 69 14).toInt := congrArg Int32.toInt ((hC4.1 69 14 rfl).1.trans rfl); have ff49 : (gi4 69 12).toInt = (gi 69 12).toInt := congrArg Int32.toInt ((hC4.1 69 12 rfl).1.trans rfl); have ff50 : (gi4 70 1404).toInt = (gi 70 1404).toInt := congrArg Int32.toInt ((hC4.1 70 1404 rfl).1.trans rfl); omega))⟩⟩
    · have r51 : z25.toInt ≠ 1 := fun e => h26 (Int32.toInt_inj.mp (e.trans (by decide : (1:Int) = (1 : Int32).toInt)))
      have u52 : z25.toInt ≤ 0 := t_neu h26 u25 rfl rfl
      refine ev_loc f_X12_once (nx := 19) rfl rfl rfl rfl ?_
      refine ev_alu f_X12_once (nx := 20) rfl rfl rfl rfl ?_
      refine ev_gvI f_X12_once (nx := 23) (w := (gi4 69 20)) rfl (hI.wf.s rfl) rfl rfl rfl rfl ?_
      refine ev_ic f_X12_once (nx := 24) (v := 1) rfl (by decide) rfl ?_
      refine ev_loc f_X12_once (nx := 25) rfl rfl rfl rfl ?_
      refine ev_shl1 f_X12_once (nx := 26) rfl (Int.le_of_eq h5.symm) (Int.le_of_eq h5) (by decide) (by decide) rfl (fun z53 l53 u53 => ?_)
      refine ev_anyI f_X12_once (nx := 27) rfl rfl rfl rfl (fun z54 => ?_)
      refine ev_putIT f_X12_once (nx := 30) rfl (hI.wf.s rfl) rfl rfl rfl (hI.put0 (hI.wf.s rfl) rfl rfl) (hX.upI rfl) (fun g55 e55 hI hX => ?_)
      refine ev_loc f_X12_once (nx := 31) rfl rfl rfl rfl ?_
      refine ev_qN f_X12_once (nx := 34) (r := []) rfl rfl rfl rfl rfl rfl rfl (c_m_ahead hI ) rfl hX rfl (fun gi56 gl56 gr56 hI hX hC56 q56 => ?_)
      have ff57 : (g55 69 14).toInt = (gi 69 14).toInt := congrArg Int32.toInt ((by rw [e55]; exact x_up2_off (Or.inr (by decide)) : g55 69 14 = gi4 69 14).trans ((hC4.1 69 14 rfl).1.trans rfl))
      have q56 : (g55 69 14).toInt ≤ (gi56 69 14).toInt ∧ ((gi56 69 12).toInt ≠ 0 → (g55 69 14).toInt < (gi56 69 14).toInt) := q56
      obtain ⟨l58, u58⟩ := hI.b (hI.wf.s (k := 69) rfl) (t_bdK rfl : t_bd 11 12 = some (0, 4))
      obtain ⟨l59, u59⟩ := hI.b (hI.wf.s (k := 69) rfl) (t_bdK rfl : t_bd 11 14 = some (0, 900))
      refine ev_loc f_X12_once (nx := 35) rfl rfl rfl rfl ?_
      refine ev_ic f_X12_once (nx := 36) (v := 1) rfl (by decide) rfl ?_
      refine ev_t f_X12_once (t1 := 39) (t2 := 50) rfl rfl rfl (t_eqT (Int.le_of_eq h5) (Int.le_of_eq h5.symm) (by decide : (1:Int32).toInt ≤ (1:Int)) (by decide : (1:Int) ≤ (1:Int32).toInt)) ?_
      refine ev_loc f_X12_once (nx := 40) rfl rfl rfl rfl ?_
      refine ev_sp f_X12_once (nx := 43) (v := 1404) rfl (by decide) rfl ?_
      refine ev_ic f_X12_once (nx := 44) (v := 1) rfl (by decide) rfl ?_
      refine ev_bp f_X12_once (nx := 46) (v := 20) rfl (by decide) rfl ?_
      refine ev_inV4 f_X12_once (nx := 49) (lo2 := [(0, .ref 69), (1, .int 1404), (2, .int 1), (3, .int 20)]) rfl rfl rfl rfl f_X12_number (hI.wf.s rfl) rfl rfl rfl rfl rfl ?_
      refine ev_loc f_X12_number (nx := 1) rfl rfl rfl rfl ?_
      refine ev_gvI f_X12_number (nx := 4) (w := (gi56 69 12)) rfl (hI.wf.s rfl) rfl rfl rfl rfl ?_
      refine ev_ic f_X12_number (nx := 5) (v := 3) rfl (by decide) rfl ?_
      refine ev_if f_X12_number (t1 := 14) (t2 := 8) rfl rfl rfl (fun h60 => ?_) (fun h60 => ?_)
      · have u61 : (gi56 69 12).toInt ≤ 3 := t_equ h60 (by decide : (3:Int32).toInt ≤ (3:Int))
        have l62 : 3 ≤ (gi56 69 12).toInt := t_eql h60 (by decide : (3:Int) ≤ (3:Int32).toInt)
        refine ev_loc f_X12_number (nx := 15) rfl rfl rfl rfl ?_
        refine ev_getI f_X12_number (nx := 18) rfl (hI.wf.s rfl) rfl rfl rfl ?_
        refine ev_loc f_X12_number (nx := 19) rfl rfl rfl rfl ?_
        refine ev_if f_X12_number (t1 := 30) (t2 := 22) rfl rfl rfl (fun h63 => ?_) (fun h63 => ?_)
        · have u64 : (gi56 69 15).toInt ≤ 0 := t_ltu h63 (by decide : (1:Int32).toInt ≤ (1:Int)) rfl
          refine ev_loc f_X12_number (nx := 31) rfl rfl rfl rfl ?_
          refine ev_ic f_X12_number (nx := 32) (v := 4) rfl (by decide) rfl ?_
          refine ev_inV2 f_X12_number (nx := 35) (lo2 := [(0, .ref 69), (1, .int 4)]) rfl rfl rfl rfl f_X12_fails (hI.wf.s rfl) rfl rfl rfl rfl rfl ?_
          refine ev_loc f_X12_fails (nx := 1) rfl rfl rfl rfl ?_
          refine ev_getI f_X12_fails (nx := 4) rfl (hI.wf.s rfl) rfl rfl rfl ?_
          refine ev_if f_X12_fails (t1 := 7) (t2 := 32) rfl rfl rfl (fun h65 => ?_) (fun h65 => ?_)
          · have u66 : (gi56 69 18).toInt ≤ 0 := t_equ h65 (by decide : (0:Int32).toInt ≤ (0:Int))
            have l67 : 0 ≤ (gi56 69 18).toInt := t_eql h65 (by decide : (0:Int) ≤ (0:Int32).toInt)
            refine ev_loc f_X12_fails (nx := 8) rfl rfl rfl rfl ?_
            refine ev_loc f_X12_fails (nx := 9) rfl rfl rfl rfl ?_
            refine ev_gvI f_X12_fails (nx := 12) (w := (gi56 69 12)) rfl (hI.wf.s rfl) rfl rfl rfl rfl ?_
            refine ev_ic f_X12_fails (nx := 13) (v := 1) rfl (by decide) rfl ?_
            refine ev_f f_X12_fails (t1 := 16) (t2 := 20) rfl rfl rfl (t_neT' (by decide : (1:Int32).toInt ≤ (1:Int)) l62 (by decide)) ?_
            refine ev_loc f_X12_fails (nx := 21) rfl rfl rfl rfl ?_
            refine ev_putIT f_X12_fails (nx := 24) rfl (hI.wf.s rfl) rfl rfl rfl (hI.put0 (hI.wf.s rfl) rfl rfl) (hX.upI rfl) (fun g68 e68 hI hX => ?_)
            refine ev_loc f_X12_fails (nx := 25) rfl rfl rfl rfl ?_
            refine ev_loc f_X12_fails (nx := 26) rfl rfl rfl rfl ?_
            refine ev_getI f_X12_fails (nx := 29) rfl (hI.wf.s rfl) rfl rfl rfl ?_
            obtain ⟨l69, u69⟩ := hI.b (hI.wf.s (k := 69) rfl) (t_bdK rfl : t_bd 11 13 = some (0, 900))
            refine ev_putIT f_X12_fails (nx := 32) rfl (hI.wf.s rfl) rfl rfl rfl (hI.put0 (hI.wf.s rfl) rfl rfl) (hX.upI rfl) (fun g70 e70 hI hX => ?_)
            refine ev_ic f_X12_fails (nx := 33) (v := 0) rfl (by decide) rfl ?_
            refine ev_retK1 f_X12_fails rfl rfl rfl ?_
            refine ev_retK1 f_X12_number rfl rfl rfl ?_
            refine ev_retK1 f_X12_once rfl rfl rfl ?_
            refine ev_loc f_X12_riverPart (nx := 78) (lo' := [(1, .int 0), (2, .int w4), (0, .ref 69)]) rfl rfl rfl rfl ?_
            refine ev_jmp f_X12_riverPart (nx := 87) rfl rfl rfl ?_
            refine ev_loc f_X12_riverPart (nx := 88) rfl rfl rfl rfl ?_
            refine ev_t f_X12_riverPart (t1 := 104) (t2 := 91) rfl rfl rfl (by decide) ?_
            refine ev_ic f_X12_riverPart (nx := 105) (v := 0) rfl (by decide) rfl ?_
            exact ev_ret f_X12_riverPart rfl rfl rfl ⟨_, _, _, rfl, hI, hX, ⟨_, rfl, (by decide : (0:Int) ≤ (0:Int32).toInt), (Int.le_trans (by decide : (0:Int32).toInt ≤ (0:Int)) (by decide : (0:Int) ≤ 1)), (show (gi 69 14).toInt ≤ (g70 69 14).toInt ∧ (0 = 1 → (g70 69 12).toInt ≠ 0 → (gi 69 14).toInt < (g70 69 14).toInt) ∧ (1 ≤ (gi 70 1404).toInt → 1 ≤ (g70 70 1404).toInt) from (by have ff71 : (g70 69 14).toInt = (gi56 69 14).toInt := congrArg Int32.toInt ((by rw [e70]; exact x_up2_off (Or.inr (by decide)) : g70 69 14 = g68 69 14).trans ((by rw [e68]; exact x_up2_off (Or.inr (by decide)) : g68 69 14 = gi56 69 14).trans rfl)); have ff72 : (g70 69 12).toInt = (gi56 69 12).toInt := congrArg Int32.toInt ((by rw [e70]; exact x_up2_off (Or.inr (by decide)) : g70 69 12 = g68 69 12).trans ((by rw [e68]; exact x_up2_off (Or.inr (by decide)) : g68 69 12 = gi56 69 12).trans rfl)); have ff73 : (g70 70 1404).toInt = (gi 70 1404).toInt := congrArg Int32.toInt ((by rw [e70]; exact x_up2_off (Or.inr (by decide)) : g70 70 1404 = g68 70 1404).trans ((by rw [e68]; exact x_up2_off (Or.inr (by decide)) : g68 70 1404 = gi56 70 1404).trans ((hC56.1 70 1404 rfl).1.trans ((by rw [e55]; exact x_up2_off (Or.inr (by decide)) : g55 70 1404 = gi4 70 1404).trans ((hC4.1 70 1404 rfl).1.trans rfl))))); omega))⟩⟩
          · have r74 : (gi56 69 18).toInt ≠ 0 := fun e => h65 (Int32.toInt_inj.mp (e.trans (by decide : (0:Int) = (0 : Int32).toInt)))
            refine ev_ic f_X12_fails (nx := 33) (v := 0) rfl (by decide) rfl ?_
            refine ev_retK1 f_X12_fails rfl rfl rfl ?_
            refine ev_retK1 f_X12_number rfl rfl rfl ?_
            refine ev_retK1 f_X12_once rfl rfl rfl ?_
            refine ev_loc f_X12_riverPart (nx := 78) (lo' := [(1, .int 0), (2, .int w4), (0, .ref 69)]) rfl rfl rfl rfl ?_
            refine ev_jmp f_X12_riverPart (nx := 87) rfl rfl rfl ?_
            refine ev_loc f_X12_riverPart (nx := 88) rfl rfl rfl rfl ?_
            refine ev_t f_X12_riverPart (t1 := 104) (t2 := 91) rfl rfl rfl (by decide) ?_
            refine ev_ic f_X12_riverPart (nx := 105) (v := 0) rfl (by decide) rfl ?_
            exact ev_ret f_X12_riverPart rfl rfl rfl ⟨_, _, _, rfl, hI, hX, ⟨_, rfl, (by decide : (0:Int) ≤ (0:Int32).toInt), (Int.le_trans (by decide : (0:Int32).toInt ≤ (0:Int)) (by decide : (0:Int) ≤ 1)), (show (gi 69 14).toInt ≤ (gi56 69 14).toInt ∧ (0 = 1 → (gi56 69 12).toInt ≠ 0 → (gi 69 14).toInt < (gi56 69 14).toInt) ∧ (1 ≤ (gi 70 1404).toInt → 1 ≤ (gi56 70 1404).toInt) from (by have ff75 : (gi56 70 1404).toInt = (gi 70 1404).toInt := congrArg Int32.toInt ((hC56.1 70 1404 rfl).1.trans ((by rw [e55]; exact x_up2_off (Or.inr (by decide)) : g55 70 1404 = gi4 70 1404).trans ((hC4.1 70 1404 rfl).1.trans rfl))); omega))⟩⟩
        · have l76 : 1 ≤ (gi56 69 15).toInt := t_lel (t_nlt h63) (by decide : (1:Int) ≤ (1:Int32).toInt)
          refine ev_loc f_X12_number (nx := 23) rfl rfl rfl rfl ?_
          refine ev_gvI f_X12_number (nx := 26) (w := (gi56 69 15)) rfl (hI.wf.s rfl) rfl rfl rfl rfl ?_
          refine ev_loc f_X12_number (nx := 27) rfl rfl rfl rfl ?_
          refine ev_if f_X12_number (t1 := 36) (t2 := 30) rfl rfl rfl (fun h77 => ?_) (fun h77 => ?_)
          · have u78 : (gi56 69 15).toInt ≤ 20 := t_leu h77 (by decide : (20:Int32).toInt ≤ (20:Int))
            refine ev_loc f_X12_number (nx := 37) rfl rfl rfl rfl ?_
            refine ev_getR f_X12_number (nx := 40) rfl (hI.wf.s rfl) rfl rfl (hI.wf.r rfl) rfl rfl ?_
            refine ev_loc f_X12_number (nx := 41) rfl rfl rfl rfl ?_
            refine ev_loc f_X12_number (nx := 42) rfl rfl rfl rfl ?_
            refine ev_gvI f_X12_number (nx := 45) (w := (gi56 69 15)) rfl (hI.wf.s rfl) rfl rfl rfl rfl ?_
            refine ev_iastT f_X12_number (nx := 46) rfl (hI.wf.s rfl) (by decide : (1404:Int) ≤ (1404:Int32).toInt) (by decide) (by decide : (1404:Int32).toInt ≤ (1404:Int)) (by decide) rfl (hI.astL (hI.wf.s rfl) (by decide +kernel : t_abw 70 1404 1404 1 20 = true) (t_cl1 (by decide : (1404:Int) ≤ (1404:Int32).toInt) (by decide)) (t_cl2 (by decide : (1404:Int) ≤ (1404:Int32).toInt) (by decide : (1404:Int32).toInt ≤ (1404:Int)) (by decide) (by decide)) l76 u78 rfl) (hX.upI (t_inR (p := 1404) (m := 1404) rfl (by decide : (1404:Int) ≤ (1404:Int32).toInt) (by decide) (by decide : (1404:Int32).toInt ≤ (1404:Int)) (by decide) (by decide))) (fun g79 e79 hI hX => ?_)
            refine ev_loc f_X12_number (nx := 47) rfl rfl rfl rfl ?_
            refine ev_qN f_X12_number (nx := 50) (r := []) rfl rfl rfl rfl rfl rfl rfl (c_m_ahead hI ) rfl hX rfl (fun gi80 gl80 gr80 hI hX hC80 q80 => ?_)
            have ff81 : (g79 69 14).toInt = (gi56 69 14).toInt := congrArg Int32.toInt ((by rw [e79]; exact x_up2_off (Or.inl (by decide)) : g79 69 14 = gi56 69 14).trans rfl)
            have q80 : (g79 69 14).toInt ≤ (gi80 69 14).toInt ∧ ((gi80 69 12).toInt ≠ 0 → (g79 69 14).toInt < (gi80 69 14).toInt) := q80
            obtain ⟨l82, u82⟩ := hI.b (hI.wf.s (k := 69) rfl) (t_bdK rfl : t_bd 11 12 = some (0, 4))
            obtain ⟨l83, u83⟩ := hI.b (hI.wf.s (k := 69) rfl) (t_bdK rfl : t_bd 11 14 = some (0, 900))
            refine ev_ic f_X12_number (nx := 51) (v := 1) rfl (by decide) rfl ?_
            refine ev_retK1 f_X12_number rfl rfl rfl ?_
            refine ev_retK1 f_X12_once rfl rfl rfl ?_
            refine ev_loc f_X12_riverPart (nx := 78) (lo' := [(1, .int 1), (2, .int w4), (0, .ref 69)]) rfl rfl rfl rfl ?_
            refine ev_jmp f_X12_riverPart (nx := 87) rfl rfl rfl ?_
            refine ev_loc f_X12_riverPart (nx := 88) rfl rfl rfl rfl ?_
            refine ev_f f_X12_riverPart (t1 := 104) (t2 := 91) rfl rfl rfl (by decide) ?_
            refine ev_loc f_X12_riverPart (nx := 92) rfl rfl rfl rfl ?_
            refine ev_bp f_X12_riverPart (nx := 94) (v := 59) rfl (by decide) rfl ?_
            refine ev_qI f_X12_riverPart (nx := 97) (r := []) rfl rfl rfl rfl rfl rfl rfl (c_m_wantSign hI (59)) rfl hX rfl (fun w84 gi84 gl84 gr84 l84 u84 hI hX hC84 q84 => ?_)
            have q84 : (gi80 69 14).toInt ≤ (gi84 69 14).toInt ∧ (w84.toInt = 1 → (gi84 69 12).toInt ≠ 0 → (gi80 69 14).toInt < (gi84 69 14).toInt) := q84
            obtain ⟨l85, u85⟩ := hI.b (hI.wf.s (k := 69) rfl) (t_bdK rfl : t_bd 11 12 = some (0, 4))
            obtain ⟨l86, u86⟩ := hI.b (hI.wf.s (k := 69) rfl) (t_bdK rfl : t_bd 11 14 = some (0, 900))
            refine ev_if f_X12_riverPart (t1 := 104) (t2 := 100) rfl rfl rfl (fun h87 => ?_) (fun h87 => ?_)
            · have u88 : w84.toInt ≤ 0 := t_equ h87 (by decide : (0:Int32).toInt ≤ (0:Int))
              refine ev_ic f_X12_riverPart (nx := 105) (v := 0) rfl (by decide) rfl ?_
              exact ev_ret f_X12_riverPart rfl rfl rfl ⟨_, _, _, rfl, hI, hX, ⟨_, rfl, (by decide : (0:Int) ≤ (0:Int32).toInt), (Int.le_trans (by decide : (0:Int32).toInt ≤ (0:Int)) (by decide : (0:Int) ≤ 1)), (show (gi 69 14).toInt ≤ (gi84 69 14).toInt ∧ (0 = 1 → (gi84 69 12).toInt ≠ 0 → (gi 69 14).toInt < (gi84 69 14).toInt) ∧ (1 ≤ (gi 70 1404).toInt → 1 ≤ (gi84 70 1404).toInt) from (by have ff89 : (gi84 70 1404).toInt = (gi56 69 15).toInt := congrArg Int32.toInt ((hC84.1 70 1404 rfl).1.trans ((hC80.1 70 1404 rfl).1.trans (by rw [e79]; exact x_up2_at _ _ _ _ : g79 70 1404 = (gi56 69 15)))); omega))⟩⟩
            · have r90 : w84.toInt ≠ 0 := fun e => h87 (Int32.toInt_inj.mp (e.trans (by decide : (0:Int) = (0 : Int32).toInt)))
              have l91 : 1 ≤ w84.toInt := t_nel h87 l84 rfl rfl
              refine ev_ic f_X12_riverPart (nx := 101) (v := 1) rfl (by decide) rfl ?_
              refine ev_jmp f_X12_riverPart (nx := 105) rfl rfl rfl ?_
              exact ev_ret f_X12_riverPart rfl rfl rfl ⟨_, _, _, rfl, hI, hX, ⟨_, rfl, (Int.le_trans (by decide : (0:Int) ≤ 1) (by decide : (1:Int) ≤ (1:Int32).toInt)), (by decide : (1:Int32).toInt ≤ (1:Int)), (show (gi 69 14).toInt ≤ (gi84 69 14).toInt ∧ (1 = 1 → (gi84 69 12).toInt ≠ 0 → (gi 69 14).toInt < (gi84 69 14).toInt) ∧ (1 ≤ (gi 70 1404).toInt → 1 ≤ (gi84 70 1404).toInt) from (by have ff92 : (gi84 70 1404).toInt = (gi56 69 15).toInt := congrArg Int32.toInt ((hC84.1 70 1404 rfl).1.trans ((hC80.1 70 1404 rfl).1.trans (by rw [e79]; exact x_up2_at _ _ _ _ : g79 70 1404 = (gi56 69 15)))); omega))⟩⟩
          · have l93 : 21 ≤ (gi56 69 15).toInt := t_ltl (t_nle h77) (by decide : (20:Int) ≤ (20:Int32).toInt) rfl
            refine ev_loc f_X12_number (nx := 31) rfl rfl rfl rfl ?_
            refine ev_ic f_X12_number (nx := 32) (v := 4) rfl (by decide) rfl ?_
            refine ev_inV2 f_X12_number (nx := 35) (lo2 := [(0, .ref 69), (1, .int 4)]) rfl rfl rfl rfl f_X12_fails (hI.wf.s rfl) rfl rfl rfl rfl rfl ?_
            refine ev_loc f_X12_fails (nx := 1) rfl rfl rfl rfl ?_
            refine ev_getI f_X12_fails (nx := 4) rfl (hI.wf.s rfl) rfl rfl rfl ?_
            refine ev_if f_X12_fails (t1 := 7) (t2 := 32) rfl rfl rfl (fun h94 => ?_) (fun h94 => ?_)
            · have u95 : (gi56 69 18).toInt ≤ 0 := t_equ h94 (by decide : (0:Int32).toInt ≤ (0:Int))
              have l96 : 0 ≤ (gi56 69 18).toInt := t_eql h94 (by decide : (0:Int) ≤ (0:Int32).toInt)
              refine ev_loc f_X12_fails (nx := 8) rfl rfl rfl rfl ?_
              refine ev_loc f_X12_fails (nx := 9) rfl rfl rfl rfl ?_
              refine ev_gvI f_X12_fails (nx := 12) (w := (gi56 69 12)) rfl (hI.wf.s rfl) rfl rfl rfl rfl ?_
              refine ev_ic f_X12_fails (nx := 13) (v := 1) rfl (by decide) rfl ?_
              refine ev_f f_X12_fails (t1 := 16) (t2 := 20) rfl rfl rfl (t_neT' (by decide : (1:Int32).toInt ≤ (1:Int)) l62 (by decide)) ?_
              refine ev_loc f_X12_fails (nx := 21) rfl rfl rfl rfl ?_
              refine ev_putIT f_X12_fails (nx := 24) rfl (hI.wf.s rfl) rfl rfl rfl (hI.put0 (hI.wf.s rfl) rfl rfl) (hX.upI rfl) (fun g97 e97 hI hX => ?_)
              refine ev_loc f_X12_fails (nx := 25) rfl rfl rfl rfl ?_
              refine ev_loc f_X12_fails (nx := 26) rfl rfl rfl rfl ?_
              refine ev_getI f_X12_fails (nx := 29) rfl (hI.wf.s rfl) rfl rfl rfl ?_
              obtain ⟨l98, u98⟩ := hI.b (hI.wf.s (k := 69) rfl) (t_bdK rfl : t_bd 11 13 = some (0, 900))
              refine ev_putIT f_X12_fails (nx := 32) rfl (hI.wf.s rfl) rfl rfl rfl (hI.put0 (hI.wf.s rfl) rfl rfl) (hX.upI rfl) (fun g99 e99 hI hX => ?_)
              refine ev_ic f_X12_fails (nx := 33) (v := 0) rfl (by decide) rfl ?_
              refine ev_retK1 f_X12_fails rfl rfl rfl ?_
              refine ev_retK1 f_X12_number rfl rfl rfl ?_
              refine ev_retK1 f_X12_once rfl rfl rfl ?_
              refine ev_loc f_X12_riverPart (nx := 78) (lo' := [(1, .int 0), (2, .int w4), (0, .ref 69)]) rfl rfl rfl rfl ?_
              refine ev_jmp f_X12_riverPart (nx := 87) rfl rfl rfl ?_
              refine ev_loc f_X12_riverPart (nx := 88) rfl rfl rfl rfl ?_
              refine ev_t f_X12_riverPart (t1 := 104) (t2 := 91) rfl rfl rfl (by decide) ?_
              refine ev_ic f_X12_riverPart (nx := 105) (v := 0) rfl (by decide) rfl ?_
              exact ev_ret f_X12_riverPart rfl rfl rfl ⟨_, _, _, rfl, hI, hX, ⟨_, rfl, (by decide : (0:Int) ≤ (0:Int32).toInt), (Int.le_trans (by decide : (0:Int32).toInt ≤ (0:Int)) (by decide : (0:Int) ≤ 1)), (show (gi 69 14).toInt ≤ (g99 69 14).toInt ∧ (0 = 1 → (g99 69 12).toInt ≠ 0 → (gi 69 14).toInt < (g99 69 14).toInt) ∧ (1 ≤ (gi 70 1404).toInt → 1 ≤ (g99 70 1404).toInt) from (by have ff100 : (g99 69 14).toInt = (gi56 69 14).toInt := congrArg Int32.toInt ((by rw [e99]; exact x_up2_off (Or.inr (by decide)) : g99 69 14 = g97 69 14).trans ((by rw [e97]; exact x_up2_off (Or.inr (by decide)) : g97 69 14 = gi56 69 14).trans rfl)); have ff101 : (g99 69 12).toInt = (gi56 69 12).toInt := congrArg Int32.toInt ((by rw [e99]; exact x_up2_off (Or.inr (by decide)) : g99 69 12 = g97 69 12).trans ((by rw [e97]; exact x_up2_off (Or.inr (by decide)) : g97 69 12 = gi56 69 12).trans rfl)); have ff102 : (g99 70 1404).toInt = (gi 70 1404).toInt := congrArg Int32.toInt ((by rw [e99]; exact x_up2_off (Or.inr (by decide)) : g99 70 1404 = g97 70 1404).trans ((by rw [e97]; exact x_up2_off (Or.inr (by decide)) : g97 70 1404 = gi56 70 1404).trans ((hC56.1 70 1404 rfl).1.trans ((by rw [e55]; exact x_up2_off (Or.inr (by decide)) : g55 70 1404 = gi4 70 1404).trans ((hC4.1 70 1404 rfl).1.trans rfl))))); omega))⟩⟩
            · have r103 : (gi56 69 18).toInt ≠ 0 := fun e => h94 (Int32.toInt_inj.mp (e.trans (by decide : (0:Int) = (0 : Int32).toInt)))
              refine ev_ic f_X12_fails (nx := 33) (v := 0) rfl (by decide) rfl ?_
              refine ev_retK1 f_X12_fails rfl rfl rfl ?_
              refine ev_retK1 f_X12_number rfl rfl rfl ?_
              refine ev_retK1 f_X12_once rfl rfl rfl ?_
              refine ev_loc f_X12_riverPart (nx := 78) (lo' := [(1, .int 0), (2, .int w4), (0, .ref 69)]) rfl rfl rfl rfl ?_
              refine ev_jmp f_X12_riverPart (nx := 87) rfl rfl rfl ?_
              refine ev_loc f_X12_riverPart (nx := 88) rfl rfl rfl rfl ?_
              refine ev_t f_X12_riverPart (t1 := 104) (t2 := 91) rfl rfl rfl (by decide) ?_
              refine ev_ic f_X12_riverPart (nx := 105) (v := 0) rfl (by decide) rfl ?_
              exact ev_ret f_X12_riverPart rfl rfl rfl ⟨_, _, _, rfl, hI, hX, ⟨_, rfl, (by decide : (0:Int) ≤ (0:Int32).toInt), (Int.le_trans (by decide : (0:Int32).toInt ≤ (0:Int)) (by decide : (0:Int) ≤ 1)), (show (gi 69 14).toInt ≤ (gi56 69 14).toInt ∧ (0 = 1 → (gi56 69 12).toInt ≠ 0 → (gi 69 14).toInt < (gi56 69 14).toInt) ∧ (1 ≤ (gi 70 1404).toInt → 1 ≤ (gi56 70 1404).toInt) from (by have ff104 : (gi56 70 1404).toInt = (gi 70 1404).toInt := congrArg Int32.toInt ((hC56.1 70 1404 rfl).1.trans ((by rw [e55]; exact x_up2_off (Or.inr (by decide)) : g55 70 1404 = gi4 70 1404).trans ((hC4.1 70 1404 rfl).1.trans rfl))); omega))⟩⟩
      · have r105 : (gi56 69 12).toInt ≠ 3 := fun e => h60 (Int32.toInt_inj.mp (e.trans (by decide : (3:Int) = (3 : Int32).toInt)))
        refine ev_loc f_X12_number (nx := 9) rfl rfl rfl rfl ?_
        refine ev_ic f_X12_number (nx := 10) (v := 2) rfl (by decide) rfl ?_
        refine ev_inV2 f_X12_number (nx := 13) (lo2 := [(0, .ref 69), (1, .int 2)]) rfl rfl rfl rfl f_X12_fails (hI.wf.s rfl) rfl rfl rfl rfl rfl ?_
        refine ev_loc f_X12_fails (nx := 1) rfl rfl rfl rfl ?_
        refine ev_getI f_X12_fails (nx := 4) rfl (hI.wf.s rfl) rfl rfl rfl ?_
        refine ev_if f_X12_fails (t1 := 7) (t2 := 32) rfl rfl rfl (fun h106 => ?_) (fun h106 => ?_)
        · have u107 : (gi56 69 18).toInt ≤ 0 := t_equ h106 (by decide : (0:Int32).toInt ≤ (0:Int))
          have l108 : 0 ≤ (gi56 69 18).toInt := t_eql h106 (by decide : (0:Int) ≤ (0:Int32).toInt)
          refine ev_loc f_X12_fails (nx := 8) rfl rfl rfl rfl ?_
          refine ev_loc f_X12_fails (nx := 9) rfl rfl rfl rfl ?_
          refine ev_gvI f_X12_fails (nx := 12) (w := (gi56 69 12)) rfl (hI.wf.s rfl) rfl rfl rfl rfl ?_
          refine ev_ic f_X12_fails (nx := 13) (v := 1) rfl (by decide) rfl ?_
          refine ev_if f_X12_fails (t1 := 16) (t2 := 20) rfl rfl rfl (fun h109 => ?_) (fun h109 => ?_)
          · have u110 : (gi56 69 12).toInt ≤ 1 := t_equ h109 (by decide : (1:Int32).toInt ≤ (1:Int))
            have l111 : 1 ≤ (gi56 69 12).toInt := t_eql h109 (by decide : (1:Int) ≤ (1:Int32).toInt)
            refine ev_ic f_X12_fails (nx := 17) (v := 1) rfl (by decide) rfl ?_
            refine ev_jmp f_X12_fails (nx := 21) rfl rfl rfl ?_
            refine ev_putIT f_X12_fails (nx := 24) rfl (hI.wf.s rfl) rfl rfl rfl (hI.put0 (hI.wf.s rfl) rfl rfl) (hX.upI rfl) (fun g112 e112 hI hX => ?_)
            refine ev_loc f_X12_fails (nx := 25) rfl rfl rfl rfl ?_
            refine ev_loc f_X12_fails (nx := 26) rfl rfl rfl rfl ?_
            refine ev_getI f_X12_fails (nx := 29) rfl (hI.wf.s rfl) rfl rfl rfl ?_
            obtain ⟨l113, u113⟩ := hI.b (hI.wf.s (k := 69) rfl) (t_bdK rfl : t_bd 11 13 = some (0, 900))
            refine ev_putIT f_X12_fails (nx := 32) rfl (hI.wf.s rfl) rfl rfl rfl (hI.put0 (hI.wf.s rfl) rfl rfl) (hX.upI rfl) (fun g114 e114 hI hX => ?_)
            refine ev_ic f_X12_fails (nx := 33) (v := 0) rfl (by decide) rfl ?_
            refine ev_retK1 f_X12_fails rfl rfl rfl ?_
            refine ev_retK1 f_X12_number rfl rfl rfl ?_
            refine ev_retK1 f_X12_once rfl rfl rfl ?_
            refine ev_loc f_X12_riverPart (nx := 78) (lo' := [(1, .int 0), (2, .int w4), (0, .ref 69)]) rfl rfl rfl rfl ?_
            refine ev_jmp f_X12_riverPart (nx := 87) rfl rfl rfl ?_
            refine ev_loc f_X12_riverPart (nx := 88) rfl rfl rfl rfl ?_
            refine ev_t f_X12_riverPart (t1 := 104) (t2 := 91) rfl rfl rfl (by decide) ?_
            refine ev_ic f_X12_riverPart (nx := 105) (v := 0) rfl (by decide) rfl ?_
            exact ev_ret f_X12_riverPart rfl rfl rfl ⟨_, _, _, rfl, hI, hX, ⟨_, rfl, (by decide : (0:Int) ≤ (0:Int32).toInt), (Int.le_trans (by decide : (0:Int32).toInt ≤ (0:Int)) (by decide : (0:Int) ≤ 1)), (show (gi 69 14).toInt ≤ (g114 69 14).toInt ∧ (0 = 1 → (g114 69 12).toInt ≠ 0 → (gi 69 14).toInt < (g114 69 14).toInt) ∧ (1 ≤ (gi 70 1404).toInt → 1 ≤ (g114 70 1404).toInt) from (by have ff115 : (g114 69 14).toInt = (gi56 69 14).toInt := congrArg Int32.toInt ((by rw [e114]; exact x_up2_off (Or.inr (by decide)) : g114 69 14 = g112 69 14).trans ((by rw [e112]; exact x_up2_off (Or.inr (by decide)) : g112 69 14 = gi56 69 14).trans rfl)); have ff116 : (g114 69 12).toInt = (gi56 69 12).toInt := congrArg Int32.toInt ((by rw [e114]; exact x_up2_off (Or.inr (by decide)) : g114 69 12 = g112 69 12).trans ((by rw [e112]; exact x_up2_off (Or.inr (by decide)) : g112 69 12 = gi56 69 12).trans rfl)); have ff117 : (g114 70 1404).toInt = (gi 70 1404).toInt := congrArg Int32.toInt ((by rw [e114]; exact x_up2_off (Or.inr (by decide)) : g114 70 1404 = g112 70 1404).trans ((by rw [e112]; exact x_up2_off (Or.inr (by decide)) : g112 70 1404 = gi56 70 1404).trans ((hC56.1 70 1404 rfl).1.trans ((by rw [e55]; exact x_up2_off (Or.inr (by decide)) : g55 70 1404 = gi4 70 1404).trans ((hC4.1 70 1404 rfl).1.trans rfl))))); omega))⟩⟩
          · have r118 : (gi56 69 12).toInt ≠ 1 := fun e => h109 (Int32.toInt_inj.mp (e.trans (by decide : (1:Int) = (1 : Int32).toInt)))
            refine ev_loc f_X12_fails (nx := 21) rfl rfl rfl rfl ?_
            refine ev_putIT f_X12_fails (nx := 24) rfl (hI.wf.s rfl) rfl rfl rfl (hI.put0 (hI.wf.s rfl) rfl rfl) (hX.upI rfl) (fun g119 e119 hI hX => ?_)
            refine ev_loc f_X12_fails (nx := 25) rfl rfl rfl rfl ?_
            refine ev_loc f_X12_fails (nx := 26) rfl rfl rfl rfl ?_
            refine ev_getI f_X12_fails (nx := 29) rfl (hI.wf.s rfl) rfl rfl rfl ?_
            obtain ⟨l120, u120⟩ := hI.b (hI.wf.s (k := 69) rfl) (t_bdK rfl : t_bd 11 13 = some (0, 900))
            refine ev_putIT f_X12_fails (nx := 32) rfl (hI.wf.s rfl) rfl rfl rfl (hI.put0 (hI.wf.s rfl) rfl rfl) (hX.upI rfl) (fun g121 e121 hI hX => ?_)
            refine ev_ic f_X12_fails (nx := 33) (v := 0) rfl (by decide) rfl ?_
            refine ev_retK1 f_X12_fails rfl rfl rfl ?_
            refine ev_retK1 f_X12_number rfl rfl rfl ?_
            refine ev_retK1 f_X12_once rfl rfl rfl ?_
            refine ev_loc f_X12_riverPart (nx := 78) (lo' := [(1, .int 0), (2, .int w4), (0, .ref 69)]) rfl rfl rfl rfl ?_
            refine ev_jmp f_X12_riverPart (nx := 87) rfl rfl rfl ?_
            refine ev_loc f_X12_riverPart (nx := 88) rfl rfl rfl rfl ?_
            refine ev_t f_X12_riverPart (t1 := 104) (t2 := 91) rfl rfl rfl (by decide) ?_
            refine ev_ic f_X12_riverPart (nx := 105) (v := 0) rfl (by decide) rfl ?_
            exact ev_ret f_X12_riverPart rfl rfl rfl ⟨_, _, _, rfl, hI, hX, ⟨_, rfl, (by decide : (0:Int) ≤ (0:Int32).toInt), (Int.le_trans (by decide : (0:Int32).toInt ≤ (0:Int)) (by decide : (0:Int) ≤ 1)), (show (gi 69 14).toInt ≤ (g121 69 14).toInt ∧ (0 = 1 → (g121 69 12).toInt ≠ 0 → (gi 69 14).toInt < (g121 69 14).toInt) ∧ (1 ≤ (gi 70 1404).toInt → 1 ≤ (g121 70 1404).toInt) from (by have ff122 : (g121 69 14).toInt = (gi56 69 14).toInt := congrArg Int32.toInt ((by rw [e121]; exact x_up2_off (Or.inr (by decide)) : g121 69 14 = g119 69 14).trans ((by rw [e119]; exact x_up2_off (Or.inr (by decide)) : g119 69 14 = gi56 69 14).trans rfl)); have ff123 : (g121 69 12).toInt = (gi56 69 12).toInt := congrArg Int32.toInt ((by rw [e121]; exact x_up2_off (Or.inr (by decide)) : g121 69 12 = g119 69 12).trans ((by rw [e119]; exact x_up2_off (Or.inr (by decide)) : g119 69 12 = gi56 69 12).trans rfl)); have ff124 : (g121 70 1404).toInt = (gi 70 1404).toInt := congrArg Int32.toInt ((by rw [e121]; exact x_up2_off (Or.inr (by decide)) : g121 70 1404 = g119 70 1404).trans ((by rw [e119]; exact x_up2_off (Or.inr (by decide)) : g119 70 1404 = gi56 70 1404).trans ((hC56.1 70 1404 rfl).1.trans ((by rw [e55]; exact x_up2_off (Or.inr (by decide)) : g55 70 1404 = gi4 70 1404).trans ((hC4.1 70 1404 rfl).1.trans rfl))))); omega))⟩⟩
        · have r125 : (gi56 69 18).toInt ≠ 0 := fun e => h106 (Int32.toInt_inj.mp (e.trans (by decide : (0:Int) = (0 : Int32).toInt)))
          refine ev_ic f_X12_fails (nx := 33) (v := 0) rfl (by decide) rfl ?_
          refine ev_retK1 f_X12_fails rfl rfl rfl ?_
          refine ev_retK1 f_X12_number rfl rfl rfl ?_
          refine ev_retK1 f_X12_once rfl rfl rfl ?_
          refine ev_loc f_X12_riverPart (nx := 78) (lo' := [(1, .int 0), (2, .int w4), (0, .ref 69)]) rfl rfl rfl rfl ?_
          refine ev_jmp f_X12_riverPart (nx := 87) rfl rfl rfl ?_
          refine ev_loc f_X12_riverPart (nx := 88) rfl rfl rfl rfl ?_
          refine ev_t f_X12_riverPart (t1 := 104) (t2 := 91) rfl rfl rfl (by decide) ?_
          refine ev_ic f_X12_riverPart (nx := 105) (v := 0) rfl (by decide) rfl ?_
          exact ev_ret f_X12_riverPart rfl rfl rfl ⟨_, _, _, rfl, hI, hX, ⟨_, rfl, (by decide : (0:Int) ≤ (0:Int32).toInt), (Int.le_trans (by decide : (0:Int32).toInt ≤ (0:Int)) (by decide : (0:Int) ≤ 1)), (show (gi 69 14).toInt ≤ (gi56 69 14).toInt ∧ (0 = 1 → (gi56 69 12).toInt ≠ 0 → (gi 69 14).toInt < (gi56 69 14).toInt) ∧ (1 ≤ (gi 70 1404).toInt → 1 ≤ (gi56 70 1404).toInt) from (by have ff126 : (gi56 70 1404).toInt = (gi 70 1404).toInt := congrArg Int32.toInt ((hC56.1 70 1404 rfl).1.trans ((by rw [e55]; exact x_up2_off (Or.inr (by decide)) : g55 70 1404 = gi4 70 1404).trans ((hC4.1 70 1404 rfl).1.trans rfl))); omega))⟩⟩
  · refine ev_swt f_X12_riverPart (nx := 72) (c := 2) rfl h5 rfl ?_
    refine ev_loc f_X12_riverPart (nx := 73) rfl rfl rfl rfl ?_
    refine ev_loc f_X12_riverPart (nx := 74) rfl rfl rfl rfl ?_
    refine ev_inV2 f_X12_riverPart (nx := 77) (lo2 := [(0, .ref 69), (1, .int w4)]) rfl rfl rfl rfl f_X12_once (hI.wf.s rfl) rfl rfl rfl rfl rfl ?_
    refine ev_loc f_X12_once (nx := 1) rfl rfl rfl rfl ?_
    refine ev_getI f_X12_once (nx := 4) rfl (hI.wf.s rfl) rfl rfl rfl ?_
    refine ev_loc f_X12_once (nx := 5) rfl rfl rfl rfl ?_
    refine ev_anyI f_X12_once (nx := 6) rfl rfl rfl rfl (fun z127 => ?_)
    refine ev_ic f_X12_once (nx := 7) (v := 1) rfl (by decide) rfl ?_
    refine ev_andE f_X12_once (nx := 8) (c := 1) rfl (by decide) (by decide) rfl (fun z128 e128 l128 u128 => ?_)
    refine ev_ic f_X12_once (nx := 9) (v := 1) rfl (by decide) rfl ?_
    refine ev_if f_X12_once (t1 := 12) (t2 := 18) rfl rfl rfl (fun h129 => ?_) (fun h129 => ?_)
    · have l130 : 1 ≤ z128.toInt := t_eql h129 (by decide : (1:Int) ≤ (1:Int32).toInt)
      refine ev_loc f_X12_once (nx := 13) rfl rfl rfl rfl ?_
      refine ev_ic f_X12_once (nx := 14) (v := 5) rfl (by decide) rfl ?_
      refine ev_inV2 f_X12_once (nx := 17) (lo2 := [(0, .ref 69), (1, .int 5)]) rfl rfl rfl rfl f_X12_fails (hI.wf.s rfl) rfl rfl rfl rfl rfl ?_
      refine ev_loc f_X12_fails (nx := 1) rfl rfl rfl rfl ?_
      refine ev_getI f_X12_fails (nx := 4) rfl (hI.wf.s rfl) rfl rfl rfl ?_
      refine ev_if f_X12_fails (t1 := 7) (t2 := 32) rfl rfl rfl (fun h131 => ?_) (fun h131 => ?_)
      · have u132 : (gi4 69 18).toInt ≤ 0 := t_equ h131 (by decide : (0:Int32).toInt ≤ (0:Int))
        have l133 : 0 ≤ (gi4 69 18).toInt := t_eql h131 (by decide : (0:Int) ≤ (0:Int32).toInt)
        refine ev_loc f_X12_fails (nx := 8) rfl rfl rfl rfl ?_
        refine ev_loc f_X12_fails (nx := 9) rfl rfl rfl rfl ?_
        refine ev_gvI f_X12_fails (nx := 12) (w := (gi 69 12)) rfl (hI.wf.s rfl) rfl rfl ((hC4.1 69 12 rfl).1.trans rfl) rfl ?_
        refine ev_ic f_X12_fails (nx := 13) (v := 1) rfl (by decide) rfl ?_
        refine ev_if f_X12_fails (t1 := 16) (t2 := 20) rfl rfl rfl (fun h134 => ?_) (fun h134 => ?_)
        · have u135 : (gi 69 12).toInt ≤ 1 := t_equ h134 (by decide : (1:Int32).toInt ≤ (1:Int))
          have l136 : 1 ≤ (gi 69 12).toInt := t_eql h134 (by decide : (1:Int) ≤ (1:Int32).toInt)
          refine ev_ic f_X12_fails (nx := 17) (v := 1) rfl (by decide) rfl ?_
          refine ev_jmp f_X12_fails (nx := 21) rfl rfl rfl ?_
          refine ev_putIT f_X12_fails (nx := 24) rfl (hI.wf.s rfl) rfl rfl rfl (hI.put0 (hI.wf.s rfl) rfl rfl) (hX.upI rfl) (fun g137 e137 hI hX => ?_)
          refine ev_loc f_X12_fails (nx := 25) rfl rfl rfl rfl ?_
          refine ev_loc f_X12_fails (nx := 26) rfl rfl rfl rfl ?_
          refine ev_getI f_X12_fails (nx := 29) rfl (hI.wf.s rfl) rfl rfl rfl ?_
          obtain ⟨l138, u138⟩ := hI.b (hI.wf.s (k := 69) rfl) (t_bdK rfl : t_bd 11 13 = some (0, 900))
          refine ev_putIT f_X12_fails (nx := 32) rfl (hI.wf.s rfl) rfl rfl rfl (hI.put0 (hI.wf.s rfl) rfl rfl) (hX.upI rfl) (fun g139 e139 hI hX => ?_)
          refine ev_ic f_X12_fails (nx := 33) (v := 0) rfl (by decide) rfl ?_
          refine ev_retK1 f_X12_fails rfl rfl rfl ?_
          refine ev_retK1 f_X12_once rfl rfl rfl ?_
          refine ev_loc f_X12_riverPart (nx := 78) (lo' := [(1, .int 0), (2, .int w4), (0, .ref 69)]) rfl rfl rfl rfl ?_
          refine ev_jmp f_X12_riverPart (nx := 87) rfl rfl rfl ?_
          refine ev_loc f_X12_riverPart (nx := 88) rfl rfl rfl rfl ?_
          refine ev_t f_X12_riverPart (t1 := 104) (t2 := 91) rfl rfl rfl (by decide) ?_
          refine ev_ic f_X12_riverPart (nx := 105) (v := 0) rfl (by decide) rfl ?_
          exact ev_ret f_X12_riverPart rfl rfl rfl ⟨_, _, _, rfl, hI, hX, ⟨_, rfl, (by decide : (0:Int) ≤ (0:Int32).toInt), (Int.le_trans (by decide : (0:Int32).toInt ≤ (0:Int)) (by decide : (0:Int) ≤ 1)), (show (gi 69 14).toInt ≤ (g139 69 14).toInt ∧ (0 = 1 → (g139 69 12).toInt ≠ 0 → (gi 69 14).toInt < (g139 69 14).toInt) ∧ (1 ≤ (gi 70 1404).toInt → 1 ≤ (g139 70 1404).toInt) from (by have ff140 : (g139 69 14).toInt = (gi 69 14).toInt := congrArg Int32.toInt ((by rw [e139]; exact x_up2_off (Or.inr (by decide)) : g139 69 14 = g137 69 14).trans ((by rw [e137]; exact x_up2_off (Or.inr (by decide)) : g137 69 14 = gi4 69 14).trans ((hC4.1 69 14 rfl).1.trans rfl))); have ff141 : (g139 69 12).toInt = (gi 69 12).toInt := congrArg Int32.toInt ((by rw [e139]; exact x_up2_off (Or.inr (by decide)) : g139 69 12 = g137 69 12).trans ((by rw [e137]; exact x_up2_off (Or.inr (by decide)) : g137 69 12 = gi4 69 12).trans ((hC4.1 69 12 rfl).1.trans rfl))); have ff142 : (g139 70 1404).toInt = (gi 70 1404).toInt := congrArg Int32.toInt ((by rw [e139]; exact x_up2_off (Or.inr (by decide)) : g139 70 1404 = g137 70 1404).trans ((by rw [e137]; exact x_up2_off (Or.inr (by decide)) : g137 70 1404 = gi4 70 1404).trans ((hC4.1 70 1404 rfl).1.trans rfl))); omega))⟩⟩
        · have r143 : (gi 69 12).toInt ≠ 1 := fun e => h134 (Int32.toInt_inj.mp (e.trans (by decide : (1:Int) = (1 : Int32).toInt)))
          refine ev_loc f_X12_fails (nx := 21) rfl rfl rfl rfl ?_
          refine ev_putIT f_X12_fails (nx := 24) rfl (hI.wf.s rfl) rfl rfl rfl (hI.put0 (hI.wf.s rfl) rfl rfl) (hX.upI rfl) (fun g144 e144 hI hX => ?_)
          refine ev_loc f_X12_fails (nx := 25) rfl rfl rfl rfl ?_
          refine ev_loc f_X12_fails (nx := 26) rfl rfl rfl rfl ?_
          refine ev_getI f_X12_fails (nx := 29) rfl (hI.wf.s rfl) rfl rfl rfl ?_
          obtain ⟨l145, u145⟩ := hI.b (hI.wf.s (k := 69) rfl) (t_bdK rfl : t_bd 11 13 = some (0, 900))
          refine ev_putIT f_X12_fails (nx := 32) rfl (hI.wf.s rfl) rfl rfl rfl (hI.put0 (hI.wf.s rfl) rfl rfl) (hX.upI rfl) (fun g146 e146 hI hX => ?_)
          refine ev_ic f_X12_fails (nx := 33) (v := 0) rfl (by decide) rfl ?_
          refine ev_retK1 f_X12_fails rfl rfl rfl ?_
          refine ev_retK1 f_X12_once rfl rfl rfl ?_
          refine ev_loc f_X12_riverPart (nx := 78) (lo' := [(1, .int 0), (2, .int w4), (0, .ref 69)]) rfl rfl rfl rfl ?_
          refine ev_jmp f_X12_riverPart (nx := 87) rfl rfl rfl ?_
          refine ev_loc f_X12_riverPart (nx := 88) rfl rfl rfl rfl ?_
          refine ev_t f_X12_riverPart (t1 := 104) (t2 := 91) rfl rfl rfl (by decide) ?_
          refine ev_ic f_X12_riverPart (nx := 105) (v := 0) rfl (by decide) rfl ?_
          exact ev_ret f_X12_riverPart rfl rfl rfl ⟨_, _, _, rfl, hI, hX, ⟨_, rfl, (by decide : (0:Int) ≤ (0:Int32).toInt), (Int.le_trans (by decide : (0:Int32).toInt ≤ (0:Int)) (by decide : (0:Int) ≤ 1)), (show (gi 69 14).toInt ≤ (g146 69 14).toInt ∧ (0 = 1 → (g146 69 12).toInt ≠ 0 → (gi 69 14).toInt < (g146 69 14).toInt) ∧ (1 ≤ (gi 70 1404).toInt → 1 ≤ (g146 70 1404).toInt) from (by have ff147 : (g146 69 14).toInt = (gi 69 14).toInt := congrArg Int32.toInt ((by rw [e146]; exact x_up2_off (Or.inr (by decide)) : g146 69 14 = g144 69 14).trans ((by rw [e144]; exact x_up2_off (Or.inr (by decide)) : g144 69 14 = gi4 69 14).trans ((hC4.1 69 14 rfl).1.trans rfl))); have ff148 : (g146 69 12).toInt = (gi 69 12).toInt := congrArg Int32.toInt ((by rw [e146]; exact x_up2_off (Or.inr (by decide)) : g146 69 12 = g144 69 12).trans ((by rw [e144]; exact x_up2_off (Or.inr (by decide)) : g144 69 12 = gi4 69 12).trans ((hC4.1 69 12 rfl).1.trans rfl))); have ff149 : (g146 70 1404).toInt = (gi 70 1404).toInt := congrArg Int32.toInt ((by rw [e146]; exact x_up2_off (Or.inr (by decide)) : g146 70 1404 = g144 70 1404).trans ((by rw [e144]; exact x_up2_off (Or.inr (by decide)) : g144 70 1404 = gi4 70 1404).trans ((hC4.1 70 1404 rfl).1.trans rfl))); omega))⟩⟩
      · have r150 : (gi4 69 18).toInt ≠ 0 := fun e => h131 (Int32.toInt_inj.mp (e.trans (by decide : (0:Int) = (0 : Int32).toInt)))
        refine ev_ic f_X12_fails (nx := 33) (v := 0) rfl (by decide) rfl ?_
        refine ev_retK1 f_X12_fails rfl rfl rfl ?_
        refine ev_retK1 f_X12_once rfl rfl rfl ?_
        refine ev_loc f_X12_riverPart (nx := 78) (lo' := [(1, .int 0), (2, .int w4), (0, .ref 69)]) rfl rfl rfl rfl ?_
        refine ev_jmp f_X12_riverPart (nx := 87) rfl rfl rfl ?_
        refine ev_loc f_X12_riverPart (nx := 88) rfl rfl rfl rfl ?_
        refine ev_t f_X12_riverPart (t1 := 104) (t2 := 91) rfl rfl rfl (by decide) ?_
        refine ev_ic f_X12_riverPart (nx := 105) (v := 0) rfl (by decide) rfl ?_
        exact ev_ret f_X12_riverPart rfl rfl rfl ⟨_, _, _, rfl, hI, hX, ⟨_, rfl, (by decide : (0:Int) ≤ (0:Int32).toInt), (Int.le_trans (by decide : (0:Int32).toInt ≤ (0:Int)) (by decide : (0:Int) ≤ 1)), (show (gi 69 14).toInt ≤ (gi4 69 14).toInt ∧ (0 = 1 → (gi4 69 12).toInt ≠ 0 → (gi 69 14).toInt < (gi4 69 14).toInt) ∧ (1 ≤ (gi 70 1404).toInt → 1 ≤ (gi4 70 1404).toInt) from (by have ff151 : (gi4 69 14).toInt = (gi 69 14).toInt := congrArg Int32.toInt ((hC4.1 69 14 rfl).1.trans rfl); have ff152 : (gi4 69 12).toInt = (gi 69 12).toInt := congrArg Int32.toInt ((hC4.1 69 12 rfl).1.trans rfl); have ff153 : (gi4 70 1404).toInt = (gi 70 1404).toInt := congrArg Int32.toInt ((hC4.1 70 1404 rfl).1.trans rfl); omega))⟩⟩
    · have r154 : z128.toInt ≠ 1 := fun e => h129 (Int32.toInt_inj.mp (e.trans (by decide : (1:Int) = (1 : Int32).toInt)))
      have u155 : z128.toInt ≤ 0 := t_neu h129 u128 rfl rfl
      refine ev_loc f_X12_once (nx := 19) rfl rfl rfl rfl ?_
      refine ev_alu f_X12_once (nx := 20) rfl rfl rfl rfl ?_
      refine ev_gvI f_X12_once (nx := 23) (w := (gi4 69 20)) rfl (hI.wf.s rfl) rfl rfl rfl rfl ?_
      refine ev_ic f_X12_once (nx := 24) (v := 1) rfl (by decide) rfl ?_
      refine ev_loc f_X12_once (nx := 25) rfl rfl rfl rfl ?_
      refine ev_shl1 f_X12_once (nx := 26) rfl (Int.le_of_eq h5.symm) (Int.le_of_eq h5) (by decide) (by decide) rfl (fun z156 l156 u156 => ?_)
      refine ev_anyI f_X12_once (nx := 27) rfl rfl rfl rfl (fun z157 => ?_)
      refine ev_putIT f_X12_once (nx := 30) rfl (hI.wf.s rfl) rfl rfl rfl (hI.put0 (hI.wf.s rfl) rfl rfl) (hX.upI rfl) (fun g158 e158 hI hX => ?_)
      refine ev_loc f_X12_once (nx := 31) rfl rfl rfl rfl ?_
      refine ev_qN f_X12_once (nx := 34) (r := []) rfl rfl rfl rfl rfl rfl rfl (c_m_ahead hI ) rfl hX rfl (fun gi159 gl159 gr159 hI hX hC159 q159 => ?_)
      have ff160 : (g158 69 14).toInt = (gi 69 14).toInt := congrArg Int32.toInt ((by rw [e158]; exact x_up2_off (Or.inr (by decide)) : g158 69 14 = gi4 69 14).trans ((hC4.1 69 14 rfl).1.trans rfl))
      have q159 : (g158 69 14).toInt ≤ (gi159 69 14).toInt ∧ ((gi159 69 12).toInt ≠ 0 → (g158 69 14).toInt < (gi159 69 14).toInt) := q159
      obtain ⟨l161, u161⟩ := hI.b (hI.wf.s (k := 69) rfl) (t_bdK rfl : t_bd 11 12 = some (0, 4))
      obtain ⟨l162, u162⟩ := hI.b (hI.wf.s (k := 69) rfl) (t_bdK rfl : t_bd 11 14 = some (0, 900))
      refine ev_loc f_X12_once (nx := 35) rfl rfl rfl rfl ?_
      refine ev_ic f_X12_once (nx := 36) (v := 1) rfl (by decide) rfl ?_
      refine ev_f f_X12_once (t1 := 39) (t2 := 50) rfl rfl rfl (t_neT' (by decide : (1:Int32).toInt ≤ (1:Int)) (Int.le_of_eq h5.symm) (by decide)) ?_
      refine ev_loc f_X12_once (nx := 51) rfl rfl rfl rfl ?_
      refine ev_ic f_X12_once (nx := 52) (v := 3) rfl (by decide) rfl ?_
      refine ev_f f_X12_once (t1 := 55) (t2 := 66) rfl rfl rfl (t_neT (Int.le_of_eq h5) (by decide : (3:Int) ≤ (3:Int32).toInt) (by decide)) ?_
      refine ev_loc f_X12_once (nx := 67) rfl rfl rfl rfl ?_
      refine ev_sp f_X12_once (nx := 70) (v := 1405) rfl (by decide) rfl ?_
      refine ev_ic f_X12_once (nx := 71) (v := 0) rfl (by decide) rfl ?_
      refine ev_bp f_X12_once (nx := 73) (v := 20) rfl (by decide) rfl ?_
      refine ev_inV4 f_X12_once (nx := 76) (lo2 := [(0, .ref 69), (1, .int 1405), (2, .int 0), (3, .int 20)]) rfl rfl rfl rfl f_X12_number (hI.wf.s rfl) rfl rfl rfl rfl rfl ?_
      refine ev_loc f_X12_number (nx := 1) rfl rfl rfl rfl ?_
      refine ev_gvI f_X12_number (nx := 4) (w := (gi159 69 12)) rfl (hI.wf.s rfl) rfl rfl rfl rfl ?_
      refine ev_ic f_X12_number (nx := 5) (v := 3) rfl (by decide) rfl ?_
      refine ev_if f_X12_number (t1 := 14) (t2 := 8) rfl rfl rfl (fun h163 => ?_) (fun h163 => ?_)
      · have u164 : (gi159 69 12).toInt ≤ 3 := t_equ h163 (by decide : (3:Int32).toInt ≤ (3:Int))
        have l165 : 3 ≤ (gi159 69 12).toInt := t_eql h163 (by decide : (3:Int) ≤ (3:Int32).toInt)
        refine ev_loc f_X12_number (nx := 15) rfl rfl rfl rfl ?_
        refine ev_getI f_X12_number (nx := 18) rfl (hI.wf.s rfl) rfl rfl rfl ?_
        refine ev_loc f_X12_number (nx := 19) rfl rfl rfl rfl ?_
        refine ev_if f_X12_number (t1 := 30) (t2 := 22) rfl rfl rfl (fun h166 => ?_) (fun h166 => ?_)
        · have u167 : (gi159 69 15).toInt ≤ (-1) := t_ltu h166 (by decide : (0:Int32).toInt ≤ (0:Int)) rfl
          refine ev_loc f_X12_number (nx := 31) rfl rfl rfl rfl ?_
          refine ev_ic f_X12_number (nx := 32) (v := 4) rfl (by decide) rfl ?_
          refine ev_inV2 f_X12_number (nx := 35) (lo2 := [(0, .ref 69), (1, .int 4)]) rfl rfl rfl rfl f_X12_fails (hI.wf.s rfl) rfl rfl rfl rfl rfl ?_
          refine ev_loc f_X12_fails (nx := 1) rfl rfl rfl rfl ?_
          refine ev_getI f_X12_fails (nx := 4) rfl (hI.wf.s rfl) rfl rfl rfl ?_
          refine ev_if f_X12_fails (t1 := 7) (t2 := 32) rfl rfl rfl (fun h168 => ?_) (fun h168 => ?_)
          · have u169 : (gi159 69 18).toInt ≤ 0 := t_equ h168 (by decide : (0:Int32).toInt ≤ (0:Int))
            have l170 : 0 ≤ (gi159 69 18).toInt := t_eql h168 (by decide : (0:Int) ≤ (0:Int32).toInt)
            refine ev_loc f_X12_fails (nx := 8) rfl rfl rfl rfl ?_
            refine ev_loc f_X12_fails (nx := 9) rfl rfl rfl rfl ?_
            refine ev_gvI f_X12_fails (nx := 12) (w := (gi159 69 12)) rfl (hI.wf.s rfl) rfl rfl rfl rfl ?_
            refine ev_ic f_X12_fails (nx := 13) (v := 1) rfl (by decide) rfl ?_
            refine ev_f f_X12_fails (t1 := 16) (t2 := 20) rfl rfl rfl (t_neT' (by decide : (1:Int32).toInt ≤ (1:Int)) l165 (by decide)) ?_
            refine ev_loc f_X12_fails (nx := 21) rfl rfl rfl rfl ?_
            refine ev_putIT f_X12_fails (nx := 24) rfl (hI.wf.s rfl) rfl rfl rfl (hI.put0 (hI.wf.s rfl) rfl rfl) (hX.upI rfl) (fun g171 e171 hI hX => ?_)
            refine ev_loc f_X12_fails (nx := 25) rfl rfl rfl rfl ?_
            refine ev_loc f_X12_fails (nx := 26) rfl rfl rfl rfl ?_
            refine ev_getI f_X12_fails (nx := 29) rfl (hI.wf.s rfl) rfl rfl rfl ?_
            obtain ⟨l172, u172⟩ := hI.b (hI.wf.s (k := 69) rfl) (t_bdK rfl : t_bd 11 13 = some (0, 900))
            refine ev_putIT f_X12_fails (nx := 32) rfl (hI.wf.s rfl) rfl rfl rfl (hI.put0 (hI.wf.s rfl) rfl rfl) (hX.upI rfl) (fun g173 e173 hI hX => ?_)
            refine ev_ic f_X12_fails (nx := 33) (v := 0) rfl (by decide) rfl ?_
            refine ev_retK1 f_X12_fails rfl rfl rfl ?_
            refine ev_retK1 f_X12_number rfl rfl rfl ?_
            refine ev_t f_X12_once (t1 := 108) (t2 := 79) rfl rfl rfl (by decide) ?_
            refine ev_ic f_X12_once (nx := 109) (v := 0) rfl (by decide) rfl ?_
            refine ev_retK1 f_X12_once rfl rfl rfl ?_
            refine ev_loc f_X12_riverPart (nx := 78) (lo' := [(1, .int 0), (2, .int w4), (0, .ref 69)]) rfl rfl rfl rfl ?_
            refine ev_jmp f_X12_riverPart (nx := 87) rfl rfl rfl ?_
            refine ev_loc f_X12_riverPart (nx := 88) rfl rfl rfl rfl ?_
            refine ev_t f_X12_riverPart (t1 := 104) (t2 := 91) rfl rfl rfl (by decide) ?_
            refine ev_ic f_X12_riverPart (nx := 105) (v := 0) rfl (by decide) rfl ?_
            exact ev_ret f_X12_riverPart rfl rfl rfl ⟨_, _, _, rfl, hI, hX, ⟨_, rfl, (by decide : (0:Int) ≤ (0:Int32).toInt), (Int.le_trans (by decide : (0:Int32).toInt ≤ (0:Int)) (by decide : (0:Int) ≤ 1)), (show (gi 69 14).toInt ≤ (g173 69 14).toInt ∧ (0 = 1 → (g173 69 12).toInt ≠ 0 → (gi 69 14).toInt < (g173 69 14).toInt) ∧ (1 ≤ (gi 70 1404).toInt → 1 ≤ (g173 70 1404).toInt) from (by have ff174 : (g173 69 14).toInt = (gi159 69 14).toInt := congrArg Int32.toInt ((by rw [e173]; exact x_up2_off (Or.inr (by decide)) : g173 69 14 = g171 69 14).trans ((by rw [e171]; exact x_up2_off (Or.inr (by decide)) : g171 69 14 = gi159 69 14).trans rfl)); have ff175 : (g173 69 12).toInt = (gi159 69 12).toInt := congrArg Int32.toInt ((by rw [e173]; exact x_up2_off (Or.inr (by decide)) : g173 69 12 = g171 69 12).trans ((by rw [e171]; exact x_up2_off (Or.inr (by decide)) : g171 69 12 = gi159 69 12).trans rfl)); have ff176 : (g173 70 1404).toInt = (gi 70 1404).toInt := congrArg Int32.toInt ((by rw [e173]; exact x_up2_off (Or.inr (by decide)) : g173 70 1404 = g171 70 1404).trans ((by rw [e171]; exact x_up2_off (Or.inr (by decide)) : g171 70 1404 = gi159 70 1404).trans ((hC159.1 70 1404 rfl).1.trans ((by rw [e158]; exact x_up2_off (Or.inr (by decide)) : g158 70 1404 = gi4 70 1404).trans ((hC4.1 70 1404 rfl).1.trans rfl))))); omega))⟩⟩
          · have r177 : (gi159 69 18).toInt ≠ 0 := fun e => h168 (Int32.toInt_inj.mp (e.trans (by decide : (0:Int) = (0 : Int32).toInt)))
            refine ev_ic f_X12_fails (nx := 33) (v := 0) rfl (by decide) rfl ?_
            refine ev_retK1 f_X12_fails rfl rfl rfl ?_
            refine ev_retK1 f_X12_number rfl rfl rfl ?_
            refine ev_t f_X12_once (t1 := 108) (t2 := 79) rfl rfl rfl (by decide) ?_
            refine ev_ic f_X12_once (nx := 109) (v := 0) rfl (by decide) rfl ?_
            refine ev_retK1 f_X12_once rfl rfl rfl ?_
            refine ev_loc f_X12_riverPart (nx := 78) (lo' := [(1, .int 0), (2, .int w4), (0, .ref 69)]) rfl rfl rfl rfl ?_
            refine ev_jmp f_X12_riverPart (nx := 87) rfl rfl rfl ?_
            refine ev_loc f_X12_riverPart (nx := 88) rfl rfl rfl rfl ?_
            refine ev_t f_X12_riverPart (t1 := 104) (t2 := 91) rfl rfl rfl (by decide) ?_
            refine ev_ic f_X12_riverPart (nx := 105) (v := 0) rfl (by decide) rfl ?_
            exact ev_ret f_X12_riverPart rfl rfl rfl ⟨_, _, _, rfl, hI, hX, ⟨_, rfl, (by decide : (0:Int) ≤ (0:Int32).toInt), (Int.le_trans (by decide : (0:Int32).toInt ≤ (0:Int)) (by decide : (0:Int) ≤ 1)), (show (gi 69 14).toInt ≤ (gi159 69 14).toInt ∧ (0 = 1 → (gi159 69 12).toInt ≠ 0 → (gi 69 14).toInt < (gi159 69 14).toInt) ∧ (1 ≤ (gi 70 1404).toInt → 1 ≤ (gi159 70 1404).toInt) from (by have ff178 : (gi159 70 1404).toInt = (gi 70 1404).toInt := congrArg Int32.toInt ((hC159.1 70 1404 rfl).1.trans ((by rw [e158]; exact x_up2_off (Or.inr (by decide)) : g158 70 1404 = gi4 70 1404).trans ((hC4.1 70 1404 rfl).1.trans rfl))); omega))⟩⟩
        · have l179 : 0 ≤ (gi159 69 15).toInt := t_lel (t_nlt h166) (by decide : (0:Int) ≤ (0:Int32).toInt)
          refine ev_loc f_X12_number (nx := 23) rfl rfl rfl rfl ?_
          refine ev_gvI f_X12_number (nx := 26) (w := (gi159 69 15)) rfl (hI.wf.s rfl) rfl rfl rfl rfl ?_
          refine ev_loc f_X12_number (nx := 27) rfl rfl rfl rfl ?_
          refine ev_if f_X12_number (t1 := 36) (t2 := 30) rfl rfl rfl (fun h180 => ?_) (fun h180 => ?_)
          · have u181 : (gi159 69 15).toInt ≤ 20 := t_leu h180 (by decide : (20:Int32).toInt ≤ (20:Int))
            refine ev_loc f_X12_number (nx := 37) rfl rfl rfl rfl ?_
            refine ev_getR f_X12_number (nx := 40) rfl (hI.wf.s rfl) rfl rfl (hI.wf.r rfl) rfl rfl ?_
            refine ev_loc f_X12_number (nx := 41) rfl rfl rfl rfl ?_
            refine ev_loc f_X12_number (nx := 42) rfl rfl rfl rfl ?_
            refine ev_gvI f_X12_number (nx := 45) (w := (gi159 69 15)) rfl (hI.wf.s rfl) rfl rfl rfl rfl ?_
            refine ev_iastT f_X12_number (nx := 46) rfl (hI.wf.s rfl) (by decide : (1405:Int) ≤ (1405:Int32).toInt) (by decide) (by decide : (1405:Int32).toInt ≤ (1405:Int)) (by decide) rfl (hI.astL (hI.wf.s rfl) (by decide +kernel : t_abw 70 1405 1405 0 20 = true) (t_cl1 (by decide : (1405:Int) ≤ (1405:Int32).toInt) (by decide)) (t_cl2 (by decide : (1405:Int) ≤ (1405:Int32).toInt) (by decide : (1405:Int32).toInt ≤ (1405:Int)) (by decide) (by decide)) l179 u181 rfl) (hX.upI (t_inR (p := 1405) (m := 1405) rfl (by decide : (1405:Int) ≤ (1405:Int32).toInt) (by decide) (by decide : (1405:Int32).toInt ≤ (1405:Int)) (by decide) (by decide))) (fun g182 e182 hI hX => ?_)
            refine ev_loc f_X12_number (nx := 47) rfl rfl rfl rfl ?_
            refine ev_qN f_X12_number (nx := 50) (r := []) rfl rfl rfl rfl rfl rfl rfl (c_m_ahead hI ) rfl hX rfl (fun gi183 gl183 gr183 hI hX hC183 q183 => ?_)
            have ff184 : (g182 69 14).toInt = (gi159 69 14).toInt := congrArg Int32.toInt ((by rw [e182]; exact x_up2_off (Or.inl (by decide)) : g182 69 14 = gi159 69 14).trans rfl)
            have q183 : (g182 69 14).toInt ≤ (gi183 69 14).toInt ∧ ((gi183 69 12).toInt ≠ 0 → (g182 69 14).toInt < (gi183 69 14).toInt) := q183
            obtain ⟨l185, u185⟩ := hI.b (hI.wf.s (k := 69) rfl) (t_bdK rfl : t_bd 11 12 = some (0, 4))
            obtain ⟨l186, u186⟩ := hI.b (hI.wf.s (k := 69) rfl) (t_bdK rfl : t_bd 11 14 = some (0, 900))
            refine ev_ic f_X12_number (nx := 51) (v := 1) rfl (by decide) rfl ?_
            refine ev_retK1 f_X12_number rfl rfl rfl ?_
            refine ev_f f_X12_once (t1 := 108) (t2 := 79) rfl rfl rfl (by decide) ?_
            refine ev_loc f_X12_once (nx := 80) rfl rfl rfl rfl ?_
            refine ev_heap f_X12_once (nx := 82) rfl rfl rfl rfl ?_
            refine ev_bp f_X12_once (nx := 84) (v := 7) rfl (by decide) rfl ?_
            refine ev_qI f_X12_once (nx := 87) (r := []) rfl rfl rfl rfl rfl rfl rfl (c_m_wantWord hI (7)) rfl hX rfl (fun w187 gi187 gl187 gr187 l187 u187 hI hX hC187 q187 => ?_)
            have q187 : (gi183 69 14).toInt ≤ (gi187 69 14).toInt ∧ (w187.toInt = 1 → (gi187 69 12).toInt ≠ 0 → (gi183 69 14).toInt < (gi187 69 14).toInt) := q187
            obtain ⟨l188, u188⟩ := hI.b (hI.wf.s (k := 69) rfl) (t_bdK rfl : t_bd 11 12 = some (0, 4))
            obtain ⟨l189, u189⟩ := hI.b (hI.wf.s (k := 69) rfl) (t_bdK rfl : t_bd 11 14 = some (0, 900))
            refine ev_if f_X12_once (t1 := 108) (t2 := 90) rfl rfl rfl (fun h190 => ?_) (fun h190 => ?_)
            · have u191 : w187.toInt ≤ 0 := t_equ h190 (by decide : (0:Int32).toInt ≤ (0:Int))
              refine ev_ic f_X12_once (nx := 109) (v := 0) rfl (by decide) rfl ?_
              refine ev_retK1 f_X12_once rfl rfl rfl ?_
              refine ev_loc f_X12_riverPart (nx := 78) (lo' := [(1, .int 0), (2, .int w4), (0, .ref 69)]) rfl rfl rfl rfl ?_
              refine ev_jmp f_X12_riverPart (nx := 87) rfl rfl rfl ?_
              refine ev_loc f_X12_riverPart (nx := 88) rfl rfl rfl rfl ?_
              refine ev_t f_X12_riverPart (t1 := 104) (t2 := 91) rfl rfl rfl (by decide) ?_
              refine ev_ic f_X12_riverPart (nx := 105) (v := 0) rfl (by decide) rfl ?_
              exact ev_ret f_X12_riverPart rfl rfl rfl ⟨_, _, _, rfl, hI, hX, ⟨_, rfl, (by decide : (0:Int) ≤ (0:Int32).toInt), (Int.le_trans (by decide : (0:Int32).toInt ≤ (0:Int)) (by decide : (0:Int) ≤ 1)), (show (gi 69 14).toInt ≤ (gi187 69 14).toInt ∧ (0 = 1 → (gi187 69 12).toInt ≠ 0 → (gi 69 14).toInt < (gi187 69 14).toInt) ∧ (1 ≤ (gi 70 1404).toInt → 1 ≤ (gi187 70 1404).toInt) from (by have ff192 : (gi187 70 1404).toInt = (gi 70 1404).toInt := congrArg Int32.toInt ((hC187.1 70 1404 rfl).1.trans ((hC183.1 70 1404 rfl).1.trans ((by rw [e182]; exact x_up2_off (Or.inr (by decide)) : g182 70 1404 = gi159 70 1404).trans ((hC159.1 70 1404 rfl).1.trans ((by rw [e158]; exact x_up2_off (Or.inr (by decide)) : g158 70 1404 = gi4 70 1404).trans ((hC4.1 70 1404 rfl).1.trans rfl)))))); omega))⟩⟩
            · have r193 : w187.toInt ≠ 0 := fun e => h190 (Int32.toInt_inj.mp (e.trans (by decide : (0:Int) = (0 : Int32).toInt)))
              have l194 : 1 ≤ w187.toInt := t_nel h190 l187 rfl rfl
              refine ev_loc f_X12_once (nx := 91) rfl rfl rfl rfl ?_
              refine ev_sp f_X12_once (nx := 94) (v := 1406) rfl (by decide) rfl ?_
              refine ev_ic f_X12_once (nx := 95) (v := 0) rfl (by decide) rfl ?_
              refine ev_sp f_X12_once (nx := 98) (v := 200) rfl (by decide) rfl ?_
              refine ev_inV4 f_X12_once (nx := 101) (lo2 := [(0, .ref 69), (1, .int 1406), (2, .int 0), (3, .int 200)]) rfl rfl rfl rfl f_X12_number (hI.wf.s rfl) rfl rfl rfl rfl rfl ?_
              refine ev_loc f_X12_number (nx := 1) rfl rfl rfl rfl ?_
              refine ev_gvI f_X12_number (nx := 4) (w := (gi187 69 12)) rfl (hI.wf.s rfl) rfl rfl rfl rfl ?_
              refine ev_ic f_X12_number (nx := 5) (v := 3) rfl (by decide) rfl ?_
              refine ev_if f_X12_number (t1 := 14) (t2 := 8) rfl rfl rfl (fun h195 => ?_) (fun h195 => ?_)
              · have u196 : (gi187 69 12).toInt ≤ 3 := t_equ h195 (by decide : (3:Int32).toInt ≤ (3:Int))
                have l197 : 3 ≤ (gi187 69 12).toInt := t_eql h195 (by decide : (3:Int) ≤ (3:Int32).toInt)
                refine ev_loc f_X12_number (nx := 15) rfl rfl rfl rfl ?_
                refine ev_getI f_X12_number (nx := 18) rfl (hI.wf.s rfl) rfl rfl rfl ?_
                refine ev_loc f_X12_number (nx := 19) rfl rfl rfl rfl ?_
                refine ev_if f_X12_number (t1 := 30) (t2 := 22) rfl rfl rfl (fun h198 => ?_) (fun h198 => ?_)
                · have u199 : (gi187 69 15).toInt ≤ (-1) := t_ltu h198 (by decide : (0:Int32).toInt ≤ (0:Int)) rfl
                  refine ev_loc f_X12_number (nx := 31) rfl rfl rfl rfl ?_
                  refine ev_ic f_X12_number (nx := 32) (v := 4) rfl (by decide) rfl ?_
                  refine ev_inV2 f_X12_number (nx := 35) (lo2 := [(0, .ref 69), (1, .int 4)]) rfl rfl rfl rfl f_X12_fails (hI.wf.s rfl) rfl rfl rfl rfl rfl ?_
                  refine ev_loc f_X12_fails (nx := 1) rfl rfl rfl rfl ?_
                  refine ev_getI f_X12_fails (nx := 4) rfl (hI.wf.s rfl) rfl rfl rfl ?_
                  refine ev_if f_X12_fails (t1 := 7) (t2 := 32) rfl rfl rfl (fun h200 => ?_) (fun h200 => ?_)
                  · have u201 : (gi187 69 18).toInt ≤ 0 := t_equ h200 (by decide : (0:Int32).toInt ≤ (0:Int))
                    have l202 : 0 ≤ (gi187 69 18).toInt := t_eql h200 (by decide : (0:Int) ≤ (0:Int32).toInt)
                    refine ev_loc f_X12_fails (nx := 8) rfl rfl rfl rfl ?_
                    refine ev_loc f_X12_fails (nx := 9) rfl rfl rfl rfl ?_
                    refine ev_gvI f_X12_fails (nx := 12) (w := (gi187 69 12)) rfl (hI.wf.s rfl) rfl rfl rfl rfl ?_
                    refine ev_ic f_X12_fails (nx := 13) (v := 1) rfl (by decide) rfl ?_
                    refine ev_f f_X12_fails (t1 := 16) (t2 := 20) rfl rfl rfl (t_neT' (by decide : (1:Int32).toInt ≤ (1:Int)) l197 (by decide)) ?_
                    refine ev_loc f_X12_fails (nx := 21) rfl rfl rfl rfl ?_
                    refine ev_putIT f_X12_fails (nx := 24) rfl (hI.wf.s rfl) rfl rfl rfl (hI.put0 (hI.wf.s rfl) rfl rfl) (hX.upI rfl) (fun g203 e203 hI hX => ?_)
                    refine ev_loc f_X12_fails (nx := 25) rfl rfl rfl rfl ?_
                    refine ev_loc f_X12_fails (nx := 26) rfl rfl rfl rfl ?_
                    refine ev_getI f_X12_fails (nx := 29) rfl (hI.wf.s rfl) rfl rfl rfl ?_
                    obtain ⟨l204, u204⟩ := hI.b (hI.wf.s (k := 69) rfl) (t_bdK rfl : t_bd 11 13 = some (0, 900))
                    refine ev_putIT f_X12_fails (nx := 32) rfl (hI.wf.s rfl) rfl rfl rfl (hI.put0 (hI.wf.s rfl) rfl rfl) (hX.upI rfl) (fun g205 e205 hI hX => ?_)
                    refine ev_ic f_X12_fails (nx := 33) (v := 0) rfl (by decide) rfl ?_
                    refine ev_retK1 f_X12_fails rfl rfl rfl ?_
                    refine ev_retK1 f_X12_number rfl rfl rfl ?_
                    refine ev_t f_X12_once (t1 := 108) (t2 := 104) rfl rfl rfl (by decide) ?_
                    refine ev_ic f_X12_once (nx := 109) (v := 0) rfl (by decide) rfl ?_
                    refine ev_retK1 f_X12_once rfl rfl rfl ?_
                    refine ev_loc f_X12_riverPart (nx := 78) (lo' := [(1, .int 0), (2, .int w4), (0, .ref 69)]) rfl rfl rfl rfl ?_
                    refine ev_jmp f_X12_riverPart (nx := 87) rfl rfl rfl ?_
                    refine ev_loc f_X12_riverPart (nx := 88) rfl rfl rfl rfl ?_
                    refine ev_t f_X12_riverPart (t1 := 104) (t2 := 91) rfl rfl rfl (by decide) ?_
                    refine ev_ic f_X12_riverPart (nx := 105) (v := 0) rfl (by decide) rfl ?_
                    exact ev_ret f_X12_riverPart rfl rfl rfl ⟨_, _, _, rfl, hI, hX, ⟨_, rfl, (by decide : (0:Int) ≤ (0:Int32).toInt), (Int.le_trans (by decide : (0:Int32).toInt ≤ (0:Int)) (by decide : (0:Int) ≤ 1)), (show (gi 69 14).toInt ≤ (g205 69 14).toInt ∧ (0 = 1 → (g205 69 12).toInt ≠ 0 → (gi 69 14).toInt < (g205 69 14).toInt) ∧ (1 ≤ (gi 70 1404).toInt → 1 ≤ (g205 70 1404).toInt) from (by have ff206 : (g205 69 14).toInt = (gi187 69 14).toInt := congrArg Int32.toInt ((by rw [e205]; exact x_up2_off (Or.inr (by decide)) : g205 69 14 = g203 69 14).trans ((by rw [e203]; exact x_up2_off (Or.inr (by decide)) : g203 69 14 = gi187 69 14).trans rfl)); have ff207 : (g205 69 12).toInt = (gi187 69 12).toInt := congrArg Int32.toInt ((by rw [e205]; exact x_up2_off (Or.inr (by decide)) : g205 69 12 = g203 69 12).trans ((by rw [e203]; exact x_up2_off (Or.inr (by decide)) : g203 69 12 = gi187 69 12).trans rfl)); have ff208 : (g205 70 1404).toInt = (gi 70 1404).toInt := congrArg Int32.toInt ((by rw [e205]; exact x_up2_off (Or.inr (by decide)) : g205 70 1404 = g203 70 1404).trans ((by rw [e203]; exact x_up2_off (Or.inr (by decide)) : g203 70 1404 = gi187 70 1404).trans ((hC187.1 70 1404 rfl).1.trans ((hC183.1 70 1404 rfl).1.trans ((by rw [e182]; exact x_up2_off (Or.inr (by decide)) : g182 70 1404 = gi159 70 1404).trans ((hC159.1 70 1404 rfl).1.trans ((by rw [e158]; exact x_up2_off (Or.inr (by decide)) : g158 70 1404 = gi4 70 1404).trans ((hC4.1 70 1404 rfl).1.trans rfl)))))))); omega))⟩⟩
                  · have r209 : (gi187 69 18).toInt ≠ 0 := fun e => h200 (Int32.toInt_inj.mp (e.trans (by decide : (0:Int) = (0 : Int32).toInt)))
                    refine ev_ic f_X12_fails (nx := 33) (v := 0) rfl (by decide) rfl ?_
                    refine ev_retK1 f_X12_fails rfl rfl rfl ?_
                    refine ev_retK1 f_X12_number rfl rfl rfl ?_
                    refine ev_t f_X12_once (t1 := 108) (t2 := 104) rfl rfl rfl (by decide) ?_
                    refine ev_ic f_X12_once (nx := 109) (v := 0) rfl (by decide) rfl ?_
                    refine ev_retK1 f_X12_once rfl rfl rfl ?_
                    refine ev_loc f_X12_riverPart (nx := 78) (lo' := [(1, .int 0), (2, .int w4), (0, .ref 69)]) rfl rfl rfl rfl ?_
                    refine ev_jmp f_X12_riverPart (nx := 87) rfl rfl rfl ?_
                    refine ev_loc f_X12_riverPart (nx := 88) rfl rfl rfl rfl ?_
                    refine ev_t f_X12_riverPart (t1 := 104) (t2 := 91) rfl rfl rfl (by decide) ?_
                    refine ev_ic f_X12_riverPart (nx := 105) (v := 0) rfl (by decide) rfl ?_
                    exact ev_ret f_X12_riverPart rfl rfl rfl ⟨_, _, _, rfl, hI, hX, ⟨_, rfl, (by decide : (0:Int) ≤ (0:Int32).toInt), (Int.le_trans (by decide : (0:Int32).toInt ≤ (0:Int)) (by decide : (0:Int) ≤ 1)), (show (gi 69 14).toInt ≤ (gi187 69 14).toInt ∧ (0 = 1 → (gi187 69 12).toInt ≠ 0 → (gi 69 14).toInt < (gi187 69 14).toInt) ∧ (1 ≤ (gi 70 1404).toInt → 1 ≤ (gi187 70 1404).toInt) from (by have ff210 : (gi187 70 1404).toInt = (gi 70 1404).toInt := congrArg Int32.toInt ((hC187.1 70 1404 rfl).1.trans ((hC183.1 70 1404 rfl).1.trans ((by rw [e182]; exact x_up2_off (Or.inr (by decide)) : g182 70 1404 = gi159 70 1404).trans ((hC159.1 70 1404 rfl).1.trans ((by rw [e158]; exact x_up2_off (Or.inr (by decide)) : g158 70 1404 = gi4 70 1404).trans ((hC4.1 70 1404 rfl).1.trans rfl)))))); omega))⟩⟩
                · have l211 : 0 ≤ (gi187 69 15).toInt := t_lel (t_nlt h198) (by decide : (0:Int) ≤ (0:Int32).toInt)
                  refine ev_loc f_X12_number (nx := 23) rfl rfl rfl rfl ?_
                  refine ev_gvI f_X12_number (nx := 26) (w := (gi187 69 15)) rfl (hI.wf.s rfl) rfl rfl rfl rfl ?_
                  refine ev_loc f_X12_number (nx := 27) rfl rfl rfl rfl ?_
                  refine ev_if f_X12_number (t1 := 36) (t2 := 30) rfl rfl rfl (fun h212 => ?_) (fun h212 => ?_)
                  · have u213 : (gi187 69 15).toInt ≤ 200 := t_leu h212 (by decide : (200:Int32).toInt ≤ (200:Int))
                    refine ev_loc f_X12_number (nx := 37) rfl rfl rfl rfl ?_
                    refine ev_getR f_X12_number (nx := 40) rfl (hI.wf.s rfl) rfl rfl (hI.wf.r rfl) rfl rfl ?_
                    refine ev_loc f_X12_number (nx := 41) rfl rfl rfl rfl ?_
                    refine ev_loc f_X12_number (nx := 42) rfl rfl rfl rfl ?_
                    refine ev_gvI f_X12_number (nx := 45) (w := (gi187 69 15)) rfl (hI.wf.s rfl) rfl rfl rfl rfl ?_
                    refine ev_iastT f_X12_number (nx := 46) rfl (hI.wf.s rfl) (by decide : (1406:Int) ≤ (1406:Int32).toInt) (by decide) (by decide : (1406:Int32).toInt ≤ (1406:Int)) (by decide) rfl (hI.astL (hI.wf.s rfl) (by decide +kernel : t_abw 70 1406 1406 0 200 = true) (t_cl1 (by decide : (1406:Int) ≤ (1406:Int32).toInt) (by decide)) (t_cl2 (by decide : (1406:Int) ≤ (1406:Int32).toInt) (by decide : (1406:Int32).toInt ≤ (1406:Int)) (by decide) (by decide)) l211 u213 rfl) (hX.upI (t_inR (p := 1406) (m := 1406) rfl (by decide : (1406:Int) ≤ (1406:Int32).toInt) (by decide) (by decide : (1406:Int32).toInt ≤ (1406:Int)) (by decide) (by decide))) (fun g214 e214 hI hX => ?_)
                    refine ev_loc f_X12_number (nx := 47) rfl rfl rfl rfl ?_
                    refine ev_qN f_X12_number (nx := 50) (r := []) rfl rfl rfl rfl rfl rfl rfl (c_m_ahead hI ) rfl hX rfl (fun gi215 gl215 gr215 hI hX hC215 q215 => ?_)
                    have ff216 : (g214 69 14).toInt = (gi187 69 14).toInt := congrArg Int32.toInt ((by rw [e214]; exact x_up2_off (Or.inl (by decide)) : g214 69 14 = gi187 69 14).trans rfl)
                    have q215 : (g214 69 14).toInt ≤ (gi215 69 14).toInt ∧ ((gi215 69 12).toInt ≠ 0 → (g214 69 14).toInt < (gi215 69 14).toInt) := q215
                    obtain ⟨l217, u217⟩ := hI.b (hI.wf.s (k := 69) rfl) (t_bdK rfl : t_bd 11 12 = some (0, 4))
                    obtain ⟨l218, u218⟩ := hI.b (hI.wf.s (k := 69) rfl) (t_bdK rfl : t_bd 11 14 = some (0, 900))
                    refine ev_ic f_X12_number (nx := 51) (v := 1) rfl (by decide) rfl ?_
                    refine ev_retK1 f_X12_number rfl rfl rfl ?_
                    refine ev_f f_X12_once (t1 := 108) (t2 := 104) rfl rfl rfl (by decide) ?_
                    refine ev_ic f_X12_once (nx := 105) (v := 1) rfl (by decide) rfl ?_
                    refine ev_jmp f_X12_once (nx := 109) rfl rfl rfl ?_
                    refine ev_retK1 f_X12_once rfl rfl rfl ?_
                    refine ev_loc f_X12_riverPart (nx := 78) (lo' := [(1, .int 1), (2, .int w4), (0, .ref 69)]) rfl rfl rfl rfl ?_
                    refine ev_jmp f_X12_riverPart (nx := 87) rfl rfl rfl ?_
                    refine ev_loc f_X12_riverPart (nx := 88) rfl rfl rfl rfl ?_
                    refine ev_f f_X12_riverPart (t1 := 104) (t2 := 91) rfl rfl rfl (by decide) ?_
                    refine ev_loc f_X12_riverPart (nx := 92) rfl rfl rfl rfl ?_
                    refine ev_bp f_X12_riverPart (nx := 94) (v := 59) rfl (by decide) rfl ?_
                    refine ev_qI f_X12_riverPart (nx := 97) (r := []) rfl rfl rfl rfl rfl rfl rfl (c_m_wantSign hI (59)) rfl hX rfl (fun w219 gi219 gl219 gr219 l219 u219 hI hX hC219 q219 => ?_)
                    have q219 : (gi215 69 14).toInt ≤ (gi219 69 14).toInt ∧ (w219.toInt = 1 → (gi219 69 12).toInt ≠ 0 → (gi215 69 14).toInt < (gi219 69 14).toInt) := q219
                    obtain ⟨l220, u220⟩ := hI.b (hI.wf.s (k := 69) rfl) (t_bdK rfl : t_bd 11 12 = some (0, 4))
                    obtain ⟨l221, u221⟩ := hI.b (hI.wf.s (k := 69) rfl) (t_bdK rfl : t_bd 11 14 = some (0, 900))
                    refine ev_if f_X12_riverPart (t1 := 104) (t2 := 100) rfl rfl rfl (fun h222 => ?_) (fun h222 => ?_)
                    · have u223 : w219.toInt ≤ 0 := t_equ h222 (by decide : (0:Int32).toInt ≤ (0:Int))
                      refine ev_ic f_X12_riverPart (nx := 105) (v := 0) rfl (by decide) rfl ?_
                      exact ev_ret f_X12_riverPart rfl rfl rfl ⟨_, _, _, rfl, hI, hX, ⟨_, rfl, (by decide : (0:Int) ≤ (0:Int32).toInt), (Int.le_trans (by decide : (0:Int32).toInt ≤ (0:Int)) (by decide : (0:Int) ≤ 1)), (show (gi 69 14).toInt ≤ (gi219 69 14).toInt ∧ (0 = 1 → (gi219 69 12).toInt ≠ 0 → (gi 69 14).toInt < (gi219 69 14).toInt) ∧ (1 ≤ (gi 70 1404).toInt → 1 ≤ (gi219 70 1404).toInt) from (by have ff224 : (gi219 70 1404).toInt = (gi 70 1404).toInt := congrArg Int32.toInt ((hC219.1 70 1404 rfl).1.trans ((hC215.1 70 1404 rfl).1.trans ((by rw [e214]; exact x_up2_off (Or.inr (by decide)) : g214 70 1404 = gi187 70 1404).trans ((hC187.1 70 1404 rfl).1.trans ((hC183.1 70 1404 rfl).1.trans ((by rw [e182]; exact x_up2_off (Or.inr (by decide)) : g182 70 1404 = gi159 70 1404).trans ((hC159.1 70 1404 rfl).1.trans ((by rw [e158]; exact x_up2_off (Or.inr (by decide)) : g158 70 1404 = gi4 70 1404).trans ((hC4.1 70 1404 rfl).1.trans rfl))))))))); omega))⟩⟩
                    · have r225 : w219.toInt ≠ 0 := fun e => h222 (Int32.toInt_inj.mp (e.trans (by decide : (0:Int) = (0 : Int32).toInt)))
                      have l226 : 1 ≤ w219.toInt := t_nel h222 l219 rfl rfl
                      refine ev_ic f_X12_riverPart (nx := 101) (v := 1) rfl (by decide) rfl ?_
                      refine ev_jmp f_X12_riverPart (nx := 105) rfl rfl rfl ?_
                      exact ev_ret f_X12_riverPart rfl rfl rfl ⟨_, _, _, rfl, hI, hX, ⟨_, rfl, (Int.le_trans (by decide : (0:Int) ≤ 1) (by decide : (1:Int) ≤ (1:Int32).toInt)), (by decide : (1:Int32).toInt ≤ (1:Int)), (show (gi 69 14).toInt ≤ (gi219 69 14).toInt ∧ (1 = 1 → (gi219 69 12).toInt ≠ 0 → (gi 69 14).toInt < (gi219 69 14).toInt) ∧ (1 ≤ (gi 70 1404).toInt → 1 ≤ (gi219 70 1404).toInt) from (by have ff227 : (gi219 70 1404).toInt = (gi 70 1404).toInt := congrArg Int32.toInt ((hC219.1 70 1404 rfl).1.trans ((hC215.1 70 1404 rfl).1.trans ((by rw [e214]; exact x_up2_off (Or.inr (by decide)) : g214 70 1404 = gi187 70 1404).trans ((hC187.1 70 1404 rfl).1.trans ((hC183.1 70 1404 rfl).1.trans ((by rw [e182]; exact x_up2_off (Or.inr (by decide)) : g182 70 1404 = gi159 70 1404).trans ((hC159.1 70 1404 rfl).1.trans ((by rw [e158]; exact x_up2_off (Or.inr (by decide)) : g158 70 1404 = gi4 70 1404).trans ((hC4.1 70 1404 rfl).1.trans rfl))))))))); omega))⟩⟩
                  · have l228 : 201 ≤ (gi187 69 15).toInt := t_ltl (t_nle h212) (by decide : (200:Int) ≤ (200:Int32).toInt) rfl
                    refine ev_loc f_X12_number (nx := 31) rfl rfl rfl rfl ?_
                    refine ev_ic f_X12_number (nx := 32) (v := 4) rfl (by decide) rfl ?_
                    refine ev_inV2 f_X12_number (nx := 35) (lo2 := [(0, .ref 69), (1, .int 4)]) rfl rfl rfl rfl f_X12_fails (hI.wf.s rfl) rfl rfl rfl rfl rfl ?_
                    refine ev_loc f_X12_fails (nx := 1) rfl rfl rfl rfl ?_
                    refine ev_getI f_X12_fails (nx := 4) rfl (hI.wf.s rfl) rfl rfl rfl ?_
                    refine ev_if f_X12_fails (t1 := 7) (t2 := 32) rfl rfl rfl (fun h229 => ?_) (fun h229 => ?_)
                    · have u230 : (gi187 69 18).toInt ≤ 0 := t_equ h229 (by decide : (0:Int32).toInt ≤ (0:Int))
                      have l231 : 0 ≤ (gi187 69 18).toInt := t_eql h229 (by decide : (0:Int) ≤ (0:Int32).toInt)
                      refine ev_loc f_X12_fails (nx := 8) rfl rfl rfl rfl ?_
                      refine ev_loc f_X12_fails (nx := 9) rfl rfl rfl rfl ?_
                      refine ev_gvI f_X12_fails (nx := 12) (w := (gi187 69 12)) rfl (hI.wf.s rfl) rfl rfl rfl rfl ?_
                      refine ev_ic f_X12_fails (nx := 13) (v := 1) rfl (by decide) rfl ?_
                      refine ev_f f_X12_fails (t1 := 16) (t2 := 20) rfl rfl rfl (t_neT' (by decide : (1:Int32).toInt ≤ (1:Int)) l197 (by decide)) ?_
                      refine ev_loc f_X12_fails (nx := 21) rfl rfl rfl rfl ?_
                      refine ev_putIT f_X12_fails (nx := 24) rfl (hI.wf.s rfl) rfl rfl rfl (hI.put0 (hI.wf.s rfl) rfl rfl) (hX.upI rfl) (fun g232 e232 hI hX => ?_)
                      refine ev_loc f_X12_fails (nx := 25) rfl rfl rfl rfl ?_
                      refine ev_loc f_X12_fails (nx := 26) rfl rfl rfl rfl ?_
                      refine ev_getI f_X12_fails (nx := 29) rfl (hI.wf.s rfl) rfl rfl rfl ?_
                      obtain ⟨l233, u233⟩ := hI.b (hI.wf.s (k := 69) rfl) (t_bdK rfl : t_bd 11 13 = some (0, 900))
                      refine ev_putIT f_X12_fails (nx := 32) rfl (hI.wf.s rfl) rfl rfl rfl (hI.put0 (hI.wf.s rfl) rfl rfl) (hX.upI rfl) (fun g234 e234 hI hX => ?_)
                      refine ev_ic f_X12_fails (nx := 33) (v := 0) rfl (by decide) rfl ?_
                      refine ev_retK1 f_X12_fails rfl rfl rfl ?_
                      refine ev_retK1 f_X12_number rfl rfl rfl ?_
                      refine ev_t f_X12_once (t1 := 108) (t2 := 104) rfl rfl rfl (by decide) ?_
                      refine ev_ic f_X12_once (nx := 109) (v := 0) rfl (by decide) rfl ?_
                      refine ev_retK1 f_X12_once rfl rfl rfl ?_
                      refine ev_loc f_X12_riverPart (nx := 78) (lo' := [(1, .int 0), (2, .int w4), (0, .ref 69)]) rfl rfl rfl rfl ?_
                      refine ev_jmp f_X12_riverPart (nx := 87) rfl rfl rfl ?_
                      refine ev_loc f_X12_riverPart (nx := 88) rfl rfl rfl rfl ?_
                      refine ev_t f_X12_riverPart (t1 := 104) (t2 := 91) rfl rfl rfl (by decide) ?_
                      refine ev_ic f_X12_riverPart (nx := 105) (v := 0) rfl (by decide) rfl ?_
                      exact ev_ret f_X12_riverPart rfl rfl rfl ⟨_, _, _, rfl, hI, hX, ⟨_, rfl, (by decide : (0:Int) ≤ (0:Int32).toInt), (Int.le_trans (by decide : (0:Int32).toInt ≤ (0:Int)) (by decide : (0:Int) ≤ 1)), (show (gi 69 14).toInt ≤ (g234 69 14).toInt ∧ (0 = 1 → (g234 69 12).toInt ≠ 0 → (gi 69 14).toInt < (g234 69 14).toInt) ∧ (1 ≤ (gi 70 1404).toInt → 1 ≤ (g234 70 1404).toInt) from (by have ff235 : (g234 69 14).toInt = (gi187 69 14).toInt := congrArg Int32.toInt ((by rw [e234]; exact x_up2_off (Or.inr (by decide)) : g234 69 14 = g232 69 14).trans ((by rw [e232]; exact x_up2_off (Or.inr (by decide)) : g232 69 14 = gi187 69 14).trans rfl)); have ff236 : (g234 69 12).toInt = (gi187 69 12).toInt := congrArg Int32.toInt ((by rw [e234]; exact x_up2_off (Or.inr (by decide)) : g234 69 12 = g232 69 12).trans ((by rw [e232]; exact x_up2_off (Or.inr (by decide)) : g232 69 12 = gi187 69 12).trans rfl)); have ff237 : (g234 70 1404).toInt = (gi 70 1404).toInt := congrArg Int32.toInt ((by rw [e234]; exact x_up2_off (Or.inr (by decide)) : g234 70 1404 = g232 70 1404).trans ((by rw [e232]; exact x_up2_off (Or.inr (by decide)) : g232 70 1404 = gi187 70 1404).trans ((hC187.1 70 1404 rfl).1.trans ((hC183.1 70 1404 rfl).1.trans ((by rw [e182]; exact x_up2_off (Or.inr (by decide)) : g182 70 1404 = gi159 70 1404).trans ((hC159.1 70 1404 rfl).1.trans ((by rw [e158]; exact x_up2_off (Or.inr (by decide)) : g158 70 1404 = gi4 70 1404).trans ((hC4.1 70 1404 rfl).1.trans rfl)))))))); omega))⟩⟩
                    · have r238 : (gi187 69 18).toInt ≠ 0 := fun e => h229 (Int32.toInt_inj.mp (e.trans (by decide : (0:Int) = (0 : Int32).toInt)))
                      refine ev_ic f_X12_fails (nx := 33) (v := 0) rfl (by decide) rfl ?_
                      refine ev_retK1 f_X12_fails rfl rfl rfl ?_
                      refine ev_retK1 f_X12_number rfl rfl rfl ?_
                      refine ev_t f_X12_once (t1 := 108) (t2 := 104) rfl rfl rfl (by decide) ?_
                      refine ev_ic f_X12_once (nx := 109) (v := 0) rfl (by decide) rfl ?_
                      refine ev_retK1 f_X12_once rfl rfl rfl ?_
                      refine ev_loc f_X12_riverPart (nx := 78) (lo' := [(1, .int 0), (2, .int w4), (0, .ref 69)]) rfl rfl rfl rfl ?_
                      refine ev_jmp f_X12_riverPart (nx := 87) rfl rfl rfl ?_
                      refine ev_loc f_X12_riverPart (nx := 88) rfl rfl rfl rfl ?_
                      refine ev_t f_X12_riverPart (t1 := 104) (t2 := 91) rfl rfl rfl (by decide) ?_
                      refine ev_ic f_X12_riverPart (nx := 105) (v := 0) rfl (by decide) rfl ?_
                      exact ev_ret f_X12_riverPart rfl rfl rfl ⟨_, _, _, rfl, hI, hX, ⟨_, rfl, (by decide : (0:Int) ≤ (0:Int32).toInt), (Int.le_trans (by decide : (0:Int32).toInt ≤ (0:Int)) (by decide : (0:Int) ≤ 1)), (show (gi 69 14).toInt ≤ (gi187 69 14).toInt ∧ (0 = 1 → (gi187 69 12).toInt ≠ 0 → (gi 69 14).toInt < (gi187 69 14).toInt) ∧ (1 ≤ (gi 70 1404).toInt → 1 ≤ (gi187 70 1404).toInt) from (by have ff239 : (gi187 70 1404).toInt = (gi 70 1404).toInt := congrArg Int32.toInt ((hC187.1 70 1404 rfl).1.trans ((hC183.1 70 1404 rfl).1.trans ((by rw [e182]; exact x_up2_off (Or.inr (by decide)) : g182 70 1404 = gi159 70 1404).trans ((hC159.1 70 1404 rfl).1.trans ((by rw [e158]; exact x_up2_off (Or.inr (by decide)) : g158 70 1404 = gi4 70 1404).trans ((hC4.1 70 1404 rfl).1.trans rfl)))))); omega))⟩⟩
              · have r240 : (gi187 69 12).toInt ≠ 3 := fun e => h195 (Int32.toInt_inj.mp (e.trans (by decide : (3:Int) = (3 : Int32).toInt)))
                refine ev_loc f_X12_number (nx := 9) rfl rfl rfl rfl ?_
                refine ev_ic f_X12_number (nx := 10) (v := 2) rfl (by decide) rfl ?_
                refine ev_inV2 f_X12_number (nx := 13) (lo2 := [(0, .ref 69), (1, .int 2)]) rfl rfl rfl rfl f_X12_fails (hI.wf.s rfl) rfl rfl rfl rfl rfl ?_
                refine ev_loc f_X12_fails (nx := 1) rfl rfl rfl rfl ?_
                refine ev_getI f_X12_fails (nx := 4) rfl (hI.wf.s rfl) rfl rfl rfl ?_
                refine ev_if f_X12_fails (t1 := 7) (t2 := 32) rfl rfl rfl (fun h241 => ?_) (fun h241 => ?_)
                · have u242 : (gi187 69 18).toInt ≤ 0 := t_equ h241 (by decide : (0:Int32).toInt ≤ (0:Int))
                  have l243 : 0 ≤ (gi187 69 18).toInt := t_eql h241 (by decide : (0:Int) ≤ (0:Int32).toInt)
                  refine ev_loc f_X12_fails (nx := 8) rfl rfl rfl rfl ?_
                  refine ev_loc f_X12_fails (nx := 9) rfl rfl rfl rfl ?_
                  refine ev_gvI f_X12_fails (nx := 12) (w := (gi187 69 12)) rfl (hI.wf.s rfl) rfl rfl rfl rfl ?_
                  refine ev_ic f_X12_fails (nx := 13) (v := 1) rfl (by decide) rfl ?_
                  refine ev_if f_X12_fails (t1 := 16) (t2 := 20) rfl rfl rfl (fun h244 => ?_) (fun h244 => ?_)
                  · have u245 : (gi187 69 12).toInt ≤ 1 := t_equ h244 (by decide : (1:Int32).toInt ≤ (1:Int))
                    have l246 : 1 ≤ (gi187 69 12).toInt := t_eql h244 (by decide : (1:Int) ≤ (1:Int32).toInt)
                    refine ev_ic f_X12_fails (nx := 17) (v := 1) rfl (by decide) rfl ?_
                    refine ev_jmp f_X12_fails (nx := 21) rfl rfl rfl ?_
                    refine ev_putIT f_X12_fails (nx := 24) rfl (hI.wf.s rfl) rfl rfl rfl (hI.put0 (hI.wf.s rfl) rfl rfl) (hX.upI rfl) (fun g247 e247 hI hX => ?_)
                    refine ev_loc f_X12_fails (nx := 25) rfl rfl rfl rfl ?_
                    refine ev_loc f_X12_fails (nx := 26) rfl rfl rfl rfl ?_
                    refine ev_getI f_X12_fails (nx := 29) rfl (hI.wf.s rfl) rfl rfl rfl ?_
                    obtain ⟨l248, u248⟩ := hI.b (hI.wf.s (k := 69) rfl) (t_bdK rfl : t_bd 11 13 = some (0, 900))
                    refine ev_putIT f_X12_fails (nx := 32) rfl (hI.wf.s rfl) rfl rfl rfl (hI.put0 (hI.wf.s rfl) rfl rfl) (hX.upI rfl) (fun g249 e249 hI hX => ?_)
                    refine ev_ic f_X12_fails (nx := 33) (v := 0) rfl (by decide) rfl ?_
                    refine ev_retK1 f_X12_fails rfl rfl rfl ?_
                    refine ev_retK1 f_X12_number rfl rfl rfl ?_
                    refine ev_t f_X12_once (t1 := 108) (t2 := 104) rfl rfl rfl (by decide) ?_
                    refine ev_ic f_X12_once (nx := 109) (v := 0) rfl (by decide) rfl ?_
                    refine ev_retK1 f_X12_once rfl rfl rfl ?_
                    refine ev_loc f_X12_riverPart (nx := 78) (lo' := [(1, .int 0), (2, .int w4), (0, .ref 69)]) rfl rfl rfl rfl ?_
                    refine ev_jmp f_X12_riverPart (nx := 87) rfl rfl rfl ?_
                    refine ev_loc f_X12_riverPart (nx := 88) rfl rfl rfl rfl ?_
                    refine ev_t f_X12_riverPart (t1 := 104) (t2 := 91) rfl rfl rfl (by decide) ?_
                    refine ev_ic f_X12_riverPart (nx := 105) (v := 0) rfl (by decide) rfl ?_
                    exact ev_ret f_X12_riverPart rfl rfl rfl ⟨_, _, _, rfl, hI, hX, ⟨_, rfl, (by decide : (0:Int) ≤ (0:Int32).toInt), (Int.le_trans (by decide : (0:Int32).toInt ≤ (0:Int)) (by decide : (0:Int) ≤ 1)), (show (gi 69 14).toInt ≤ (g249 69 14).toInt ∧ (0 = 1 → (g249 69 12).toInt ≠ 0 → (gi 69 14).toInt < (g249 69 14).toInt) ∧ (1 ≤ (gi 70 1404).toInt → 1 ≤ (g249 70 1404).toInt) from (by have ff250 : (g249 69 14).toInt = (gi187 69 14).toInt := congrArg Int32.toInt ((by rw [e249]; exact x_up2_off (Or.inr (by decide)) : g249 69 14 = g247 69 14).trans ((by rw [e247]; exact x_up2_off (Or.inr (by decide)) : g247 69 14 = gi187 69 14).trans rfl)); have ff251 : (g249 69 12).toInt = (gi187 69 12).toInt := congrArg Int32.toInt ((by rw [e249]; exact x_up2_off (Or.inr (by decide)) : g249 69 12 = g247 69 12).trans ((by rw [e247]; exact x_up2_off (Or.inr (by decide)) : g247 69 12 = gi187 69 12).trans rfl)); have ff252 : (g249 70 1404).toInt = (gi 70 1404).toInt := congrArg Int32.toInt ((by rw [e249]; exact x_up2_off (Or.inr (by decide)) : g249 70 1404 = g247 70 1404).trans ((by rw [e247]; exact x_up2_off (Or.inr (by decide)) : g247 70 1404 = gi187 70 1404).trans ((hC187.1 70 1404 rfl).1.trans ((hC183.1 70 1404 rfl).1.trans ((by rw [e182]; exact x_up2_off (Or.inr (by decide)) : g182 70 1404 = gi159 70 1404).trans ((hC159.1 70 1404 rfl).1.trans ((by rw [e158]; exact x_up2_off (Or.inr (by decide)) : g158 70 1404 = gi4 70 1404).trans ((hC4.1 70 1404 rfl).1.trans rfl)))))))); omega))⟩⟩
                  · have r253 : (gi187 69 12).toInt ≠ 1 := fun e => h244 (Int32.toInt_inj.mp (e.trans (by decide : (1:Int) = (1 : Int32).toInt)))
                    refine ev_loc f_X12_fails (nx := 21) rfl rfl rfl rfl ?_
                    refine ev_putIT f_X12_fails (nx := 24) rfl (hI.wf.s rfl) rfl rfl rfl (hI.put0 (hI.wf.s rfl) rfl rfl) (hX.upI rfl) (fun g254 e254 hI hX => ?_)
                    refine ev_loc f_X12_fails (nx := 25) rfl rfl rfl rfl ?_
                    refine ev_loc f_X12_fails (nx := 26) rfl rfl rfl rfl ?_
                    refine ev_getI f_X12_fails (nx := 29) rfl (hI.wf.s rfl) rfl rfl rfl ?_
                    obtain ⟨l255, u255⟩ := hI.b (hI.wf.s (k := 69) rfl) (t_bdK rfl : t_bd 11 13 = some (0, 900))
                    refine ev_putIT f_X12_fails (nx := 32) rfl (hI.wf.s rfl) rfl rfl rfl (hI.put0 (hI.wf.s rfl) rfl rfl) (hX.upI rfl) (fun g256 e256 hI hX => ?_)
                    refine ev_ic f_X12_fails (nx := 33) (v := 0) rfl (by decide) rfl ?_
                    refine ev_retK1 f_X12_fails rfl rfl rfl ?_
                    refine ev_retK1 f_X12_number rfl rfl rfl ?_
                    refine ev_t f_X12_once (t1 := 108) (t2 := 104) rfl rfl rfl (by decide) ?_
                    refine ev_ic f_X12_once (nx := 109) (v := 0) rfl (by decide) rfl ?_
                    refine ev_retK1 f_X12_once rfl rfl rfl ?_
                    refine ev_loc f_X12_riverPart (nx := 78) (lo' := [(1, .int 0), (2, .int w4), (0, .ref 69)]) rfl rfl rfl rfl ?_
                    refine ev_jmp f_X12_riverPart (nx := 87) rfl rfl rfl ?_
                    refine ev_loc f_X12_riverPart (nx := 88) rfl rfl rfl rfl ?_
                    refine ev_t f_X12_riverPart (t1 := 104) (t2 := 91) rfl rfl rfl (by decide) ?_
                    refine ev_ic f_X12_riverPart (nx := 105) (v := 0) rfl (by decide) rfl ?_
                    exact ev_ret f_X12_riverPart rfl rfl rfl ⟨_, _, _, rfl, hI, hX, ⟨_, rfl, (by decide : (0:Int) ≤ (0:Int32).toInt), (Int.le_trans (by decide : (0:Int32).toInt ≤ (0:Int)) (by decide : (0:Int) ≤ 1)), (show (gi 69 14).toInt ≤ (g256 69 14).toInt ∧ (0 = 1 → (g256 69 12).toInt ≠ 0 → (gi 69 14).toInt < (g256 69 14).toInt) ∧ (1 ≤ (gi 70 1404).toInt → 1 ≤ (g256 70 1404).toInt) from (by have ff257 : (g256 69 14).toInt = (gi187 69 14).toInt := congrArg Int32.toInt ((by rw [e256]; exact x_up2_off (Or.inr (by decide)) : g256 69 14 = g254 69 14).trans ((by rw [e254]; exact x_up2_off (Or.inr (by decide)) : g254 69 14 = gi187 69 14).trans rfl)); have ff258 : (g256 69 12).toInt = (gi187 69 12).toInt := congrArg Int32.toInt ((by rw [e256]; exact x_up2_off (Or.inr (by decide)) : g256 69 12 = g254 69 12).trans ((by rw [e254]; exact x_up2_off (Or.inr (by decide)) : g254 69 12 = gi187 69 12).trans rfl)); have ff259 : (g256 70 1404).toInt = (gi 70 1404).toInt := congrArg Int32.toInt ((by rw [e256]; exact x_up2_off (Or.inr (by decide)) : g256 70 1404 = g254 70 1404).trans ((by rw [e254]; exact x_up2_off (Or.inr (by decide)) : g254 70 1404 = gi187 70 1404).trans ((hC187.1 70 1404 rfl).1.trans ((hC183.1 70 1404 rfl).1.trans ((by rw [e182]; exact x_up2_off (Or.inr (by decide)) : g182 70 1404 = gi159 70 1404).trans ((hC159.1 70 1404 rfl).1.trans ((by rw [e158]; exact x_up2_off (Or.inr (by decide)) : g158 70 1404 = gi4 70 1404).trans ((hC4.1 70 1404 rfl).1.trans rfl)))))))); omega))⟩⟩
                · have r260 : (gi187 69 18).toInt ≠ 0 := fun e => h241 (Int32.toInt_inj.mp (e.trans (by decide : (0:Int) = (0 : Int32).toInt)))
                  refine ev_ic f_X12_fails (nx := 33) (v := 0) rfl (by decide) rfl ?_
                  refine ev_retK1 f_X12_fails rfl rfl rfl ?_
                  refine ev_retK1 f_X12_number rfl rfl rfl ?_
                  refine ev_t f_X12_once (t1 := 108) (t2 := 104) rfl rfl rfl (by decide) ?_
                  refine ev_ic f_X12_once (nx := 109) (v := 0) rfl (by decide) rfl ?_
                  refine ev_retK1 f_X12_once rfl rfl rfl ?_
                  refine ev_loc f_X12_riverPart (nx := 78) (lo' := [(1, .int 0), (2, .int w4), (0, .ref 69)]) rfl rfl rfl rfl ?_
                  refine ev_jmp f_X12_riverPart (nx := 87) rfl rfl rfl ?_
                  refine ev_loc f_X12_riverPart (nx := 88) rfl rfl rfl rfl ?_
                  refine ev_t f_X12_riverPart (t1 := 104) (t2 := 91) rfl rfl rfl (by decide) ?_
                  refine ev_ic f_X12_riverPart (nx := 105) (v := 0) rfl (by decide) rfl ?_
                  exact ev_ret f_X12_riverPart rfl rfl rfl ⟨_, _, _, rfl, hI, hX, ⟨_, rfl, (by decide : (0:Int) ≤ (0:Int32).toInt), (Int.le_trans (by decide : (0:Int32).toInt ≤ (0:Int)) (by decide : (0:Int) ≤ 1)), (show (gi 69 14).toInt ≤ (gi187 69 14).toInt ∧ (0 = 1 → (gi187 69 12).toInt ≠ 0 → (gi 69 14).toInt < (gi187 69 14).toInt) ∧ (1 ≤ (gi 70 1404).toInt → 1 ≤ (gi187 70 1404).toInt) from (by have ff261 : (gi187 70 1404).toInt = (gi 70 1404).toInt := congrArg Int32.toInt ((hC187.1 70 1404 rfl).1.trans ((hC183.1 70 1404 rfl).1.trans ((by rw [e182]; exact x_up2_off (Or.inr (by decide)) : g182 70 1404 = gi159 70 1404).trans ((hC159.1 70 1404 rfl).1.trans ((by rw [e158]; exact x_up2_off (Or.inr (by decide)) : g158 70 1404 = gi4 70 1404).trans ((hC4.1 70 1404 rfl).1.trans rfl)))))); omega))⟩⟩
          · have l262 : 21 ≤ (gi159 69 15).toInt := t_ltl (t_nle h180) (by decide : (20:Int) ≤ (20:Int32).toInt) rfl
            refine ev_loc f_X12_number (nx := 31) rfl rfl rfl rfl ?_
            refine ev_ic f_X12_number (nx := 32) (v := 4) rfl (by decide) rfl ?_
            refine ev_inV2 f_X12_number (nx := 35) (lo2 := [(0, .ref 69), (1, .int 4)]) rfl rfl rfl rfl f_X12_fails (hI.wf.s rfl) rfl rfl rfl rfl rfl ?_
            refine ev_loc f_X12_fails (nx := 1) rfl rfl rfl rfl ?_
            refine ev_getI f_X12_fails (nx := 4) rfl (hI.wf.s rfl) rfl rfl rfl ?_
            refine ev_if f_X12_fails (t1 := 7) (t2 := 32) rfl rfl rfl (fun h263 => ?_) (fun h263 => ?_)
            · have u264 : (gi159 69 18).toInt ≤ 0 := t_equ h263 (by decide : (0:Int32).toInt ≤ (0:Int))
              have l265 : 0 ≤ (gi159 69 18).toInt := t_eql h263 (by decide : (0:Int) ≤ (0:Int32).toInt)
              refine ev_loc f_X12_fails (nx := 8) rfl rfl rfl rfl ?_
              refine ev_loc f_X12_fails (nx := 9) rfl rfl rfl rfl ?_
              refine ev_gvI f_X12_fails (nx := 12) (w := (gi159 69 12)) rfl (hI.wf.s rfl) rfl rfl rfl rfl ?_
              refine ev_ic f_X12_fails (nx := 13) (v := 1) rfl (by decide) rfl ?_
              refine ev_f f_X12_fails (t1 := 16) (t2 := 20) rfl rfl rfl (t_neT' (by decide : (1:Int32).toInt ≤ (1:Int)) l165 (by decide)) ?_
              refine ev_loc f_X12_fails (nx := 21) rfl rfl rfl rfl ?_
              refine ev_putIT f_X12_fails (nx := 24) rfl (hI.wf.s rfl) rfl rfl rfl (hI.put0 (hI.wf.s rfl) rfl rfl) (hX.upI rfl) (fun g266 e266 hI hX => ?_)
              refine ev_loc f_X12_fails (nx := 25) rfl rfl rfl rfl ?_
              refine ev_loc f_X12_fails (nx := 26) rfl rfl rfl rfl ?_
              refine ev_getI f_X12_fails (nx := 29) rfl (hI.wf.s rfl) rfl rfl rfl ?_
              obtain ⟨l267, u267⟩ := hI.b (hI.wf.s (k := 69) rfl) (t_bdK rfl : t_bd 11 13 = some (0, 900))
              refine ev_putIT f_X12_fails (nx := 32) rfl (hI.wf.s rfl) rfl rfl rfl (hI.put0 (hI.wf.s rfl) rfl rfl) (hX.upI rfl) (fun g268 e268 hI hX => ?_)
              refine ev_ic f_X12_fails (nx := 33) (v := 0) rfl (by decide) rfl ?_
              refine ev_retK1 f_X12_fails rfl rfl rfl ?_
              refine ev_retK1 f_X12_number rfl rfl rfl ?_
              refine ev_t f_X12_once (t1 := 108) (t2 := 79) rfl rfl rfl (by decide) ?_
              refine ev_ic f_X12_once (nx := 109) (v := 0) rfl (by decide) rfl ?_
              refine ev_retK1 f_X12_once rfl rfl rfl ?_
              refine ev_loc f_X12_riverPart (nx := 78) (lo' := [(1, .int 0), (2, .int w4), (0, .ref 69)]) rfl rfl rfl rfl ?_
              refine ev_jmp f_X12_riverPart (nx := 87) rfl rfl rfl ?_
              refine ev_loc f_X12_riverPart (nx := 88) rfl rfl rfl rfl ?_
              refine ev_t f_X12_riverPart (t1 := 104) (t2 := 91) rfl rfl rfl (by decide) ?_
              refine ev_ic f_X12_riverPart (nx := 105) (v := 0) rfl (by decide) rfl ?_
              exact ev_ret f_X12_riverPart rfl rfl rfl ⟨_, _, _, rfl, hI, hX, ⟨_, rfl, (by decide : (0:Int) ≤ (0:Int32).toInt), (Int.le_trans (by decide : (0:Int32).toInt ≤ (0:Int)) (by decide : (0:Int) ≤ 1)), (show (gi 69 14).toInt ≤ (g268 69 14).toInt ∧ (0 = 1 → (g268 69 12).toInt ≠ 0 → (gi 69 14).toInt < (g268 69 14).toInt) ∧ (1 ≤ (gi 70 1404).toInt → 1 ≤ (g268 70 1404).toInt) from (by have ff269 : (g268 69 14).toInt = (gi159 69 14).toInt := congrArg Int32.toInt ((by rw [e268]; exact x_up2_off (Or.inr (by decide)) : g268 69 14 = g266 69 14).trans ((by rw [e266]; exact x_up2_off (Or.inr (by decide)) : g266 69 14 = gi159 69 14).trans rfl)); have ff270 : (g268 69 12).toInt = (gi159 69 12).toInt := congrArg Int32.toInt ((by rw [e268]; exact x_up2_off (Or.inr (by decide)) : g268 69 12 = g266 69 12).trans ((by rw [e266]; exact x_up2_off (Or.inr (by decide)) : g266 69 12 = gi159 69 12).trans rfl)); have ff271 : (g268 70 1404).toInt = (gi 70 1404).toInt := congrArg Int32.toInt ((by rw [e268]; exact x_up2_off (Or.inr (by decide)) : g268 70 1404 = g266 70 1404).trans ((by rw [e266]; exact x_up2_off (Or.inr (by decide)) : g266 70 1404 = gi159 70 1404).trans ((hC159.1 70 1404 rfl).1.trans ((by rw [e158]; exact x_up2_off (Or.inr (by decide)) : g158 70 1404 = gi4 70 1404).trans ((hC4.1 70 1404 rfl).1.trans rfl))))); omega))⟩⟩
            · have r272 : (gi159 69 18).toInt ≠ 0 := fun e => h263 (Int32.toInt_inj.mp (e.trans (by decide : (0:Int) = (0 : Int32).toInt)))
              refine ev_ic f_X12_fails (nx := 33) (v := 0) rfl (by decide) rfl ?_
              refine ev_retK1 f_X12_fails rfl rfl rfl ?_
              refine ev_retK1 f_X12_number rfl rfl rfl ?_
              refine ev_t f_X12_once (t1 := 108) (t2 := 79) rfl rfl rfl (by decide) ?_
              refine ev_ic f_X12_once (nx := 109) (v := 0) rfl (by decide) rfl ?_
              refine ev_retK1 f_X12_once rfl rfl rfl ?_
              refine ev_loc f_X12_riverPart (nx := 78) (lo' := [(1, .int 0), (2, .int w4), (0, .ref 69)]) rfl rfl rfl rfl ?_
              refine ev_jmp f_X12_riverPart (nx := 87) rfl rfl rfl ?_
              refine ev_loc f_X12_riverPart (nx := 88) rfl rfl rfl rfl ?_
              refine ev_t f_X12_riverPart (t1 := 104) (t2 := 91) rfl rfl rfl (by decide) ?_
              refine ev_ic f_X12_riverPart (nx := 105) (v := 0) rfl (by decide) rfl ?_
              exact ev_ret f_X12_riverPart rfl rfl rfl ⟨_, _, _, rfl, hI, hX, ⟨_, rfl, (by decide : (0:Int) ≤ (0:Int32).toInt), (Int.le_trans (by decide : (0:Int32).toInt ≤ (0:Int)) (by decide : (0:Int) ≤ 1)), (show (gi 69 14).toInt ≤ (gi159 69 14).toInt ∧ (0 = 1 → (gi159 69 12).toInt ≠ 0 → (gi 69 14).toInt < (gi159 69 14).toInt) ∧ (1 ≤ (gi 70 1404).toInt → 1 ≤ (gi159 70 1404).toInt) from (by have ff273 : (gi159 70 1404).toInt = (gi 70 1404).toInt := congrArg Int32.toInt ((hC159.1 70 1404 rfl).1.trans ((by rw [e158]; exact x_up2_off (Or.inr (by decide)) : g158 70 1404 = gi4 70 1404).trans ((hC4.1 70 1404 rfl).1.trans rfl))); omega))⟩⟩
      · have r274 : (gi159 69 12).toInt ≠ 3 := fun e => h163 (Int32.toInt_inj.mp (e.trans (by decide : (3:Int) = (3 : Int32).toInt)))
        refine ev_loc f_X12_number (nx := 9) rfl rfl rfl rfl ?_
        refine ev_ic f_X12_number (nx := 10) (v := 2) rfl (by decide) rfl ?_
        refine ev_inV2 f_X12_number (nx := 13) (lo2 := [(0, .ref 69), (1, .int 2)]) rfl rfl rfl rfl f_X12_fails (hI.wf.s rfl) rfl rfl rfl rfl rfl ?_
        refine ev_loc f_X12_fails (nx := 1) rfl rfl rfl rfl ?_
        refine ev_getI f_X12_fails (nx := 4) rfl (hI.wf.s rfl) rfl rfl rfl ?_
        refine ev_if f_X12_fails (t1 := 7) (t2 := 32) rfl rfl rfl (fun h275 => ?_) (fun h275 => ?_)
        · have u276 : (gi159 69 18).toInt ≤ 0 := t_equ h275 (by decide : (0:Int32).toInt ≤ (0:Int))
          have l277 : 0 ≤ (gi159 69 18).toInt := t_eql h275 (by decide : (0:Int) ≤ (0:Int32).toInt)
          refine ev_loc f_X12_fails (nx := 8) rfl rfl rfl rfl ?_
          refine ev_loc f_X12_fails (nx := 9) rfl rfl rfl rfl ?_
          refine ev_gvI f_X12_fails (nx := 12) (w := (gi159 69 12)) rfl (hI.wf.s rfl) rfl rfl rfl rfl ?_
          refine ev_ic f_X12_fails (nx := 13) (v := 1) rfl (by decide) rfl ?_
          refine ev_if f_X12_fails (t1 := 16) (t2 := 20) rfl rfl rfl (fun h278 => ?_) (fun h278 => ?_)
          · have u279 : (gi159 69 12).toInt ≤ 1 := t_equ h278 (by decide : (1:Int32).toInt ≤ (1:Int))
            have l280 : 1 ≤ (gi159 69 12).toInt := t_eql h278 (by decide : (1:Int) ≤ (1:Int32).toInt)
            refine ev_ic f_X12_fails (nx := 17) (v := 1) rfl (by decide) rfl ?_
            refine ev_jmp f_X12_fails (nx := 21) rfl rfl rfl ?_
            refine ev_putIT f_X12_fails (nx := 24) rfl (hI.wf.s rfl) rfl rfl rfl (hI.put0 (hI.wf.s rfl) rfl rfl) (hX.upI rfl) (fun g281 e281 hI hX => ?_)
            refine ev_loc f_X12_fails (nx := 25) rfl rfl rfl rfl ?_
            refine ev_loc f_X12_fails (nx := 26) rfl rfl rfl rfl ?_
            refine ev_getI f_X12_fails (nx := 29) rfl (hI.wf.s rfl) rfl rfl rfl ?_
            obtain ⟨l282, u282⟩ := hI.b (hI.wf.s (k := 69) rfl) (t_bdK rfl : t_bd 11 13 = some (0, 900))
            refine ev_putIT f_X12_fails (nx := 32) rfl (hI.wf.s rfl) rfl rfl rfl (hI.put0 (hI.wf.s rfl) rfl rfl) (hX.upI rfl) (fun g283 e283 hI hX => ?_)
            refine ev_ic f_X12_fails (nx := 33) (v := 0) rfl (by decide) rfl ?_
            refine ev_retK1 f_X12_fails rfl rfl rfl ?_
            refine ev_retK1 f_X12_number rfl rfl rfl ?_
            refine ev_t f_X12_once (t1 := 108) (t2 := 79) rfl rfl rfl (by decide) ?_
            refine ev_ic f_X12_once (nx := 109) (v := 0) rfl (by decide) rfl ?_
            refine ev_retK1 f_X12_once rfl rfl rfl ?_
            refine ev_loc f_X12_riverPart (nx := 78) (lo' := [(1, .int 0), (2, .int w4), (0, .ref 69)]) rfl rfl rfl rfl ?_
            refine ev_jmp f_X12_riverPart (nx := 87) rfl rfl rfl ?_
            refine ev_loc f_X12_riverPart (nx := 88) rfl rfl rfl rfl ?_
            refine ev_t f_X12_riverPart (t1 := 104) (t2 := 91) rfl rfl rfl (by decide) ?_
            refine ev_ic f_X12_riverPart (nx := 105) (v := 0) rfl (by decide) rfl ?_
            exact ev_ret f_X12_riverPart rfl rfl rfl ⟨_, _, _, rfl, hI, hX, ⟨_, rfl, (by decide : (0:Int) ≤ (0:Int32).toInt), (Int.le_trans (by decide : (0:Int32).toInt ≤ (0:Int)) (by decide : (0:Int) ≤ 1)), (show (gi 69 14).toInt ≤ (g283 69 14).toInt ∧ (0 = 1 → (g283 69 12).toInt ≠ 0 → (gi 69 14).toInt < (g283 69 14).toInt) ∧ (1 ≤ (gi 70 1404).toInt → 1 ≤ (g283 70 1404).toInt) from (by have ff284 : (g283 69 14).toInt = (gi159 69 14).toInt := congrArg Int32.toInt ((by rw [e283]; exact x_up2_off (Or.inr (by decide)) : g283 69 14 = g281 69 14).trans ((by rw [e281]; exact x_up2_off (Or.inr (by decide)) : g281 69 14 = gi159 69 14).trans rfl)); have ff285 : (g283 69 12).toInt = (gi159 69 12).toInt := congrArg Int32.toInt ((by rw [e283]; exact x_up2_off (Or.inr (by decide)) : g283 69 12 = g281 69 12).trans ((by rw [e281]; exact x_up2_off (Or.inr (by decide)) : g281 69 12 = gi159 69 12).trans rfl)); have ff286 : (g283 70 1404).toInt = (gi 70 1404).toInt := congrArg Int32.toInt ((by rw [e283]; exact x_up2_off (Or.inr (by decide)) : g283 70 1404 = g281 70 1404).trans ((by rw [e281]; exact x_up2_off (Or.inr (by decide)) : g281 70 1404 = gi159 70 1404).trans ((hC159.1 70 1404 rfl).1.trans ((by rw [e158]; exact x_up2_off (Or.inr (by decide)) : g158 70 1404 = gi4 70 1404).trans ((hC4.1 70 1404 rfl).1.trans rfl))))); omega))⟩⟩
          · have r287 : (gi159 69 12).toInt ≠ 1 := fun e => h278 (Int32.toInt_inj.mp (e.trans (by decide : (1:Int) = (1 : Int32).toInt)))
            refine ev_loc f_X12_fails (nx := 21) rfl rfl rfl rfl ?_
            refine ev_putIT f_X12_fails (nx := 24) rfl (hI.wf.s rfl) rfl rfl rfl (hI.put0 (hI.wf.s rfl) rfl rfl) (hX.upI rfl) (fun g288 e288 hI hX => ?_)
            refine ev_loc f_X12_fails (nx := 25) rfl rfl rfl rfl ?_
            refine ev_loc f_X12_fails (nx := 26) rfl rfl rfl rfl ?_
            refine ev_getI f_X12_fails (nx := 29) rfl (hI.wf.s rfl) rfl rfl rfl ?_
            obtain ⟨l289, u289⟩ := hI.b (hI.wf.s (k := 69) rfl) (t_bdK rfl : t_bd 11 13 = some (0, 900))
            refine ev_putIT f_X12_fails (nx := 32) rfl (hI.wf.s rfl) rfl rfl rfl (hI.put0 (hI.wf.s rfl) rfl rfl) (hX.upI rfl) (fun g290 e290 hI hX => ?_)
            refine ev_ic f_X12_fails (nx := 33) (v := 0) rfl (by decide) rfl ?_
            refine ev_retK1 f_X12_fails rfl rfl rfl ?_
            refine ev_retK1 f_X12_number rfl rfl rfl ?_
            refine ev_t f_X12_once (t1 := 108) (t2 := 79) rfl rfl rfl (by decide) ?_
            refine ev_ic f_X12_once (nx := 109) (v := 0) rfl (by decide) rfl ?_
            refine ev_retK1 f_X12_once rfl rfl rfl ?_
            refine ev_loc f_X12_riverPart (nx := 78) (lo' := [(1, .int 0), (2, .int w4), (0, .ref 69)]) rfl rfl rfl rfl ?_
            refine ev_jmp f_X12_riverPart (nx := 87) rfl rfl rfl ?_
            refine ev_loc f_X12_riverPart (nx := 88) rfl rfl rfl rfl ?_
            refine ev_t f_X12_riverPart (t1 := 104) (t2 := 91) rfl rfl rfl (by decide) ?_
            refine ev_ic f_X12_riverPart (nx := 105) (v := 0) rfl (by decide) rfl ?_
            exact ev_ret f_X12_riverPart rfl rfl rfl ⟨_, _, _, rfl, hI, hX, ⟨_, rfl, (by decide : (0:Int) ≤ (0:Int32).toInt), (Int.le_trans (by decide : (0:Int32).toInt ≤ (0:Int)) (by decide : (0:Int) ≤ 1)), (show (gi 69 14).toInt ≤ (g290 69 14).toInt ∧ (0 = 1 → (g290 69 12).toInt ≠ 0 → (gi 69 14).toInt < (g290 69 14).toInt) ∧ (1 ≤ (gi 70 1404).toInt → 1 ≤ (g290 70 1404).toInt) from (by have ff291 : (g290 69 14).toInt = (gi159 69 14).toInt := congrArg Int32.toInt ((by rw [e290]; exact x_up2_off (Or.inr (by decide)) : g290 69 14 = g288 69 14).trans ((by rw [e288]; exact x_up2_off (Or.inr (by decide)) : g288 69 14 = gi159 69 14).trans rfl)); have ff292 : (g290 69 12).toInt = (gi159 69 12).toInt := congrArg Int32.toInt ((by rw [e290]; exact x_up2_off (Or.inr (by decide)) : g290 69 12 = g288 69 12).trans ((by rw [e288]; exact x_up2_off (Or.inr (by decide)) : g288 69 12 = gi159 69 12).trans rfl)); have ff293 : (g290 70 1404).toInt = (gi 70 1404).toInt := congrArg Int32.toInt ((by rw [e290]; exact x_up2_off (Or.inr (by decide)) : g290 70 1404 = g288 70 1404).trans ((by rw [e288]; exact x_up2_off (Or.inr (by decide)) : g288 70 1404 = gi159 70 1404).trans ((hC159.1 70 1404 rfl).1.trans ((by rw [e158]; exact x_up2_off (Or.inr (by decide)) : g158 70 1404 = gi4 70 1404).trans ((hC4.1 70 1404 rfl).1.trans rfl))))); omega))⟩⟩
        · have r294 : (gi159 69 18).toInt ≠ 0 := fun e => h275 (Int32.toInt_inj.mp (e.trans (by decide : (0:Int) = (0 : Int32).toInt)))
          refine ev_ic f_X12_fails (nx := 33) (v := 0) rfl (by decide) rfl ?_
          refine ev_retK1 f_X12_fails rfl rfl rfl ?_
          refine ev_retK1 f_X12_number rfl rfl rfl ?_
          refine ev_t f_X12_once (t1 := 108) (t2 := 79) rfl rfl rfl (by decide) ?_
          refine ev_ic f_X12_once (nx := 109) (v := 0) rfl (by decide) rfl ?_
          refine ev_retK1 f_X12_once rfl rfl rfl ?_
          refine ev_loc f_X12_riverPart (nx := 78) (lo' := [(1, .int 0), (2, .int w4), (0, .ref 69)]) rfl rfl rfl rfl ?_
          refine ev_jmp f_X12_riverPart (nx := 87) rfl rfl rfl ?_
          refine ev_loc f_X12_riverPart (nx := 88) rfl rfl rfl rfl ?_
          refine ev_t f_X12_riverPart (t1 := 104) (t2 := 91) rfl rfl rfl (by decide) ?_
          refine ev_ic f_X12_riverPart (nx := 105) (v := 0) rfl (by decide) rfl ?_
          exact ev_ret f_X12_riverPart rfl rfl rfl ⟨_, _, _, rfl, hI, hX, ⟨_, rfl, (by decide : (0:Int) ≤ (0:Int32).toInt), (Int.le_trans (by decide : (0:Int32).toInt ≤ (0:Int)) (by decide : (0:Int) ≤ 1)), (show (gi 69 14).toInt ≤ (gi159 69 14).toInt ∧ (0 = 1 → (gi159 69 12).toInt ≠ 0 → (gi 69 14).toInt < (gi159 69 14).toInt) ∧ (1 ≤ (gi 70 1404).toInt → 1 ≤ (gi159 70 1404).toInt) from (by have ff295 : (gi159 70 1404).toInt = (gi 70 1404).toInt := congrArg Int32.toInt ((hC159.1 70 1404 rfl).1.trans ((by rw [e158]; exact x_up2_off (Or.inr (by decide)) : g158 70 1404 = gi4 70 1404).trans ((hC4.1 70 1404 rfl).1.trans rfl))); omega))⟩⟩
  · refine ev_swt f_X12_riverPart (nx := 72) (c := 3) rfl h5 rfl ?_
    refine ev_loc f_X12_riverPart (nx := 73) rfl rfl rfl rfl ?_
    refine ev_loc f_X12_riverPart (nx := 74) rfl rfl rfl rfl ?_
    refine ev_inV2 f_X12_riverPart (nx := 77) (lo2 := [(0, .ref 69), (1, .int w4)]) rfl rfl rfl rfl f_X12_once (hI.wf.s rfl) rfl rfl rfl rfl rfl ?_
    refine ev_loc f_X12_once (nx := 1) rfl rfl rfl rfl ?_
    refine ev_getI f_X12_once (nx := 4) rfl (hI.wf.s rfl) rfl rfl rfl ?_
    refine ev_loc f_X12_once (nx := 5) rfl rfl rfl rfl ?_
    refine ev_anyI f_X12_once (nx := 6) rfl rfl rfl rfl (fun z296 => ?_)
    refine ev_ic f_X12_once (nx := 7) (v := 1) rfl (by decide) rfl ?_
    refine ev_andE f_X12_once (nx := 8) (c := 1) rfl (by decide) (by decide) rfl (fun z297 e297 l297 u297 => ?_)
    refine ev_ic f_X12_once (nx := 9) (v := 1) rfl (by decide) rfl ?_
    refine ev_if f_X12_once (t1 := 12) (t2 := 18) rfl rfl rfl (fun h298 => ?_) (fun h298 => ?_)
    · have l299 : 1 ≤ z297.toInt := t_eql h298 (by decide : (1:Int) ≤ (1:Int32).toInt)
      refine ev_loc f_X12_once (nx := 13) rfl rfl rfl rfl ?_
      refine ev_ic f_X12_once (nx := 14) (v := 5) rfl (by decide) rfl ?_
      refine ev_inV2 f_X12_once (nx := 17) (lo2 := [(0, .ref 69), (1, .int 5)]) rfl rfl rfl rfl f_X12_fails (hI.wf.s rfl) rfl rfl rfl rfl rfl ?_
      refine ev_loc f_X12_fails (nx := 1) rfl rfl rfl rfl ?_
      refine ev_getI f_X12_fails (nx := 4) rfl (hI.wf.s rfl) rfl rfl rfl ?_
      refine ev_if f_X12_fails (t1 := 7) (t2 := 32) rfl rfl rfl (fun h300 => ?_) (fun h300 => ?_)
      · have u301 : (gi4 69 18).toInt ≤ 0 := t_equ h300 (by decide : (0:Int32).toInt ≤ (0:Int))
        have l302 : 0 ≤ (gi4 69 18).toInt := t_eql h300 (by decide : (0:Int) ≤ (0:Int32).toInt)
        refine ev_loc f_X12_fails (nx := 8) rfl rfl rfl rfl ?_
        refine ev_loc f_X12_fails (nx := 9) rfl rfl rfl rfl ?_
        refine ev_gvI f_X12_fails (nx := 12) (w := (gi 69 12)) rfl (hI.wf.s rfl) rfl rfl ((hC4.1 69 12 rfl).1.trans rfl) rfl ?_
        refine ev_ic f_X12_fails (nx := 13) (v := 1) rfl (by decide) rfl ?_
        refine ev_if f_X12_fails (t1 := 16) (t2 := 20) rfl rfl rfl (fun h303 => ?_) (fun h303 => ?_)
        · have u304 : (gi 69 12).toInt ≤ 1 := t_equ h303 (by decide : (1:Int32).toInt ≤ (1:Int))
          have l305 : 1 ≤ (gi 69 12).toInt := t_eql h303 (by decide : (1:Int) ≤ (1:Int32).toInt)
          refine ev_ic f_X12_fails (nx := 17) (v := 1) rfl (by decide) rfl ?_
          refine ev_jmp f_X12_fails (nx := 21) rfl rfl rfl ?_
          refine ev_putIT f_X12_fails (nx := 24) rfl (hI.wf.s rfl) rfl rfl rfl (hI.put0 (hI.wf.s rfl) rfl rfl) (hX.upI rfl) (fun g306 e306 hI hX => ?_)
          refine ev_loc f_X12_fails (nx := 25) rfl rfl rfl rfl ?_
          refine ev_loc f_X12_fails (nx := 26) rfl rfl rfl rfl ?_
          refine ev_getI f_X12_fails (nx := 29) rfl (hI.wf.s rfl) rfl rfl rfl ?_
          obtain ⟨l307, u307⟩ := hI.b (hI.wf.s (k := 69) rfl) (t_bdK rfl : t_bd 11 13 = some (0, 900))
          refine ev_putIT f_X12_fails (nx := 32) rfl (hI.wf.s rfl) rfl rfl rfl (hI.put0 (hI.wf.s rfl) rfl rfl) (hX.upI rfl) (fun g308 e308 hI hX => ?_)
          refine ev_ic f_X12_fails (nx := 33) (v := 0) rfl (by decide) rfl ?_
          refine ev_retK1 f_X12_fails rfl rfl rfl ?_
          refine ev_retK1 f_X12_once rfl rfl rfl ?_
          refine ev_loc f_X12_riverPart (nx := 78) (lo' := [(1, .int 0), (2, .int w4), (0, .ref 69)]) rfl rfl rfl rfl ?_
          refine ev_jmp f_X12_riverPart (nx := 87) rfl rfl rfl ?_
          refine ev_loc f_X12_riverPart (nx := 88) rfl rfl rfl rfl ?_
          refine ev_t f_X12_riverPart (t1 := 104) (t2 := 91) rfl rfl rfl (by decide) ?_
          refine ev_ic f_X12_riverPart (nx := 105) (v := 0) rfl (by decide) rfl ?_
          exact ev_ret f_X12_riverPart rfl rfl rfl ⟨_, _, _, rfl, hI, hX, ⟨_, rfl, (by decide : (0:Int) ≤ (0:Int32).toInt), (Int.le_trans (by decide : (0:Int32).toInt ≤ (0:Int)) (by decide : (0:Int) ≤ 1)), (show (gi 69 14).toInt ≤ (g308 69 14).toInt ∧ (0 = 1 → (g308 69 12).toInt ≠ 0 → (gi 69 14).toInt < (g308 69 14).toInt) ∧ (1 ≤ (gi 70 1404).toInt → 1 ≤ (g308 70 1404).toInt) from (by have ff309 : (g308 69 14).toInt = (gi 69 14).toInt := congrArg Int32.toInt ((by rw [e308]; exact x_up2_off (Or.inr (by decide)) : g308 69 14 = g306 69 14).trans ((by rw [e306]; exact x_up2_off (Or.inr (by decide)) : g306 69 14 = gi4 69 14).trans ((hC4.1 69 14 rfl).1.trans rfl))); have ff310 : (g308 69 12).toInt = (gi 69 12).toInt := congrArg Int32.toInt ((by rw [e308]; exact x_up2_off (Or.inr (by decide)) : g308 69 12 = g306 69 12).trans ((by rw [e306]; exact x_up2_off (Or.inr (by decide)) : g306 69 12 = gi4 69 12).trans ((hC4.1 69 12 rfl).1.trans rfl))); have ff311 : (g308 70 1404).toInt = (gi 70 1404).toInt := congrArg Int32.toInt ((by rw [e308]; exact x_up2_off (Or.inr (by decide)) : g308 70 1404 = g306 70 1404).trans ((by rw [e306]; exact x_up2_off (Or.inr (by decide)) : g306 70 1404 = gi4 70 1404).trans ((hC4.1 70 1404 rfl).1.trans rfl))); omega))⟩⟩
        · have r312 : (gi 69 12).toInt ≠ 1 := fun e => h303 (Int32.toInt_inj.mp (e.trans (by decide : (1:Int) = (1 : Int32).toInt)))
          refine ev_loc f_X12_fails (nx := 21) rfl rfl rfl rfl ?_
          refine ev_putIT f_X12_fails (nx := 24) rfl (hI.wf.s rfl) rfl rfl rfl (hI.put0 (hI.wf.s rfl) rfl rfl) (hX.upI rfl) (fun g313 e313 hI hX => ?_)
          refine ev_loc f_X12_fails (nx := 25) rfl rfl rfl rfl ?_
          refine ev_loc f_X12_fails (nx := 26) rfl rfl rfl rfl ?_
          refine ev_getI f_X12_fails (nx := 29) rfl (hI.wf.s rfl) rfl rfl rfl ?_
          obtain ⟨l314, u314⟩ := hI.b (hI.wf.s (k := 69) rfl) (t_bdK rfl : t_bd 11 13 = some (0, 900))
          refine ev_putIT f_X12_fails (nx := 32) rfl (hI.wf.s rfl) rfl rfl rfl (hI.put0 (hI.wf.s rfl) rfl rfl) (hX.upI rfl) (fun g315 e315 hI hX => ?_)
          refine ev_ic f_X12_fails (nx := 33) (v := 0) rfl (by decide) rfl ?_
          refine ev_retK1 f_X12_fails rfl rfl rfl ?_
          refine ev_retK1 f_X12_once rfl rfl rfl ?_
          refine ev_loc f_X12_riverPart (nx := 78) (lo' := [(1, .int 0), (2, .int w4), (0, .ref 69)]) rfl rfl rfl rfl ?_
          refine ev_jmp f_X12_riverPart (nx := 87) rfl rfl rfl ?_
          refine ev_loc f_X12_riverPart (nx := 88) rfl rfl rfl rfl ?_
          refine ev_t f_X12_riverPart (t1 := 104) (t2 := 91) rfl rfl rfl (by decide) ?_
          refine ev_ic f_X12_riverPart (nx := 105) (v := 0) rfl (by decide) rfl ?_
          exact ev_ret f_X12_riverPart rfl rfl rfl ⟨_, _, _, rfl, hI, hX, ⟨_, rfl, (by decide : (0:Int) ≤ (0:Int32).toInt), (Int.le_trans (by decide : (0:Int32).toInt ≤ (0:Int)) (by decide : (0:Int) ≤ 1)), (show (gi 69 14).toInt ≤ (g315 69 14).toInt ∧ (0 = 1 → (g315 69 12).toInt ≠ 0 → (gi 69 14).toInt < (g315 69 14).toInt) ∧ (1 ≤ (gi 70 1404).toInt → 1 ≤ (g315 70 1404).toInt) from (by have ff316 : (g315 69 14).toInt = (gi 69 14).toInt := congrArg Int32.toInt ((by rw [e315]; exact x_up2_off (Or.inr (by decide)) : g315 69 14 = g313 69 14).trans ((by rw [e313]; exact x_up2_off (Or.inr (by decide)) : g313 69 14 = gi4 69 14).trans ((hC4.1 69 14 rfl).1.trans rfl))); have ff317 : (g315 69 12).toInt = (gi 69 12).toInt := congrArg Int32.toInt ((by rw [e315]; exact x_up2_off (Or.inr (by decide)) : g315 69 12 = g313 69 12).trans ((by rw [e313]; exact x_up2_off (Or.inr (by decide)) : g313 69 12 = gi4 69 12).trans ((hC4.1 69 12 rfl).1.trans rfl))); have ff318 : (g315 70 1404).toInt = (gi 70 1404).toInt := congrArg Int32.toInt ((by rw [e315]; exact x_up2_off (Or.inr (by decide)) : g315 70 1404 = g313 70 1404).trans ((by rw [e313]; exact x_up2_off (Or.inr (by decide)) : g313 70 1404 = gi4 70 1404).trans ((hC4.1 70 1404 rfl).1.trans rfl))); omega))⟩⟩
      · have r319 : (gi4 69 18).toInt ≠ 0 := fun e => h300 (Int32.toInt_inj.mp (e.trans (by decide : (0:Int) = (0 : Int32).toInt)))
        refine ev_ic f_X12_fails (nx := 33) (v := 0) rfl (by decide) rfl ?_
        refine ev_retK1 f_X12_fails rfl rfl rfl ?_
        refine ev_retK1 f_X12_once rfl rfl rfl ?_
        refine ev_loc f_X12_riverPart (nx := 78) (lo' := [(1, .int 0), (2, .int w4), (0, .ref 69)]) rfl rfl rfl rfl ?_
        refine ev_jmp f_X12_riverPart (nx := 87) rfl rfl rfl ?_
        refine ev_loc f_X12_riverPart (nx := 88) rfl rfl rfl rfl ?_
        refine ev_t f_X12_riverPart (t1 := 104) (t2 := 91) rfl rfl rfl (by decide) ?_
        refine ev_ic f_X12_riverPart (nx := 105) (v := 0) rfl (by decide) rfl ?_
        exact ev_ret f_X12_riverPart rfl rfl rfl ⟨_, _, _, rfl, hI, hX, ⟨_, rfl, (by decide : (0:Int) ≤ (0:Int32).toInt), (Int.le_trans (by decide : (0:Int32).toInt ≤ (0:Int)) (by decide : (0:Int) ≤ 1)), (show (gi 69 14).toInt ≤ (gi4 69 14).toInt ∧ (0 = 1 → (gi4 69 12).toInt ≠ 0 → (gi 69 14).toInt < (gi4 69 14).toInt) ∧ (1 ≤ (gi 70 1404).toInt → 1 ≤ (gi4 70 1404).toInt) from (by have ff320 : (gi4 69 14).toInt = (gi 69 14).toInt := congrArg Int32.toInt ((hC4.1 69 14 rfl).1.trans rfl); have ff321 : (gi4 69 12).toInt = (gi 69 12).toInt := congrArg Int32.toInt ((hC4.1 69 12 rfl).1.trans rfl); have ff322 : (gi4 70 1404).toInt = (gi 70 1404).toInt := congrArg Int32.toInt ((hC4.1 70 1404 rfl).1.trans rfl); omega))⟩⟩
    · have r323 : z297.toInt ≠ 1 := fun e => h298 (Int32.toInt_inj.mp (e.trans (by decide : (1:Int) = (1 : Int32).toInt)))
      have u324 : z297.toInt ≤ 0 := t_neu h298 u297 rfl rfl
      refine ev_loc f_X12_once (nx := 19) rfl rfl rfl rfl ?_
      refine ev_alu f_X12_once (nx := 20) rfl rfl rfl rfl ?_
      refine ev_gvI f_X12_once (nx := 23) (w := (gi4 69 20)) rfl (hI.wf.s rfl) rfl rfl rfl rfl ?_
      refine ev_ic f_X12_once (nx := 24) (v := 1) rfl (by decide) rfl ?_
      refine ev_loc f_X12_once (nx := 25) rfl rfl rfl rfl ?_
      refine ev_shl1 f_X12_once (nx := 26) rfl (Int.le_of_eq h5.symm) (Int.le_of_eq h5) (by decide) (by decide) rfl (fun z325 l325 u325 => ?_)
      refine ev_anyI f_X12_once (nx := 27) rfl rfl rfl rfl (fun z326 => ?_)
      refine ev_putIT f_X12_once (nx := 30) rfl (hI.wf.s rfl) rfl rfl rfl (hI.put0 (hI.wf.s rfl) rfl rfl) (hX.upI rfl) (fun g327 e327 hI hX => ?_)
      refine ev_loc f_X12_once (nx := 31) rfl rfl rfl rfl ?_
      refine ev_qN f_X12_once (nx := 34) (r := []) rfl rfl rfl rfl rfl rfl rfl (c_m_ahead hI ) rfl hX rfl (fun gi328 gl328 gr328 hI hX hC328 q328 => ?_)
      have ff329 : (g327 69 14).toInt = (gi 69 14).toInt := congrArg Int32.toInt ((by rw [e327]; exact x_up2_off (Or.inr (by decide)) : g327 69 14 = gi4 69 14).trans ((hC4.1 69 14 rfl).1.trans rfl))
      have q328 : (g327 69 14).toInt ≤ (gi328 69 14).toInt ∧ ((gi328 69 12).toInt ≠ 0 → (g327 69 14).toInt < (gi328 69 14).toInt) := q328
      obtain ⟨l330, u330⟩ := hI.b (hI.wf.s (k := 69) rfl) (t_bdK rfl : t_bd 11 12 = some (0, 4))
      obtain ⟨l331, u331⟩ := hI.b (hI.wf.s (k := 69) rfl) (t_bdK rfl : t_bd 11 14 = some (0, 900))
      refine ev_loc f_X12_once (nx := 35) rfl rfl rfl rfl ?_
      refine ev_ic f_X12_once (nx := 36) (v := 1) rfl (by decide) rfl ?_
      refine ev_f f_X12_once (t1 := 39) (t2 := 50) rfl rfl rfl (t_neT' (by decide : (1:Int32).toInt ≤ (1:Int)) (Int.le_of_eq h5.symm) (by decide)) ?_
      refine ev_loc f_X12_once (nx := 51) rfl rfl rfl rfl ?_
      refine ev_ic f_X12_once (nx := 52) (v := 3) rfl (by decide) rfl ?_
      refine ev_t f_X12_once (t1 := 55) (t2 := 66) rfl rfl rfl (t_eqT (Int.le_of_eq h5) (Int.le_of_eq h5.symm) (by decide : (3:Int32).toInt ≤ (3:Int)) (by decide : (3:Int) ≤ (3:Int32).toInt)) ?_
      refine ev_loc f_X12_once (nx := 56) rfl rfl rfl rfl ?_
      refine ev_sp f_X12_once (nx := 59) (v := 1407) rfl (by decide) rfl ?_
      refine ev_ic f_X12_once (nx := 60) (v := 0) rfl (by decide) rfl ?_
      refine ev_bp f_X12_once (nx := 62) (v := 9) rfl (by decide) rfl ?_
      refine ev_inV4 f_X12_once (nx := 65) (lo2 := [(0, .ref 69), (1, .int 1407), (2, .int 0), (3, .int 9)]) rfl rfl rfl rfl f_X12_number (hI.wf.s rfl) rfl rfl rfl rfl rfl ?_
      refine ev_loc f_X12_number (nx := 1) rfl rfl rfl rfl ?_
      refine ev_gvI f_X12_number (nx := 4) (w := (gi328 69 12)) rfl (hI.wf.s rfl) rfl rfl rfl rfl ?_
      refine ev_ic f_X12_number (nx := 5) (v := 3) rfl (by decide) rfl ?_
      refine ev_if f_X12_number (t1 := 14) (t2 := 8) rfl rfl rfl (fun h332 => ?_) (fun h332 => ?_)
      · have u333 : (gi328 69 12).toInt ≤ 3 := t_equ h332 (by decide : (3:Int32).toInt ≤ (3:Int))
        have l334 : 3 ≤ (gi328 69 12).toInt := t_eql h332 (by decide : (3:Int) ≤ (3:Int32).toInt)
        refine ev_loc f_X12_number (nx := 15) rfl rfl rfl rfl ?_
        refine ev_getI f_X12_number (nx := 18) rfl (hI.wf.s rfl) rfl rfl rfl ?_
        refine ev_loc f_X12_number (nx := 19) rfl rfl rfl rfl ?_
        refine ev_if f_X12_number (t1 := 30) (t2 := 22) rfl rfl rfl (fun h335 => ?_) (fun h335 => ?_)
        · have u336 : (gi328 69 15).toInt ≤ (-1) := t_ltu h335 (by decide : (0:Int32).toInt ≤ (0:Int)) rfl
          refine ev_loc f_X12_number (nx := 31) rfl rfl rfl rfl ?_
          refine ev_ic f_X12_number (nx := 32) (v := 4) rfl (by decide) rfl ?_
          refine ev_inV2 f_X12_number (nx := 35) (lo2 := [(0, .ref 69), (1, .int 4)]) rfl rfl rfl rfl f_X12_fails (hI.wf.s rfl) rfl rfl rfl rfl rfl ?_
          refine ev_loc f_X12_fails (nx := 1) rfl rfl rfl rfl ?_
          refine ev_getI f_X12_fails (nx := 4) rfl (hI.wf.s rfl) rfl rfl rfl ?_
          refine ev_if f_X12_fails (t1 := 7) (t2 := 32) rfl rfl rfl (fun h337 => ?_) (fun h337 => ?_)
          · have u338 : (gi328 69 18).toInt ≤ 0 := t_equ h337 (by decide : (0:Int32).toInt ≤ (0:Int))
            have l339 : 0 ≤ (gi328 69 18).toInt := t_eql h337 (by decide : (0:Int) ≤ (0:Int32).toInt)
            refine ev_loc f_X12_fails (nx := 8) rfl rfl rfl rfl ?_
            refine ev_loc f_X12_fails (nx := 9) rfl rfl rfl rfl ?_
            refine ev_gvI f_X12_fails (nx := 12) (w := (gi328 69 12)) rfl (hI.wf.s rfl) rfl rfl rfl rfl ?_
            refine ev_ic f_X12_fails (nx := 13) (v := 1) rfl (by decide) rfl ?_
            refine ev_f f_X12_fails (t1 := 16) (t2 := 20) rfl rfl rfl (t_neT' (by decide : (1:Int32).toInt ≤ (1:Int)) l334 (by decide)) ?_
            refine ev_loc f_X12_fails (nx := 21) rfl rfl rfl rfl ?_
            refine ev_putIT f_X12_fails (nx := 24) rfl (hI.wf.s rfl) rfl rfl rfl (hI.put0 (hI.wf.s rfl) rfl rfl) (hX.upI rfl) (fun g340 e340 hI hX => ?_)
            refine ev_loc f_X12_fails (nx := 25) rfl rfl rfl rfl ?_
            refine ev_loc f_X12_fails (nx := 26) rfl rfl rfl rfl ?_
            refine ev_getI f_X12_fails (nx := 29) rfl (hI.wf.s rfl) rfl rfl rfl ?_
            obtain ⟨l341, u341⟩ := hI.b (hI.wf.s (k := 69) rfl) (t_bdK rfl : t_bd 11 13 = some (0, 900))
            refine ev_putIT f_X12_fails (nx := 32) rfl (hI.wf.s rfl) rfl rfl rfl (hI.put0 (hI.wf.s rfl) rfl rfl) (hX.upI rfl) (fun g342 e342 hI hX => ?_)
            refine ev_ic f_X12_fails (nx := 33) (v := 0) rfl (by decide) rfl ?_
            refine ev_retK1 f_X12_fails rfl rfl rfl ?_
            refine ev_retK1 f_X12_number rfl rfl rfl ?_
            refine ev_retK1 f_X12_once rfl rfl rfl ?_
            refine ev_loc f_X12_riverPart (nx := 78) (lo' := [(1, .int 0), (2, .int w4), (0, .ref 69)]) rfl rfl rfl rfl ?_
            refine ev_jmp f_X12_riverPart (nx := 87) rfl rfl rfl ?_
            refine ev_loc f_X12_riverPart (nx := 88) rfl rfl rfl rfl ?_
            refine ev_t f_X12_riverPart (t1 := 104) (t2 := 91) rfl rfl rfl (by decide) ?_
            refine ev_ic f_X12_riverPart (nx := 105) (v := 0) rfl (by decide) rfl ?_
            exact ev_ret f_X12_riverPart rfl rfl rfl ⟨_, _, _, rfl, hI, hX, ⟨_, rfl, (by decide : (0:Int) ≤ (0:Int32).toInt), (Int.le_trans (by decide : (0:Int32).toInt ≤ (0:Int)) (by decide : (0:Int) ≤ 1)), (show (gi 69 14).toInt ≤ (g342 69 14).toInt ∧ (0 = 1 → (g342 69 12).toInt ≠ 0 → (gi 69 14).toInt < (g342 69 14).toInt) ∧ (1 ≤ (gi 70 1404).toInt → 1 ≤ (g342 70 1404).toInt) from (by have ff343 : (g342 69 14).toInt = (gi328 69 14).toInt := congrArg Int32.toInt ((by rw [e342]; exact x_up2_off (Or.inr (by decide)) : g342 69 14 = g340 69 14).trans ((by rw [e340]; exact x_up2_off (Or.inr (by decide)) : g340 69 14 = gi328 69 14).trans rfl)); have ff344 : (g342 69 12).toInt = (gi328 69 12).toInt := congrArg Int32.toInt ((by rw [e342]; exact x_up2_off (Or.inr (by decide)) : g342 69 12 = g340 69 12).trans ((by rw [e340]; exact x_up2_off (Or.inr (by decide)) : g340 69 12 = gi328 69 12).trans rfl)); have ff345 : (g342 70 1404).toInt = (gi 70 1404).toInt := congrArg Int32.toInt ((by rw [e342]; exact x_up2_off (Or.inr (by decide)) : g342 70 1404 = g340 70 1404).trans ((by rw [e340]; exact x_up2_off (Or.inr (by decide)) : g340 70 1404 = gi328 70 1404).trans ((hC328.1 70 1404 rfl).1.trans ((by rw [e327]; exact x_up2_off (Or.inr (by decide)) : g327 70 1404 = gi4 70 1404).trans ((hC4.1 70 1404 rfl).1.trans rfl))))); omega))⟩⟩
          · have r346 : (gi328 69 18).toInt ≠ 0 := fun e => h337 (Int32.toInt_inj.mp (e.trans (by decide : (0:Int) = (0 : Int32).toInt)))
            refine ev_ic f_X12_fails (nx := 33) (v := 0) rfl (by decide) rfl ?_
            refine ev_retK1 f_X12_fails rfl rfl rfl ?_
            refine ev_retK1 f_X12_number rfl rfl rfl ?_
            refine ev_retK1 f_X12_once rfl rfl rfl ?_
            refine ev_loc f_X12_riverPart (nx := 78) (lo' := [(1, .int 0), (2, .int w4), (0, .ref 69)]) rfl rfl rfl rfl ?_
            refine ev_jmp f_X12_riverPart (nx := 87) rfl rfl rfl ?_
            refine ev_loc f_X12_riverPart (nx := 88) rfl rfl rfl rfl ?_
            refine ev_t f_X12_riverPart (t1 := 104) (t2 := 91) rfl rfl rfl (by decide) ?_
            refine ev_ic f_X12_riverPart (nx := 105) (v := 0) rfl (by decide) rfl ?_
            exact ev_ret f_X12_riverPart rfl rfl rfl ⟨_, _, _, rfl, hI, hX, ⟨_, rfl, (by decide : (0:Int) ≤ (0:Int32).toInt), (Int.le_trans (by decide : (0:Int32).toInt ≤ (0:Int)) (by decide : (0:Int) ≤ 1)), (show (gi 69 14).toInt ≤ (gi328 69 14).toInt ∧ (0 = 1 → (gi328 69 12).toInt ≠ 0 → (gi 69 14).toInt < (gi328 69 14).toInt) ∧ (1 ≤ (gi 70 1404).toInt → 1 ≤ (gi328 70 1404).toInt) from (by have ff347 : (gi328 70 1404).toInt = (gi 70 1404).toInt := congrArg Int32.toInt ((hC328.1 70 1404 rfl).1.trans ((by rw [e327]; exact x_up2_off (Or.inr (by decide)) : g327 70 1404 = gi4 70 1404).trans ((hC4.1 70 1404 rfl).1.trans rfl))); omega))⟩⟩
        · have l348 : 0 ≤ (gi328 69 15).toInt := t_lel (t_nlt h335) (by decide : (0:Int) ≤ (0:Int32).toInt)
          refine ev_loc f_X12_number (nx := 23) rfl rfl rfl rfl ?_
          refine ev_gvI f_X12_number (nx := 26) (w := (gi328 69 15)) rfl (hI.wf.s rfl) rfl rfl rfl rfl ?_
          refine ev_loc f_X12_number (nx := 27) rfl rfl rfl rfl ?_
          refine ev_if f_X12_number (t1 := 36) (t2 := 30) rfl rfl rfl (fun h349 => ?_) (fun h349 => ?_)
          · have u350 : (gi328 69 15).toInt ≤ 9 := t_leu h349 (by decide : (9:Int32).toInt ≤ (9:Int))
            refine ev_loc f_X12_number (nx := 37) rfl rfl rfl rfl ?_
            refine ev_getR f_X12_number (nx := 40) rfl (hI.wf.s rfl) rfl rfl (hI.wf.r rfl) rfl rfl ?_
            refine ev_loc f_X12_number (nx := 41) rfl rfl rfl rfl ?_
            refine ev_loc f_X12_number (nx := 42) rfl rfl rfl rfl ?_
            refine ev_gvI f_X12_number (nx := 45) (w := (gi328 69 15)) rfl (hI.wf.s rfl) rfl rfl rfl rfl ?_
            refine ev_iastT f_X12_number (nx := 46) rfl (hI.wf.s rfl) (by decide : (1407:Int) ≤ (1407:Int32).toInt) (by decide) (by decide : (1407:Int32).toInt ≤ (1407:Int)) (by decide) rfl (hI.astL (hI.wf.s rfl) (by decide +kernel : t_abw 70 1407 1407 0 9 = true) (t_cl1 (by decide : (1407:Int) ≤ (1407:Int32).toInt) (by decide)) (t_cl2 (by decide : (1407:Int) ≤ (1407:Int32).toInt) (by decide : (1407:Int32).toInt ≤ (1407:Int)) (by decide) (by decide)) l348 u350 rfl) (hX.upI (t_inR (p := 1407) (m := 1407) rfl (by decide : (1407:Int) ≤ (1407:Int32).toInt) (by decide) (by decide : (1407:Int32).toInt ≤ (1407:Int)) (by decide) (by decide))) (fun g351 e351 hI hX => ?_)
            refine ev_loc f_X12_number (nx := 47) rfl rfl rfl rfl ?_
            refine ev_qN f_X12_number (nx := 50) (r := []) rfl rfl rfl rfl rfl rfl rfl (c_m_ahead hI ) rfl hX rfl (fun gi352 gl352 gr352 hI hX hC352 q352 => ?_)
            have ff353 : (g351 69 14).toInt = (gi328 69 14).toInt := congrArg Int32.toInt ((by rw [e351]; exact x_up2_off (Or.inl (by decide)) : g351 69 14 = gi328 69 14).trans rfl)
            have q352 : (g351 69 14).toInt ≤ (gi352 69 14).toInt ∧ ((gi352 69 12).toInt ≠ 0 → (g351 69 14).toInt < (gi352 69 14).toInt) := q352
            obtain ⟨l354, u354⟩ := hI.b (hI.wf.s (k := 69) rfl) (t_bdK rfl : t_bd 11 12 = some (0, 4))
            obtain ⟨l355, u355⟩ := hI.b (hI.wf.s (k := 69) rfl) (t_bdK rfl : t_bd 11 14 = some (0, 900))
            refine ev_ic f_X12_number (nx := 51) (v := 1) rfl (by decide) rfl ?_
            refine ev_retK1 f_X12_number rfl rfl rfl ?_
            refine ev_retK1 f_X12_once rfl rfl rfl ?_
            refine ev_loc f_X12_riverPart (nx := 78) (lo' := [(1, .int 1), (2, .int w4), (0, .ref 69)]) rfl rfl rfl rfl ?_
            refine ev_jmp f_X12_riverPart (nx := 87) rfl rfl rfl ?_
            refine ev_loc f_X12_riverPart (nx := 88) rfl rfl rfl rfl ?_
            refine ev_f f_X12_riverPart (t1 := 104) (t2 := 91) rfl rfl rfl (by decide) ?_
            refine ev_loc f_X12_riverPart (nx := 92) rfl rfl rfl rfl ?_
            refine ev_bp f_X12_riverPart (nx := 94) (v := 59) rfl (by decide) rfl ?_
            refine ev_qI f_X12_riverPart (nx := 97) (r := []) rfl rfl rfl rfl rfl rfl rfl (c_m_wantSign hI (59)) rfl hX rfl (fun w356 gi356 gl356 gr356 l356 u356 hI hX hC356 q356 => ?_)
            have q356 : (gi352 69 14).toInt ≤ (gi356 69 14).toInt ∧ (w356.toInt = 1 → (gi356 69 12).toInt ≠ 0 → (gi352 69 14).toInt < (gi356 69 14).toInt) := q356
            obtain ⟨l357, u357⟩ := hI.b (hI.wf.s (k := 69) rfl) (t_bdK rfl : t_bd 11 12 = some (0, 4))
            obtain ⟨l358, u358⟩ := hI.b (hI.wf.s (k := 69) rfl) (t_bdK rfl : t_bd 11 14 = some (0, 900))
            refine ev_if f_X12_riverPart (t1 := 104) (t2 := 100) rfl rfl rfl (fun h359 => ?_) (fun h359 => ?_)
            · have u360 : w356.toInt ≤ 0 := t_equ h359 (by decide : (0:Int32).toInt ≤ (0:Int))
              refine ev_ic f_X12_riverPart (nx := 105) (v := 0) rfl (by decide) rfl ?_
              exact ev_ret f_X12_riverPart rfl rfl rfl ⟨_, _, _, rfl, hI, hX, ⟨_, rfl, (by decide : (0:Int) ≤ (0:Int32).toInt), (Int.le_trans (by decide : (0:Int32).toInt ≤ (0:Int)) (by decide : (0:Int) ≤ 1)), (show (gi 69 14).toInt ≤ (gi356 69 14).toInt ∧ (0 = 1 → (gi356 69 12).toInt ≠ 0 → (gi 69 14).toInt < (gi356 69 14).toInt) ∧ (1 ≤ (gi 70 1404).toInt → 1 ≤ (gi356 70 1404).toInt) from (by have ff361 : (gi356 70 1404).toInt = (gi 70 1404).toInt := congrArg Int32.toInt ((hC356.1 70 1404 rfl).1.trans ((hC352.1 70 1404 rfl).1.trans ((by rw [e351]; exact x_up2_off (Or.inr (by decide)) : g351 70 1404 = gi328 70 1404).trans ((hC328.1 70 1404 rfl).1.trans ((by rw [e327]; exact x_up2_off (Or.inr (by decide)) : g327 70 1404 = gi4 70 1404).trans ((hC4.1 70 1404 rfl).1.trans rfl)))))); omega))⟩⟩
            · have r362 : w356.toInt ≠ 0 := fun e => h359 (Int32.toInt_inj.mp (e.trans (by decide : (0:Int) = (0 : Int32).toInt)))
              have l363 : 1 ≤ w356.toInt := t_nel h359 l356 rfl rfl
              refine ev_ic f_X12_riverPart (nx := 101) (v := 1) rfl (by decide) rfl ?_
              refine ev_jmp f_X12_riverPart (nx := 105) rfl rfl rfl ?_
              exact ev_ret f_X12_riverPart rfl rfl rfl ⟨_, _, _, rfl, hI, hX, ⟨_, rfl, (Int.le_trans (by decide : (0:Int) ≤ 1) (by decide : (1:Int) ≤ (1:Int32).toInt)), (by decide : (1:Int32).toInt ≤ (1:Int)), (show (gi 69 14).toInt ≤ (gi356 69 14).toInt ∧ (1 = 1 → (gi356 69 12).toInt ≠ 0 → (gi 69 14).toInt < (gi356 69 14).toInt) ∧ (1 ≤ (gi 70 1404).toInt → 1 ≤ (gi356 70 1404).toInt) from (by have ff364 : (gi356 70 1404).toInt = (gi 70 1404).toInt := congrArg Int32.toInt ((hC356.1 70 1404 rfl).1.trans ((hC352.1 70 1404 rfl).1.trans ((by rw [e351]; exact x_up2_off (Or.inr (by decide)) : g351 70 1404 = gi328 70 1404).trans ((hC328.1 70 1404 rfl).1.trans ((by rw [e327]; exact x_up2_off (Or.inr (by decide)) : g327 70 1404 = gi4 70 1404).trans ((hC4.1 70 1404 rfl).1.trans rfl)))))); omega))⟩⟩
          · have l365 : 10 ≤ (gi328 69 15).toInt := t_ltl (t_nle h349) (by decide : (9:Int) ≤ (9:Int32).toInt) rfl
            refine ev_loc f_X12_number (nx := 31) rfl rfl rfl rfl ?_
            refine ev_ic f_X12_number (nx := 32) (v := 4) rfl (by decide) rfl ?_
            refine ev_inV2 f_X12_number (nx := 35) (lo2 := [(0, .ref 69), (1, .int 4)]) rfl rfl rfl rfl f_X12_fails (hI.wf.s rfl) rfl rfl rfl rfl rfl ?_
            refine ev_loc f_X12_fails (nx := 1) rfl rfl rfl rfl ?_
            refine ev_getI f_X12_fails (nx := 4) rfl (hI.wf.s rfl) rfl rfl rfl ?_
            refine ev_if f_X12_fails (t1 := 7) (t2 := 32) rfl rfl rfl (fun h366 => ?_) (fun h366 => ?_)
            · have u367 : (gi328 69 18).toInt ≤ 0 := t_equ h366 (by decide : (0:Int32).toInt ≤ (0:Int))
              have l368 : 0 ≤ (gi328 69 18).toInt := t_eql h366 (by decide : (0:Int) ≤ (0:Int32).toInt)
              refine ev_loc f_X12_fails (nx := 8) rfl rfl rfl rfl ?_
              refine ev_loc f_X12_fails (nx := 9) rfl rfl rfl rfl ?_
              refine ev_gvI f_X12_fails (nx := 12) (w := (gi328 69 12)) rfl (hI.wf.s rfl) rfl rfl rfl rfl ?_
              refine ev_ic f_X12_fails (nx := 13) (v := 1) rfl (by decide) rfl ?_
              refine ev_f f_X12_fails (t1 := 16) (t2 := 20) rfl rfl rfl (t_neT' (by decide : (1:Int32).toInt ≤ (1:Int)) l334 (by decide)) ?_
              refine ev_loc f_X12_fails (nx := 21) rfl rfl rfl rfl ?_
              refine ev_putIT f_X12_fails (nx := 24) rfl (hI.wf.s rfl) rfl rfl rfl (hI.put0 (hI.wf.s rfl) rfl rfl) (hX.upI rfl) (fun g369 e369 hI hX => ?_)
              refine ev_loc f_X12_fails (nx := 25) rfl rfl rfl rfl ?_
              refine ev_loc f_X12_fails (nx := 26) rfl rfl rfl rfl ?_
              refine ev_getI f_X12_fails (nx := 29) rfl (hI.wf.s rfl) rfl rfl rfl ?_
              obtain ⟨l370, u370⟩ := hI.b (hI.wf.s (k := 69) rfl) (t_bdK rfl : t_bd 11 13 = some (0, 900))
              refine ev_putIT f_X12_fails (nx := 32) rfl (hI.wf.s rfl) rfl rfl rfl (hI.put0 (hI.wf.s rfl) rfl rfl) (hX.upI rfl) (fun g371 e371 hI hX => ?_)
              refine ev_ic f_X12_fails (nx := 33) (v := 0) rfl (by decide) rfl ?_
              refine ev_retK1 f_X12_fails rfl rfl rfl ?_
              refine ev_retK1 f_X12_number rfl rfl rfl ?_
              refine ev_retK1 f_X12_once rfl rfl rfl ?_
              refine ev_loc f_X12_riverPart (nx := 78) (lo' := [(1, .int 0), (2, .int w4), (0, .ref 69)]) rfl rfl rfl rfl ?_
              refine ev_jmp f_X12_riverPart (nx := 87) rfl rfl rfl ?_
              refine ev_loc f_X12_riverPart (nx := 88) rfl rfl rfl rfl ?_
              refine ev_t f_X12_riverPart (t1 := 104) (t2 := 91) rfl rfl rfl (by decide) ?_
              refine ev_ic f_X12_riverPart (nx := 105) (v := 0) rfl (by decide) rfl ?_
              exact ev_ret f_X12_riverPart rfl rfl rfl ⟨_, _, _, rfl, hI, hX, ⟨_, rfl, (by decide : (0:Int) ≤ (0:Int32).toInt), (Int.le_trans (by decide : (0:Int32).toInt ≤ (0:Int)) (by decide : (0:Int) ≤ 1)), (show (gi 69 14).toInt ≤ (g371 69 14).toInt ∧ (0 = 1 → (g371 69 12).toInt ≠ 0 → (gi 69 14).toInt < (g371 69 14).toInt) ∧ (1 ≤ (gi 70 1404).toInt → 1 ≤ (g371 70 1404).toInt) from (by have ff372 : (g371 69 14).toInt = (gi328 69 14).toInt := congrArg Int32.toInt ((by rw [e371]; exact x_up2_off (Or.inr (by decide)) : g371 69 14 = g369 69 14).trans ((by rw [e369]; exact x_up2_off (Or.inr (by decide)) : g369 69 14 = gi328 69 14).trans rfl)); have ff373 : (g371 69 12).toInt = (gi328 69 12).toInt := congrArg Int32.toInt ((by rw [e371]; exact x_up2_off (Or.inr (by decide)) : g371 69 12 = g369 69 12).trans ((by rw [e369]; exact x_up2_off (Or.inr (by decide)) : g369 69 12 = gi328 69 12).trans rfl)); have ff374 : (g371 70 1404).toInt = (gi 70 1404).toInt := congrArg Int32.toInt ((by rw [e371]; exact x_up2_off (Or.inr (by decide)) : g371 70 1404 = g369 70 1404).trans ((by rw [e369]; exact x_up2_off (Or.inr (by decide)) : g369 70 1404 = gi328 70 1404).trans ((hC328.1 70 1404 rfl).1.trans ((by rw [e327]; exact x_up2_off (Or.inr (by decide)) : g327 70 1404 = gi4 70 1404).trans ((hC4.1 70 1404 rfl).1.trans rfl))))); omega))⟩⟩
            · have r375 : (gi328 69 18).toInt ≠ 0 := fun e => h366 (Int32.toInt_inj.mp (e.trans (by decide : (0:Int) = (0 : Int32).toInt)))
              refine ev_ic f_X12_fails (nx := 33) (v := 0) rfl (by decide) rfl ?_
              refine ev_retK1 f_X12_fails rfl rfl rfl ?_
              refine ev_retK1 f_X12_number rfl rfl rfl ?_
              refine ev_retK1 f_X12_once rfl rfl rfl ?_
              refine ev_loc f_X12_riverPart (nx := 78) (lo' := [(1, .int 0), (2, .int w4), (0, .ref 69)]) rfl rfl rfl rfl ?_
              refine ev_jmp f_X12_riverPart (nx := 87) rfl rfl rfl ?_
              refine ev_loc f_X12_riverPart (nx := 88) rfl rfl rfl rfl ?_
              refine ev_t f_X12_riverPart (t1 := 104) (t2 := 91) rfl rfl rfl (by decide) ?_
              refine ev_ic f_X12_riverPart (nx := 105) (v := 0) rfl (by decide) rfl ?_
              exact ev_ret f_X12_riverPart rfl rfl rfl ⟨_, _, _, rfl, hI, hX, ⟨_, rfl, (by decide : (0:Int) ≤ (0:Int32).toInt), (Int.le_trans (by decide : (0:Int32).toInt ≤ (0:Int)) (by decide : (0:Int) ≤ 1)), (show (gi 69 14).toInt ≤ (gi328 69 14).toInt ∧ (0 = 1 → (gi328 69 12).toInt ≠ 0 → (gi 69 14).toInt < (gi328 69 14).toInt) ∧ (1 ≤ (gi 70 1404).toInt → 1 ≤ (gi328 70 1404).toInt) from (by have ff376 : (gi328 70 1404).toInt = (gi 70 1404).toInt := congrArg Int32.toInt ((hC328.1 70 1404 rfl).1.trans ((by rw [e327]; exact x_up2_off (Or.inr (by decide)) : g327 70 1404 = gi4 70 1404).trans ((hC4.1 70 1404 rfl).1.trans rfl))); omega))⟩⟩
      · have r377 : (gi328 69 12).toInt ≠ 3 := fun e => h332 (Int32.toInt_inj.mp (e.trans (by decide : (3:Int) = (3 : Int32).toInt)))
        refine ev_loc f_X12_number (nx := 9) rfl rfl rfl rfl ?_
        refine ev_ic f_X12_number (nx := 10) (v := 2) rfl (by decide) rfl ?_
        refine ev_inV2 f_X12_number (nx := 13) (lo2 := [(0, .ref 69), (1, .int 2)]) rfl rfl rfl rfl f_X12_fails (hI.wf.s rfl) rfl rfl rfl rfl rfl ?_
        refine ev_loc f_X12_fails (nx := 1) rfl rfl rfl rfl ?_
        refine ev_getI f_X12_fails (nx := 4) rfl (hI.wf.s rfl) rfl rfl rfl ?_
        refine ev_if f_X12_fails (t1 := 7) (t2 := 32) rfl rfl rfl (fun h378 => ?_) (fun h378 => ?_)
        · have u379 : (gi328 69 18).toInt ≤ 0 := t_equ h378 (by decide : (0:Int32).toInt ≤ (0:Int))
          have l380 : 0 ≤ (gi328 69 18).toInt := t_eql h378 (by decide : (0:Int) ≤ (0:Int32).toInt)
          refine ev_loc f_X12_fails (nx := 8) rfl rfl rfl rfl ?_
          refine ev_loc f_X12_fails (nx := 9) rfl rfl rfl rfl ?_
          refine ev_gvI f_X12_fails (nx := 12) (w := (gi328 69 12)) rfl (hI.wf.s rfl) rfl rfl rfl rfl ?_
          refine ev_ic f_X12_fails (nx := 13) (v := 1) rfl (by decide) rfl ?_
          refine ev_if f_X12_fails (t1 := 16) (t2 := 20) rfl rfl rfl (fun h381 => ?_) (fun h381 => ?_)
          · have u382 : (gi328 69 12).toInt ≤ 1 := t_equ h381 (by decide : (1:Int32).toInt ≤ (1:Int))
            have l383 : 1 ≤ (gi328 69 12).toInt := t_eql h381 (by decide : (1:Int) ≤ (1:Int32).toInt)
            refine ev_ic f_X12_fails (nx := 17) (v := 1) rfl (by decide) rfl ?_
            refine ev_jmp f_X12_fails (nx := 21) rfl rfl rfl ?_
            refine ev_putIT f_X12_fails (nx := 24) rfl (hI.wf.s rfl) rfl rfl rfl (hI.put0 (hI.wf.s rfl) rfl rfl) (hX.upI rfl) (fun g384 e384 hI hX => ?_)
            refine ev_loc f_X12_fails (nx := 25) rfl rfl rfl rfl ?_
            refine ev_loc f_X12_fails (nx := 26) rfl rfl rfl rfl ?_
            refine ev_getI f_X12_fails (nx := 29) rfl (hI.wf.s rfl) rfl rfl rfl ?_
            obtain ⟨l385, u385⟩ := hI.b (hI.wf.s (k := 69) rfl) (t_bdK rfl : t_bd 11 13 = some (0, 900))
            refine ev_putIT f_X12_fails (nx := 32) rfl (hI.wf.s rfl) rfl rfl rfl (hI.put0 (hI.wf.s rfl) rfl rfl) (hX.upI rfl) (fun g386 e386 hI hX => ?_)
            refine ev_ic f_X12_fails (nx := 33) (v := 0) rfl (by decide) rfl ?_
            refine ev_retK1 f_X12_fails rfl rfl rfl ?_
            refine ev_retK1 f_X12_number rfl rfl rfl ?_
            refine ev_retK1 f_X12_once rfl rfl rfl ?_
            refine ev_loc f_X12_riverPart (nx := 78) (lo' := [(1, .int 0), (2, .int w4), (0, .ref 69)]) rfl rfl rfl rfl ?_
            refine ev_jmp f_X12_riverPart (nx := 87) rfl rfl rfl ?_
            refine ev_loc f_X12_riverPart (nx := 88) rfl rfl rfl rfl ?_
            refine ev_t f_X12_riverPart (t1 := 104) (t2 := 91) rfl rfl rfl (by decide) ?_
            refine ev_ic f_X12_riverPart (nx := 105) (v := 0) rfl (by decide) rfl ?_
            exact ev_ret f_X12_riverPart rfl rfl rfl ⟨_, _, _, rfl, hI, hX, ⟨_, rfl, (by decide : (0:Int) ≤ (0:Int32).toInt), (Int.le_trans (by decide : (0:Int32).toInt ≤ (0:Int)) (by decide : (0:Int) ≤ 1)), (show (gi 69 14).toInt ≤ (g386 69 14).toInt ∧ (0 = 1 → (g386 69 12).toInt ≠ 0 → (gi 69 14).toInt < (g386 69 14).toInt) ∧ (1 ≤ (gi 70 1404).toInt → 1 ≤ (g386 70 1404).toInt) from (by have ff387 : (g386 69 14).toInt = (gi328 69 14).toInt := congrArg Int32.toInt ((by rw [e386]; exact x_up2_off (Or.inr (by decide)) : g386 69 14 = g384 69 14).trans ((by rw [e384]; exact x_up2_off (Or.inr (by decide)) : g384 69 14 = gi328 69 14).trans rfl)); have ff388 : (g386 69 12).toInt = (gi328 69 12).toInt := congrArg Int32.toInt ((by rw [e386]; exact x_up2_off (Or.inr (by decide)) : g386 69 12 = g384 69 12).trans ((by rw [e384]; exact x_up2_off (Or.inr (by decide)) : g384 69 12 = gi328 69 12).trans rfl)); have ff389 : (g386 70 1404).toInt = (gi 70 1404).toInt := congrArg Int32.toInt ((by rw [e386]; exact x_up2_off (Or.inr (by decide)) : g386 70 1404 = g384 70 1404).trans ((by rw [e384]; exact x_up2_off (Or.inr (by decide)) : g384 70 1404 = gi328 70 1404).trans ((hC328.1 70 1404 rfl).1.trans ((by rw [e327]; exact x_up2_off (Or.inr (by decide)) : g327 70 1404 = gi4 70 1404).trans ((hC4.1 70 1404 rfl).1.trans rfl))))); omega))⟩⟩
          · have r390 : (gi328 69 12).toInt ≠ 1 := fun e => h381 (Int32.toInt_inj.mp (e.trans (by decide : (1:Int) = (1 : Int32).toInt)))
            refine ev_loc f_X12_fails (nx := 21) rfl rfl rfl rfl ?_
            refine ev_putIT f_X12_fails (nx := 24) rfl (hI.wf.s rfl) rfl rfl rfl (hI.put0 (hI.wf.s rfl) rfl rfl) (hX.upI rfl) (fun g391 e391 hI hX => ?_)
            refine ev_loc f_X12_fails (nx := 25) rfl rfl rfl rfl ?_
            refine ev_loc f_X12_fails (nx := 26) rfl rfl rfl rfl ?_
            refine ev_getI f_X12_fails (nx := 29) rfl (hI.wf.s rfl) rfl rfl rfl ?_
            obtain ⟨l392, u392⟩ := hI.b (hI.wf.s (k := 69) rfl) (t_bdK rfl : t_bd 11 13 = some (0, 900))
            refine ev_putIT f_X12_fails (nx := 32) rfl (hI.wf.s rfl) rfl rfl rfl (hI.put0 (hI.wf.s rfl) rfl rfl) (hX.upI rfl) (fun g393 e393 hI hX => ?_)
            refine ev_ic f_X12_fails (nx := 33) (v := 0) rfl (by decide) rfl ?_
            refine ev_retK1 f_X12_fails rfl rfl rfl ?_
            refine ev_retK1 f_X12_number rfl rfl rfl ?_
            refine ev_retK1 f_X12_once rfl rfl rfl ?_
            refine ev_loc f_X12_riverPart (nx := 78) (lo' := [(1, .int 0), (2, .int w4), (0, .ref 69)]) rfl rfl rfl rfl ?_
            refine ev_jmp f_X12_riverPart (nx := 87) rfl rfl rfl ?_
            refine ev_loc f_X12_riverPart (nx := 88) rfl rfl rfl rfl ?_
            refine ev_t f_X12_riverPart (t1 := 104) (t2 := 91) rfl rfl rfl (by decide) ?_
            refine ev_ic f_X12_riverPart (nx := 105) (v := 0) rfl (by decide) rfl ?_
            exact ev_ret f_X12_riverPart rfl rfl rfl ⟨_, _, _, rfl, hI, hX, ⟨_, rfl, (by decide : (0:Int) ≤ (0:Int32).toInt), (Int.le_trans (by decide : (0:Int32).toInt ≤ (0:Int)) (by decide : (0:Int) ≤ 1)), (show (gi 69 14).toInt ≤ (g393 69 14).toInt ∧ (0 = 1 → (g393 69 12).toInt ≠ 0 → (gi 69 14).toInt < (g393 69 14).toInt) ∧ (1 ≤ (gi 70 1404).toInt → 1 ≤ (g393 70 1404).toInt) from (by have ff394 : (g393 69 14).toInt = (gi328 69 14).toInt := congrArg Int32.toInt ((by rw [e393]; exact x_up2_off (Or.inr (by decide)) : g393 69 14 = g391 69 14).trans ((by rw [e391]; exact x_up2_off (Or.inr (by decide)) : g391 69 14 = gi328 69 14).trans rfl)); have ff395 : (g393 69 12).toInt = (gi328 69 12).toInt := congrArg Int32.toInt ((by rw [e393]; exact x_up2_off (Or.inr (by decide)) : g393 69 12 = g391 69 12).trans ((by rw [e391]; exact x_up2_off (Or.inr (by decide)) : g391 69 12 = gi328 69 12).trans rfl)); have ff396 : (g393 70 1404).toInt = (gi 70 1404).toInt := congrArg Int32.toInt ((by rw [e393]; exact x_up2_off (Or.inr (by decide)) : g393 70 1404 = g391 70 1404).trans ((by rw [e391]; exact x_up2_off (Or.inr (by decide)) : g391 70 1404 = gi328 70 1404).trans ((hC328.1 70 1404 rfl).1.trans ((by rw [e327]; exact x_up2_off (Or.inr (by decide)) : g327 70 1404 = gi4 70 1404).trans ((hC4.1 70 1404 rfl).1.trans rfl))))); omega))⟩⟩
        · have r397 : (gi328 69 18).toInt ≠ 0 := fun e => h378 (Int32.toInt_inj.mp (e.trans (by decide : (0:Int) = (0 : Int32).toInt)))
          refine ev_ic f_X12_fails (nx := 33) (v := 0) rfl (by decide) rfl ?_
          refine ev_retK1 f_X12_fails rfl rfl rfl ?_
          refine ev_retK1 f_X12_number rfl rfl rfl ?_
          refine ev_retK1 f_X12_once rfl rfl rfl ?_
          refine ev_loc f_X12_riverPart (nx := 78) (lo' := [(1, .int 0), (2, .int w4), (0, .ref 69)]) rfl rfl rfl rfl ?_
          refine ev_jmp f_X12_riverPart (nx := 87) rfl rfl rfl ?_
          refine ev_loc f_X12_riverPart (nx := 88) rfl rfl rfl rfl ?_
          refine ev_t f_X12_riverPart (t1 := 104) (t2 := 91) rfl rfl rfl (by decide) ?_
          refine ev_ic f_X12_riverPart (nx := 105) (v := 0) rfl (by decide) rfl ?_
          exact ev_ret f_X12_riverPart rfl rfl rfl ⟨_, _, _, rfl, hI, hX, ⟨_, rfl, (by decide : (0:Int) ≤ (0:Int32).toInt), (Int.le_trans (by decide : (0:Int32).toInt ≤ (0:Int)) (by decide : (0:Int) ≤ 1)), (show (gi 69 14).toInt ≤ (gi328 69 14).toInt ∧ (0 = 1 → (gi328 69 12).toInt ≠ 0 → (gi 69 14).toInt < (gi328 69 14).toInt) ∧ (1 ≤ (gi 70 1404).toInt → 1 ≤ (gi328 70 1404).toInt) from (by have ff398 : (gi328 70 1404).toInt = (gi 70 1404).toInt := congrArg Int32.toInt ((hC328.1 70 1404 rfl).1.trans ((by rw [e327]; exact x_up2_off (Or.inr (by decide)) : g327 70 1404 = gi4 70 1404).trans ((hC4.1 70 1404 rfl).1.trans rfl))); omega))⟩⟩
  · refine ev_swt f_X12_riverPart (nx := 56) (c := 4) rfl h5 rfl ?_
    refine ev_loc f_X12_riverPart (nx := 57) rfl rfl rfl rfl ?_
    refine ev_qI f_X12_riverPart (nx := 60) (r := []) rfl rfl rfl rfl rfl rfl rfl (c_m_aShip hI ) rfl hX rfl (fun w399 gi399 gl399 gr399 l399 u399 hI hX hC399 q399 => ?_)
    have ff400 : (gi4 69 14).toInt = (gi 69 14).toInt := congrArg Int32.toInt ((hC4.1 69 14 rfl).1.trans rfl)
    have q399 : (gi4 69 14).toInt ≤ (gi399 69 14).toInt ∧ (w399.toInt = 1 → (gi399 69 12).toInt ≠ 0 → (gi4 69 14).toInt < (gi399 69 14).toInt) := q399
    obtain ⟨l401, u401⟩ := hI.b (hI.wf.s (k := 69) rfl) (t_bdK rfl : t_bd 11 12 = some (0, 4))
    obtain ⟨l402, u402⟩ := hI.b (hI.wf.s (k := 69) rfl) (t_bdK rfl : t_bd 11 14 = some (0, 900))
    refine ev_loc f_X12_riverPart (nx := 61) (lo' := [(1, .int w399), (2, .int w4), (0, .ref 69)]) rfl rfl rfl rfl ?_
    refine ev_jmp f_X12_riverPart (nx := 87) rfl rfl rfl ?_
    refine ev_loc f_X12_riverPart (nx := 88) rfl rfl rfl rfl ?_
    refine ev_if f_X12_riverPart (t1 := 104) (t2 := 91) rfl rfl rfl (fun h403 => ?_) (fun h403 => ?_)
    · have u404 : w399.toInt ≤ 0 := t_equ h403 (by decide : (0:Int32).toInt ≤ (0:Int))
      refine ev_ic f_X12_riverPart (nx := 105) (v := 0) rfl (by decide) rfl ?_
      exact ev_ret f_X12_riverPart rfl rfl rfl ⟨_, _, _, rfl, hI, hX, ⟨_, rfl, (by decide : (0:Int) ≤ (0:Int32).toInt), (Int.le_trans (by decide : (0:Int32).toInt ≤ (0:Int)) (by decide : (0:Int) ≤ 1)), (show (gi 69 14).toInt ≤ (gi399 69 14).toInt ∧ (0 = 1 → (gi399 69 12).toInt ≠ 0 → (gi 69 14).toInt < (gi399 69 14).toInt) ∧ (1 ≤ (gi 70 1404).toInt → 1 ≤ (gi399 70 1404).toInt) from (by have ff405 : (gi399 70 1404).toInt = (gi 70 1404).toInt := congrArg Int32.toInt ((hC399.1 70 1404 rfl).1.trans ((hC4.1 70 1404 rfl).1.trans rfl)); omega))⟩⟩
    · have r406 : w399.toInt ≠ 0 := fun e => h403 (Int32.toInt_inj.mp (e.trans (by decide : (0:Int) = (0 : Int32).toInt)))
      have l407 : 1 ≤ w399.toInt := t_nel h403 l399 rfl rfl
      refine ev_loc f_X12_riverPart (nx := 92) rfl rfl rfl rfl ?_
      refine ev_bp f_X12_riverPart (nx := 94) (v := 59) rfl (by decide) rfl ?_
      refine ev_qI f_X12_riverPart (nx := 97) (r := []) rfl rfl rfl rfl rfl rfl rfl (c_m_wantSign hI (59)) rfl hX rfl (fun w408 gi408 gl408 gr408 l408 u408 hI hX hC408 q408 => ?_)
      have q408 : (gi399 69 14).toInt ≤ (gi408 69 14).toInt ∧ (w408.toInt = 1 → (gi408 69 12).toInt ≠ 0 → (gi399 69 14).toInt < (gi408 69 14).toInt) := q408
      obtain ⟨l409, u409⟩ := hI.b (hI.wf.s (k := 69) rfl) (t_bdK rfl : t_bd 11 12 = some (0, 4))
      obtain ⟨l410, u410⟩ := hI.b (hI.wf.s (k := 69) rfl) (t_bdK rfl : t_bd 11 14 = some (0, 900))
      refine ev_if f_X12_riverPart (t1 := 104) (t2 := 100) rfl rfl rfl (fun h411 => ?_) (fun h411 => ?_)
      · have u412 : w408.toInt ≤ 0 := t_equ h411 (by decide : (0:Int32).toInt ≤ (0:Int))
        refine ev_ic f_X12_riverPart (nx := 105) (v := 0) rfl (by decide) rfl ?_
        exact ev_ret f_X12_riverPart rfl rfl rfl ⟨_, _, _, rfl, hI, hX, ⟨_, rfl, (by decide : (0:Int) ≤ (0:Int32).toInt), (Int.le_trans (by decide : (0:Int32).toInt ≤ (0:Int)) (by decide : (0:Int) ≤ 1)), (show (gi 69 14).toInt ≤ (gi408 69 14).toInt ∧ (0 = 1 → (gi408 69 12).toInt ≠ 0 → (gi 69 14).toInt < (gi408 69 14).toInt) ∧ (1 ≤ (gi 70 1404).toInt → 1 ≤ (gi408 70 1404).toInt) from (by have ff413 : (gi408 70 1404).toInt = (gi 70 1404).toInt := congrArg Int32.toInt ((hC408.1 70 1404 rfl).1.trans ((hC399.1 70 1404 rfl).1.trans ((hC4.1 70 1404 rfl).1.trans rfl))); omega))⟩⟩
      · have r414 : w408.toInt ≠ 0 := fun e => h411 (Int32.toInt_inj.mp (e.trans (by decide : (0:Int) = (0 : Int32).toInt)))
        have l415 : 1 ≤ w408.toInt := t_nel h411 l408 rfl rfl
        refine ev_ic f_X12_riverPart (nx := 101) (v := 1) rfl (by decide) rfl ?_
        refine ev_jmp f_X12_riverPart (nx := 105) rfl rfl rfl ?_
        exact ev_ret f_X12_riverPart rfl rfl rfl ⟨_, _, _, rfl, hI, hX, ⟨_, rfl, (Int.le_trans (by decide : (0:Int) ≤ 1) (by decide : (1:Int) ≤ (1:Int32).toInt)), (by decide : (1:Int32).toInt ≤ (1:Int)), (show (gi 69 14).toInt ≤ (gi408 69 14).toInt ∧ (1 = 1 → (gi408 69 12).toInt ≠ 0 → (gi 69 14).toInt < (gi408 69 14).toInt) ∧ (1 ≤ (gi 70 1404).toInt → 1 ≤ (gi408 70 1404).toInt) from (by have ff416 : (gi408 70 1404).toInt = (gi 70 1404).toInt := congrArg Int32.toInt ((hC408.1 70 1404 rfl).1.trans ((hC399.1 70 1404 rfl).1.trans ((hC4.1 70 1404 rfl).1.trans rfl))); omega))⟩⟩
  · refine ev_swt f_X12_riverPart (nx := 64) (c := 5) rfl h5 rfl ?_
    refine ev_loc f_X12_riverPart (nx := 65) rfl rfl rfl rfl ?_
    refine ev_qI f_X12_riverPart (nx := 68) (r := []) rfl rfl rfl rfl rfl rfl rfl (c_m_aCart hI ) rfl hX rfl (fun w417 gi417 gl417 gr417 l417 u417 hI hX hC417 q417 => ?_)
    have ff418 : (gi4 69 14).toInt = (gi 69 14).toInt := congrArg Int32.toInt ((hC4.1 69 14 rfl).1.trans rfl)
    have q417 : (gi4 69 14).toInt ≤ (gi417 69 14).toInt ∧ (w417.toInt = 1 → (gi417 69 12).toInt ≠ 0 → (gi4 69 14).toInt < (gi417 69 14).toInt) := q417
    obtain ⟨l419, u419⟩ := hI.b (hI.wf.s (k := 69) rfl) (t_bdK rfl : t_bd 11 12 = some (0, 4))
    obtain ⟨l420, u420⟩ := hI.b (hI.wf.s (k := 69) rfl) (t_bdK rfl : t_bd 11 14 = some (0, 900))
    refine ev_loc f_X12_riverPart (nx := 69) (lo' := [(1, .int w417), (2, .int w4), (0, .ref 69)]) rfl rfl rfl rfl ?_
    refine ev_jmp f_X12_riverPart (nx := 87) rfl rfl rfl ?_
    refine ev_loc f_X12_riverPart (nx := 88) rfl rfl rfl rfl ?_
    refine ev_if f_X12_riverPart (t1 := 104) (t2 := 91) rfl rfl rfl (fun h421 => ?_) (fun h421 => ?_)
    · have u422 : w417.toInt ≤ 0 := t_equ h421 (by decide : (0:Int32).toInt ≤ (0:Int))
      refine ev_ic f_X12_riverPart (nx := 105) (v := 0) rfl (by decide) rfl ?_
      exact ev_ret f_X12_riverPart rfl rfl rfl ⟨_, _, _, rfl, hI, hX, ⟨_, rfl, (by decide : (0:Int) ≤ (0:Int32).toInt), (Int.le_trans (by decide : (0:Int32).toInt ≤ (0:Int)) (by decide : (0:Int) ≤ 1)), (show (gi 69 14).toInt ≤ (gi417 69 14).toInt ∧ (0 = 1 → (gi417 69 12).toInt ≠ 0 → (gi 69 14).toInt < (gi417 69 14).toInt) ∧ (1 ≤ (gi 70 1404).toInt → 1 ≤ (gi417 70 1404).toInt) from (by have ff423 : (gi417 70 1404).toInt = (gi 70 1404).toInt := congrArg Int32.toInt ((hC417.1 70 1404 rfl).1.trans ((hC4.1 70 1404 rfl).1.trans rfl)); omega))⟩⟩
    · have r424 : w417.toInt ≠ 0 := fun e => h421 (Int32.toInt_inj.mp (e.trans (by decide : (0:Int) = (0 : Int32).toInt)))
      have l425 : 1 ≤ w417.toInt := t_nel h421 l417 rfl rfl
      refine ev_loc f_X12_riverPart (nx := 92) rfl rfl rfl rfl ?_
      refine ev_bp f_X12_riverPart (nx := 94) (v := 59) rfl (by decide) rfl ?_
      refine ev_qI f_X12_riverPart (nx := 97) (r := []) rfl rfl rfl rfl rfl rfl rfl (c_m_wantSign hI (59)) rfl hX rfl (fun w426 gi426 gl426 gr426 l426 u426 hI hX hC426 q426 => ?_)
      have q426 : (gi417 69 14).toInt ≤ (gi426 69 14).toInt ∧ (w426.toInt = 1 → (gi426 69 12).toInt ≠ 0 → (gi417 69 14).toInt < (gi426 69 14).toInt) := q426
      obtain ⟨l427, u427⟩ := hI.b (hI.wf.s (k := 69) rfl) (t_bdK rfl : t_bd 11 12 = some (0, 4))
      obtain ⟨l428, u428⟩ := hI.b (hI.wf.s (k := 69) rfl) (t_bdK rfl : t_bd 11 14 = some (0, 900))
      refine ev_if f_X12_riverPart (t1 := 104) (t2 := 100) rfl rfl rfl (fun h429 => ?_) (fun h429 => ?_)
      · have u430 : w426.toInt ≤ 0 := t_equ h429 (by decide : (0:Int32).toInt ≤ (0:Int))
        refine ev_ic f_X12_riverPart (nx := 105) (v := 0) rfl (by decide) rfl ?_
        exact ev_ret f_X12_riverPart rfl rfl rfl ⟨_, _, _, rfl, hI, hX, ⟨_, rfl, (by decide : (0:Int) ≤ (0:Int32).toInt), (Int.le_trans (by decide : (0:Int32).toInt ≤ (0:Int)) (by decide : (0:Int) ≤ 1)), (show (gi 69 14).toInt ≤ (gi426 69 14).toInt ∧ (0 = 1 → (gi426 69 12).toInt ≠ 0 → (gi 69 14).toInt < (gi426 69 14).toInt) ∧ (1 ≤ (gi 70 1404).toInt → 1 ≤ (gi426 70 1404).toInt) from (by have ff431 : (gi426 70 1404).toInt = (gi 70 1404).toInt := congrArg Int32.toInt ((hC426.1 70 1404 rfl).1.trans ((hC417.1 70 1404 rfl).1.trans ((hC4.1 70 1404 rfl).1.trans rfl))); omega))⟩⟩
      · have r432 : w426.toInt ≠ 0 := fun e => h429 (Int32.toInt_inj.mp (e.trans (by decide : (0:Int) = (0 : Int32).toInt)))
        have l433 : 1 ≤ w426.toInt := t_nel h429 l426 rfl rfl
        refine ev_ic f_X12_riverPart (nx := 101) (v := 1) rfl (by decide) rfl ?_
        refine ev_jmp f_X12_riverPart (nx := 105) rfl rfl rfl ?_
        exact ev_ret f_X12_riverPart rfl rfl rfl ⟨_, _, _, rfl, hI, hX, ⟨_, rfl, (Int.le_trans (by decide : (0:Int) ≤ 1) (by decide : (1:Int) ≤ (1:Int32).toInt)), (by decide : (1:Int32).toInt ≤ (1:Int)), (show (gi 69 14).toInt ≤ (gi426 69 14).toInt ∧ (1 = 1 → (gi426 69 12).toInt ≠ 0 → (gi 69 14).toInt < (gi426 69 14).toInt) ∧ (1 ≤ (gi 70 1404).toInt → 1 ≤ (gi426 70 1404).toInt) from (by have ff434 : (gi426 70 1404).toInt = (gi 70 1404).toInt := congrArg Int32.toInt ((hC426.1 70 1404 rfl).1.trans ((hC417.1 70 1404 rfl).1.trans ((hC4.1 70 1404 rfl).1.trans rfl))); omega))⟩⟩
  · refine ev_swtd f_X12_riverPart (nx := 81) rfl (by omega) (by decide) rfl ?_
    refine ev_loc f_X12_riverPart (nx := 82) rfl rfl rfl rfl ?_
    refine ev_ic f_X12_riverPart (nx := 83) (v := 2) rfl (by decide) rfl ?_
    refine ev_inV2 f_X12_riverPart (nx := 86) (lo2 := [(0, .ref 69), (1, .int 2)]) rfl rfl rfl rfl f_X12_fails (hI.wf.s rfl) rfl rfl rfl rfl rfl ?_
    refine ev_loc f_X12_fails (nx := 1) rfl rfl rfl rfl ?_
    refine ev_getI f_X12_fails (nx := 4) rfl (hI.wf.s rfl) rfl rfl rfl ?_
    refine ev_if f_X12_fails (t1 := 7) (t2 := 32) rfl rfl rfl (fun h435 => ?_) (fun h435 => ?_)
    · have u436 : (gi4 69 18).toInt ≤ 0 := t_equ h435 (by decide : (0:Int32).toInt ≤ (0:Int))
      have l437 : 0 ≤ (gi4 69 18).toInt := t_eql h435 (by decide : (0:Int) ≤ (0:Int32).toInt)
      refine ev_loc f_X12_fails (nx := 8) rfl rfl rfl rfl ?_
      refine ev_loc f_X12_fails (nx := 9) rfl rfl rfl rfl ?_
      refine ev_gvI f_X12_fails (nx := 12) (w := (gi 69 12)) rfl (hI.wf.s rfl) rfl rfl ((hC4.1 69 12 rfl).1.trans rfl) rfl ?_
      refine ev_ic f_X12_fails (nx := 13) (v := 1) rfl (by decide) rfl ?_
      refine ev_if f_X12_fails (t1 := 16) (t2 := 20) rfl rfl rfl (fun h438 => ?_) (fun h438 => ?_)
      · have u439 : (gi 69 12).toInt ≤ 1 := t_equ h438 (by decide : (1:Int32).toInt ≤ (1:Int))
        have l440 : 1 ≤ (gi 69 12).toInt := t_eql h438 (by decide : (1:Int) ≤ (1:Int32).toInt)
        refine ev_ic f_X12_fails (nx := 17) (v := 1) rfl (by decide) rfl ?_
        refine ev_jmp f_X12_fails (nx := 21) rfl rfl rfl ?_
        refine ev_putIT f_X12_fails (nx := 24) rfl (hI.wf.s rfl) rfl rfl rfl (hI.put0 (hI.wf.s rfl) rfl rfl) (hX.upI rfl) (fun g441 e441 hI hX => ?_)
        refine ev_loc f_X12_fails (nx := 25) rfl rfl rfl rfl ?_
        refine ev_loc f_X12_fails (nx := 26) rfl rfl rfl rfl ?_
        refine ev_getI f_X12_fails (nx := 29) rfl (hI.wf.s rfl) rfl rfl rfl ?_
        obtain ⟨l442, u442⟩ := hI.b (hI.wf.s (k := 69) rfl) (t_bdK rfl : t_bd 11 13 = some (0, 900))
        refine ev_putIT f_X12_fails (nx := 32) rfl (hI.wf.s rfl) rfl rfl rfl (hI.put0 (hI.wf.s rfl) rfl rfl) (hX.upI rfl) (fun g443 e443 hI hX => ?_)
        refine ev_ic f_X12_fails (nx := 33) (v := 0) rfl (by decide) rfl ?_
        refine ev_retK1 f_X12_fails rfl rfl rfl ?_
        exact ev_ret f_X12_riverPart rfl rfl rfl ⟨_, _, _, rfl, hI, hX, ⟨_, rfl, (by decide : (0:Int) ≤ (0:Int32).toInt), (Int.le_trans (by decide : (0:Int32).toInt ≤ (0:Int)) (by decide : (0:Int) ≤ 1)), (show (gi 69 14).toInt ≤ (g443 69 14).toInt ∧ (0 = 1 → (g443 69 12).toInt ≠ 0 → (gi 69 14).toInt < (g443 69 14).toInt) ∧ (1 ≤ (gi 70 1404).toInt → 1 ≤ (g443 70 1404).toInt) from (by have ff444 : (g443 69 14).toInt = (gi 69 14).toInt := congrArg Int32.toInt ((by rw [e443]; exact x_up2_off (Or.inr (by decide)) : g443 69 14 = g441 69 14).trans ((by rw [e441]; exact x_up2_off (Or.inr (by decide)) : g441 69 14 = gi4 69 14).trans ((hC4.1 69 14 rfl).1.trans rfl))); have ff445 : (g443 69 12).toInt = (gi 69 12).toInt := congrArg Int32.toInt ((by rw [e443]; exact x_up2_off (Or.inr (by decide)) : g443 69 12 = g441 69 12).trans ((by rw [e441]; exact x_up2_off (Or.inr (by decide)) : g441 69 12 = gi4 69 12).trans ((hC4.1 69 12 rfl).1.trans rfl))); have ff446 : (g443 70 1404).toInt = (gi 70 1404).toInt := congrArg Int32.toInt ((by rw [e443]; exact x_up2_off (Or.inr (by decide)) : g443 70 1404 = g441 70 1404).trans ((by rw [e441]; exact x_up2_off (Or.inr (by decide)) : g441 70 1404 = gi4 70 1404).trans ((hC4.1 70 1404 rfl).1.trans rfl))); omega))⟩⟩
      · have r447 : (gi 69 12).toInt ≠ 1 := fun e => h438 (Int32.toInt_inj.mp (e.trans (by decide : (1:Int) = (1 : Int32).toInt)))
        refine ev_loc f_X12_fails (nx := 21) rfl rfl rfl rfl ?_
        refine ev_putIT f_X12_fails (nx := 24) rfl (hI.wf.s rfl) rfl rfl rfl (hI.put0 (hI.wf.s rfl) rfl rfl) (hX.upI rfl) (fun g448 e448 hI hX => ?_)
        refine ev_loc f_X12_fails (nx := 25) rfl rfl rfl rfl ?_
        refine ev_loc f_X12_fails (nx := 26) rfl rfl rfl rfl ?_
        refine ev_getI f_X12_fails (nx := 29) rfl (hI.wf.s rfl) rfl rfl rfl ?_
        obtain ⟨l449, u449⟩ := hI.b (hI.wf.s (k := 69) rfl) (t_bdK rfl : t_bd 11 13 = some (0, 900))
        refine ev_putIT f_X12_fails (nx := 32) rfl (hI.wf.s rfl) rfl rfl rfl (hI.put0 (hI.wf.s rfl) rfl rfl) (hX.upI rfl) (fun g450 e450 hI hX => ?_)
        refine ev_ic f_X12_fails (nx := 33) (v := 0) rfl (by decide) rfl ?_
        refine ev_retK1 f_X12_fails rfl rfl rfl ?_
        exact ev_ret f_X12_riverPart rfl rfl rfl ⟨_, _, _, rfl, hI, hX, ⟨_, rfl, (by decide : (0:Int) ≤ (0:Int32).toInt), (Int.le_trans (by decide : (0:Int32).toInt ≤ (0:Int)) (by decide : (0:Int) ≤ 1)), (show (gi 69 14).toInt ≤ (g450 69 14).toInt ∧ (0 = 1 → (g450 69 12).toInt ≠ 0 → (gi 69 14).toInt < (g450 69 14).toInt) ∧ (1 ≤ (gi 70 1404).toInt → 1 ≤ (g450 70 1404).toInt) from (by have ff451 : (g450 69 14).toInt = (gi 69 14).toInt := congrArg Int32.toInt ((by rw [e450]; exact x_up2_off (Or.inr (by decide)) : g450 69 14 = g448 69 14).trans ((by rw [e448]; exact x_up2_off (Or.inr (by decide)) : g448 69 14 = gi4 69 14).trans ((hC4.1 69 14 rfl).1.trans rfl))); have ff452 : (g450 69 12).toInt = (gi 69 12).toInt := congrArg Int32.toInt ((by rw [e450]; exact x_up2_off (Or.inr (by decide)) : g450 69 12 = g448 69 12).trans ((by rw [e448]; exact x_up2_off (Or.inr (by decide)) : g448 69 12 = gi4 69 12).trans ((hC4.1 69 12 rfl).1.trans rfl))); have ff453 : (g450 70 1404).toInt = (gi 70 1404).toInt := congrArg Int32.toInt ((by rw [e450]; exact x_up2_off (Or.inr (by decide)) : g450 70 1404 = g448 70 1404).trans ((by rw [e448]; exact x_up2_off (Or.inr (by decide)) : g448 70 1404 = gi4 70 1404).trans ((hC4.1 70 1404 rfl).1.trans rfl))); omega))⟩⟩
    · have r454 : (gi4 69 18).toInt ≠ 0 := fun e => h435 (Int32.toInt_inj.mp (e.trans (by decide : (0:Int) = (0 : Int32).toInt)))
      refine ev_ic f_X12_fails (nx := 33) (v := 0) rfl (by decide) rfl ?_
      refine ev_retK1 f_X12_fails rfl rfl rfl ?_
      exact ev_ret f_X12_riverPart rfl rfl rfl ⟨_, _, _, rfl, hI, hX, ⟨_, rfl, (by decide : (0:Int) ≤ (0:Int32).toInt), (Int.le_trans (by decide : (0:Int32).toInt ≤ (0:Int)) (by decide : (0:Int) ≤ 1)), (show (gi 69 14).toInt ≤ (gi4 69 14).toInt ∧ (0 = 1 → (gi4 69 12).toInt ≠ 0 → (gi 69 14).toInt < (gi4 69 14).toInt) ∧ (1 ≤ (gi 70 1404).toInt → 1 ≤ (gi4 70 1404).toInt) from (by have ff455 : (gi4 69 14).toInt = (gi 69 14).toInt := congrArg Int32.toInt ((hC4.1 69 14 rfl).1.trans rfl); have ff456 : (gi4 69 12).toInt = (gi 69 12).toInt := congrArg Int32.toInt ((hC4.1 69 12 rfl).1.trans rfl); have ff457 : (gi4 70 1404).toInt = (gi 70 1404).toInt := congrArg Int32.toInt ((hC4.1 70 1404 rfl).1.trans rfl); omega))⟩⟩
