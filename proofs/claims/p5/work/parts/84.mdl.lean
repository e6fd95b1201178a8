/-! ===== printed by mdl2.py: contracts of the model ===== -/
def wl_m_tray : List (Nat × Nat) := [(69, 2), (72, 9999), (73, 9999), (74, 9999)]
theorem c_m_tray {X : x_Ext} {d : Nat} {sh : List (Nat ⊕ (Nat × Nat))} {gi : Nat → Nat → Int32} {gl : Nat → Nat → Int64} {gr : Nat → Nat → Value} (hI : t_I sh gi gr) (ar1 : Int32) (ar2 : Int32) (ar3 : Int32) : x_Me X (d + 2) n_X12_tray [.ref 69, .int ar1, .int ar2, .int ar3] (sh, gi, gl, gr) (t_P wl_m_tray sh gi gl gr (t_Ri 0 1)) := by
  have hX : t_X wl_m_tray sh gi gl gr gi gl gr := t_X.rf
  refine me_i f_X12_tray (hI.wf.s rfl) rfl rfl rfl ?_
  refine ev_loc f_X12_tray (nx := 1) rfl rfl rfl rfl ?_
  refine ev_inS1 f_X12_tray (nx := 4) (lo2 := [(0, .int ar1)]) rfl rfl rfl rfl f_X12_isTray rfl rfl rfl rfl ?_
  refine ev_loc f_X12_isTray (nx := 1) rfl rfl rfl rfl ?_
  refine ev_if f_X12_isTray (t1 := 13) (t2 := 4) rfl rfl rfl (fun h1 => ?_) (fun h1 => ?_)
  · have u2 : ar1.toInt ≤ (-1) := t_ltu h1 (by decide : (0:Int32).toInt ≤ (0:Int)) rfl
    refine ev_ic f_X12_isTray (nx := 14) (v := 0) rfl (by decide) rfl ?_
    refine ev_retK1 f_X12_isTray rfl rfl rfl ?_
    refine ev_t f_X12_tray (t1 := 26) (t2 := 7) rfl rfl rfl (by decide) ?_
    refine ev_loc f_X12_tray (nx := 27) rfl rfl rfl rfl ?_
    refine ev_ic f_X12_tray (nx := 28) (v := 1) rfl (by decide) rfl ?_
    refine ev_inV2 f_X12_tray (nx := 31) (lo2 := [(0, .ref 69), (1, .int 1)]) rfl rfl rfl rfl f_X12_is (hI.wf.s rfl) rfl rfl rfl rfl rfl ?_
    refine ev_loc f_X12_is (nx := 1) rfl rfl rfl rfl ?_
    refine ev_loc f_X12_is (nx := 2) rfl rfl rfl rfl ?_
    refine ev_putIT f_X12_is (nx := 5) rfl (hI.wf.s rfl) rfl rfl rfl (hI.put0 (hI.wf.s rfl) rfl rfl) (hX.upI rfl) (fun g3 e3 hI hX => ?_)
    refine ev_loc f_X12_is (nx := 6) rfl rfl rfl rfl ?_
    refine ev_f f_X12_is (t1 := 9) (t2 := 13) rfl rfl rfl (by decide) ?_
    refine ev_ic f_X12_is (nx := 14) (v := 0) rfl (by decide) rfl ?_
    refine ev_retK1 f_X12_is rfl rfl rfl ?_
    exact ev_ret f_X12_tray rfl rfl rfl ⟨_, _, _, rfl, hI, hX, ⟨_, rfl, (by decide : (0:Int) ≤ (0:Int32).toInt), (Int.le_trans (by decide : (0:Int32).toInt ≤ (0:Int)) (by decide : (0:Int) ≤ 1))⟩⟩
  · have l4 : 0 ≤ ar1.toInt := t_lel (t_nlt h1) (by decide : (0:Int) ≤ (0:Int32).toInt)
    refine ev_loc f_X12_isTray (nx := 5) rfl rfl rfl rfl ?_
    refine ev_ic f_X12_isTray (nx := 6) (v := 4) rfl (by decide) rfl ?_
    refine ev_if f_X12_isTray (t1 := 13) (t2 := 9) rfl rfl rfl (fun h5 => ?_) (fun h5 => ?_)
    · have l6 : 4 ≤ ar1.toInt := t_lel h5 (by decide : (4:Int) ≤ (4:Int32).toInt)
      refine ev_ic f_X12_isTray (nx := 14) (v := 0) rfl (by decide) rfl ?_
      refine ev_retK1 f_X12_isTray rfl rfl rfl ?_
      refine ev_t f_X12_tray (t1 := 26) (t2 := 7) rfl rfl rfl (by decide) ?_
      refine ev_loc f_X12_tray (nx := 27) rfl rfl rfl rfl ?_
      refine ev_ic f_X12_tray (nx := 28) (v := 1) rfl (by decide) rfl ?_
      refine ev_inV2 f_X12_tray (nx := 31) (lo2 := [(0, .ref 69), (1, .int 1)]) rfl rfl rfl rfl f_X12_is (hI.wf.s rfl) rfl rfl rfl rfl rfl ?_
      refine ev_loc f_X12_is (nx := 1) rfl rfl rfl rfl ?_
      refine ev_loc f_X12_is (nx := 2) rfl rfl rfl rfl ?_
      refine ev_putIT f_X12_is (nx := 5) rfl (hI.wf.s rfl) rfl rfl rfl (hI.put0 (hI.wf.s rfl) rfl rfl) (hX.upI rfl) (fun g7 e7 hI hX => ?_)
      refine ev_loc f_X12_is (nx := 6) rfl rfl rfl rfl ?_
      refine ev_f f_X12_is (t1 := 9) (t2 := 13) rfl rfl rfl (by decide) ?_
      refine ev_ic f_X12_is (nx := 14) (v := 0) rfl (by decide) rfl ?_
      refine ev_retK1 f_X12_is rfl rfl rfl ?_
      exact ev_ret f_X12_tray rfl rfl rfl ⟨_, _, _, rfl, hI, hX, ⟨_, rfl, (by decide : (0:Int) ≤ (0:Int32).toInt), (Int.le_trans (by decide : (0:Int32).toInt ≤ (0:Int)) (by decide : (0:Int) ≤ 1))⟩⟩
    · have u8 : ar1.toInt ≤ 3 := t_ltu (t_nle h5) (by decide : (4:Int32).toInt ≤ (4:Int)) rfl
      refine ev_ic f_X12_isTray (nx := 10) (v := 1) rfl (by decide) rfl ?_
      refine ev_jmp f_X12_isTray (nx := 14) rfl rfl rfl ?_
      refine ev_retK1 f_X12_isTray rfl rfl rfl ?_
      refine ev_f f_X12_tray (t1 := 26) (t2 := 7) rfl rfl rfl (by decide) ?_
      refine ev_loc f_X12_tray (nx := 8) rfl rfl rfl rfl ?_
      refine ev_if f_X12_tray (t1 := 26) (t2 := 11) rfl rfl rfl (fun h9 => ?_) (fun h9 => ?_)
      · have u10 : ar2.toInt ≤ (-1) := t_ltu h9 (by decide : (0:Int32).toInt ≤ (0:Int)) rfl
        refine ev_loc f_X12_tray (nx := 27) rfl rfl rfl rfl ?_
        refine ev_ic f_X12_tray (nx := 28) (v := 1) rfl (by decide) rfl ?_
        refine ev_inV2 f_X12_tray (nx := 31) (lo2 := [(0, .ref 69), (1, .int 1)]) rfl rfl rfl rfl f_X12_is (hI.wf.s rfl) rfl rfl rfl rfl rfl ?_
        refine ev_loc f_X12_is (nx := 1) rfl rfl rfl rfl ?_
        refine ev_loc f_X12_is (nx := 2) rfl rfl rfl rfl ?_
        refine ev_putIT f_X12_is (nx := 5) rfl (hI.wf.s rfl) rfl rfl rfl (hI.put0 (hI.wf.s rfl) rfl rfl) (hX.upI rfl) (fun g11 e11 hI hX => ?_)
        refine ev_loc f_X12_is (nx := 6) rfl rfl rfl rfl ?_
        refine ev_f f_X12_is (t1 := 9) (t2 := 13) rfl rfl rfl (by decide) ?_
        refine ev_ic f_X12_is (nx := 14) (v := 0) rfl (by decide) rfl ?_
        refine ev_retK1 f_X12_is rfl rfl rfl ?_
        exact ev_ret f_X12_tray rfl rfl rfl ⟨_, _, _, rfl, hI, hX, ⟨_, rfl, (by decide : (0:Int) ≤ (0:Int32).toInt), (Int.le_trans (by decide : (0:Int32).toInt ≤ (0:Int)) (by decide : (0:Int) ≤ 1))⟩⟩
      · have l12 : 0 ≤ ar2.toInt := t_lel (t_nlt h9) (by decide : (0:Int) ≤ (0:Int32).toInt)
        refine ev_loc f_X12_tray (nx := 12) rfl rfl rfl rfl ?_
        refine ev_ic f_X12_tray (nx := 13) (v := 3) rfl (by decide) rfl ?_
        refine ev_if f_X12_tray (t1 := 26) (t2 := 16) rfl rfl rfl (fun h13 => ?_) (fun h13 => ?_)
        · have l14 : 4 ≤ ar2.toInt := t_ltl h13 (by decide : (3:Int) ≤ (3:Int32).toInt) rfl
          refine ev_loc f_X12_tray (nx := 27) rfl rfl rfl rfl ?_
          refine ev_ic f_X12_tray (nx := 28) (v := 1) rfl (by decide) rfl ?_
          refine ev_inV2 f_X12_tray (nx := 31) (lo2 := [(0, .ref 69), (1, .int 1)]) rfl rfl rfl rfl f_X12_is (hI.wf.s rfl) rfl rfl rfl rfl rfl ?_
          refine ev_loc f_X12_is (nx := 1) rfl rfl rfl rfl ?_
          refine ev_loc f_X12_is (nx := 2) rfl rfl rfl rfl ?_
          refine ev_putIT f_X12_is (nx := 5) rfl (hI.wf.s rfl) rfl rfl rfl (hI.put0 (hI.wf.s rfl) rfl rfl) (hX.upI rfl) (fun g15 e15 hI hX => ?_)
          refine ev_loc f_X12_is (nx := 6) rfl rfl rfl rfl ?_
          refine ev_f f_X12_is (t1 := 9) (t2 := 13) rfl rfl rfl (by decide) ?_
          refine ev_ic f_X12_is (nx := 14) (v := 0) rfl (by decide) rfl ?_
          refine ev_retK1 f_X12_is rfl rfl rfl ?_
          exact ev_ret f_X12_tray rfl rfl rfl ⟨_, _, _, rfl, hI, hX, ⟨_, rfl, (by decide : (0:Int) ≤ (0:Int32).toInt), (Int.le_trans (by decide : (0:Int32).toInt ≤ (0:Int)) (by decide : (0:Int) ≤ 1))⟩⟩
        · have u16 : ar2.toInt ≤ 3 := t_leu (t_nlt h13) (by decide : (3:Int32).toInt ≤ (3:Int))
          refine ev_loc f_X12_tray (nx := 17) rfl rfl rfl rfl ?_
          refine ev_if f_X12_tray (t1 := 26) (t2 := 20) rfl rfl rfl (fun h17 => ?_) (fun h17 => ?_)
          · have u18 : ar3.toInt ≤ (-1) := t_ltu h17 (by decide : (0:Int32).toInt ≤ (0:Int)) rfl
            refine ev_loc f_X12_tray (nx := 27) rfl rfl rfl rfl ?_
            refine ev_ic f_X12_tray (nx := 28) (v := 1) rfl (by decide) rfl ?_
            refine ev_inV2 f_X12_tray (nx := 31) (lo2 := [(0, .ref 69), (1, .int 1)]) rfl rfl rfl rfl f_X12_is (hI.wf.s rfl) rfl rfl rfl rfl rfl ?_
            refine ev_loc f_X12_is (nx := 1) rfl rfl rfl rfl ?_
            refine ev_loc f_X12_is (nx := 2) rfl rfl rfl rfl ?_
            refine ev_putIT f_X12_is (nx := 5) rfl (hI.wf.s rfl) rfl rfl rfl (hI.put0 (hI.wf.s rfl) rfl rfl) (hX.upI rfl) (fun g19 e19 hI hX => ?_)
            refine ev_loc f_X12_is (nx := 6) rfl rfl rfl rfl ?_
            refine ev_f f_X12_is (t1 := 9) (t2 := 13) rfl rfl rfl (by decide) ?_
            refine ev_ic f_X12_is (nx := 14) (v := 0) rfl (by decide) rfl ?_
            refine ev_retK1 f_X12_is rfl rfl rfl ?_
            exact ev_ret f_X12_tray rfl rfl rfl ⟨_, _, _, rfl, hI, hX, ⟨_, rfl, (by decide : (0:Int) ≤ (0:Int32).toInt), (Int.le_trans (by decide : (0:Int32).toInt ≤ (0:Int)) (by decide : (0:Int) ≤ 1))⟩⟩
          · have l20 : 0 ≤ ar3.toInt := t_lel (t_nlt h17) (by decide : (0:Int) ≤ (0:Int32).toInt)
            refine ev_loc f_X12_tray (nx := 21) rfl rfl rfl rfl ?_
            refine ev_bp f_X12_tray (nx := 23) (v := 60) rfl (by decide) rfl ?_
            refine ev_if f_X12_tray (t1 := 32) (t2 := 26) rfl rfl rfl (fun h21 => ?_) (fun h21 => ?_)
            · have u22 : ar3.toInt ≤ 60 := t_leu h21 (by decide : (60:Int32).toInt ≤ (60:Int))
              refine ev_loc f_X12_tray (nx := 33) rfl rfl rfl rfl ?_
              refine ev_getR f_X12_tray (nx := 36) rfl (hI.wf.s rfl) rfl rfl (hI.wf.r rfl) rfl rfl ?_
              refine ev_loc f_X12_tray (nx := 37) rfl rfl rfl rfl ?_
              refine ev_loc f_X12_tray (nx := 38) rfl rfl rfl rfl ?_
              refine ev_iastT f_X12_tray (nx := 39) rfl (hI.wf.s rfl) l4 (by decide) u8 (by decide) rfl (hI.astL (hI.wf.s rfl) (by decide +kernel : t_abw 72 0 3 0 3 = true) (t_cl1 l4 (by decide)) (t_cl2 l4 u8 (by decide) (by decide)) l12 u16 rfl) (hX.upI (t_inA_ok rfl)) (fun g23 e23 hI hX => ?_)
              refine ev_loc f_X12_tray (nx := 40) rfl rfl rfl rfl ?_
              refine ev_getR f_X12_tray (nx := 43) rfl (hI.wf.s rfl) rfl rfl (hI.wf.r rfl) rfl rfl ?_
              refine ev_loc f_X12_tray (nx := 44) rfl rfl rfl rfl ?_
              refine ev_loc f_X12_tray (nx := 45) rfl rfl rfl rfl ?_
              refine ev_iastT f_X12_tray (nx := 46) rfl (hI.wf.s rfl) l4 (by decide) u8 (by decide) rfl (hI.astL (hI.wf.s rfl) (by decide +kernel : t_abw 73 0 3 0 60 = true) (t_cl1 l4 (by decide)) (t_cl2 l4 u8 (by decide) (by decide)) l20 u22 rfl) (hX.upI (t_inA_ok rfl)) (fun g24 e24 hI hX => ?_)
              refine ev_ic f_X12_tray (nx := 47) (v := 0) rfl (by decide) rfl ?_
              refine ev_loc f_X12_tray (nx := 49) (lo' := [(4, .int 0), (0, .ref 69), (1, .int ar1), (2, .int ar2), (3, .int ar3)]) rfl rfl rfl rfl ?_
              have L25 : ∀ (m25 : Nat) (gi25 : Nat → Nat → Int32) (gl25 : Nat → Nat → Int64) (gr25 : Nat → Nat → Value) (y25_4 : Int32), t_I sh gi25 gr25 → t_X wl_m_tray sh gi gl gr gi25 gl25 gr25 → 0 ≤ y25_4.toInt → y25_4.toInt ≤ 60 → (60 - y25_4.toInt).toNat = m25 → x_Ev X (d + 2) n_X12_tray 49 [(4, .int y25_4), (0, .ref 69), (1, .int ar1), (2, .int ar2), (3, .int ar3)] [] (sh, gi25, gl25, gr25) (t_P wl_m_tray sh gi gl gr (t_Ri 0 1)) := by
                intro m25
                induction m25 using Nat.strongRecOn with
                | _ m25 ih25 =>
                intro gi25 gl25 gr25 y25_4 hI hX l25_4 u25_4 hm25
                refine ev_loc f_X12_tray (nx := 51) rfl rfl rfl rfl ?_
                refine ev_loc f_X12_tray (nx := 52) rfl rfl rfl rfl ?_
                refine ev_if f_X12_tray (t1 := 74) (t2 := 55) rfl rfl rfl (fun h26 => ?_) (fun h26 => ?_)
                · refine ev_loc f_X12_tray (nx := 75) rfl rfl rfl rfl ?_
                  refine ev_ic f_X12_tray (nx := 76) (v := 0) rfl (by decide) rfl ?_
                  refine ev_inV2 f_X12_tray (nx := 79) (lo2 := [(0, .ref 69), (1, .int 0)]) rfl rfl rfl rfl f_X12_is (hI.wf.s rfl) rfl rfl rfl rfl rfl ?_
                  refine ev_loc f_X12_is (nx := 1) rfl rfl rfl rfl ?_
                  refine ev_loc f_X12_is (nx := 2) rfl rfl rfl rfl ?_
                  refine ev_putIT f_X12_is (nx := 5) rfl (hI.wf.s rfl) rfl rfl rfl (hI.put0 (hI.wf.s rfl) rfl rfl) (hX.upI rfl) (fun g27 e27 hI hX => ?_)
                  refine ev_loc f_X12_is (nx := 6) rfl rfl rfl rfl ?_
                  refine ev_t f_X12_is (t1 := 9) (t2 := 13) rfl rfl rfl (by decide) ?_
                  refine ev_ic f_X12_is (nx := 10) (v := 1) rfl (by decide) rfl ?_
                  refine ev_jmp f_X12_is (nx := 14) rfl rfl rfl ?_
                  refine ev_retK1 f_X12_is rfl rfl rfl ?_
                  exact ev_ret f_X12_tray rfl rfl rfl ⟨_, _, _, rfl, hI, hX, ⟨_, rfl, (Int.le_trans (by decide : (0:Int) ≤ 1) (by decide : (1:Int) ≤ (1:Int32).toInt)), (by decide : (1:Int32).toInt ≤ (1:Int))⟩⟩
                · have u28 : y25_4.toInt ≤ 59 := t_ltu (t_nle h26) u22 rfl
                  have l29 : 1 ≤ ar3.toInt := t_ltl (t_nle h26) l25_4 rfl
                  refine ev_loc f_X12_tray (nx := 56) rfl rfl rfl rfl ?_
                  refine ev_getR f_X12_tray (nx := 59) rfl (hI.wf.s rfl) rfl rfl (hI.wf.r rfl) rfl rfl ?_
                  refine ev_bp f_X12_tray (nx := 61) (v := 60) rfl (by decide) rfl ?_
                  refine ev_loc f_X12_tray (nx := 62) rfl rfl rfl rfl ?_
                  refine ev_mulL f_X12_tray (nx := 63) (c := 60) (l := 0) (u := 180) rfl (by decide) (by decide) l4 u8 rfl rfl (by decide) (by decide) rfl (fun z30 e30 l30 u30 => ?_)
                  refine ev_loc f_X12_tray (nx := 65) rfl rfl rfl rfl ?_
                  refine ev_addR f_X12_tray (nx := 66) (l := 0) (u := 239) rfl l30 u30 l25_4 u28 rfl rfl (by decide) (by decide) rfl (fun z31 e31 l31 u31 => ?_)
                  refine ev_lc f_X12_tray (nx := 67) (v := 0) rfl (by decide) rfl ?_
                  refine ev_lastT f_X12_tray (nx := 68) rfl (hI.wf.s rfl) l31 (by decide) u31 (by decide) rfl (hX.upL (t_inA_ok rfl)) (fun g32 e32 hX => ?_)
                  refine ev_incR f_X12_tray (nx := 71) (c := 1) (l := 1) (u := 60) rfl rfl (by decide) (by decide) l25_4 u28 rfl rfl (by decide) (by decide) rfl (fun z33 e33 l33 u33 => ?_)
                  refine ev_jmp f_X12_tray (nx := 49) rfl rfl rfl ?_
                  refine ev_sub (lo := [(4, .int z33), (0, .ref 69), (1, .int ar1), (2, .int ar2), (3, .int ar3)]) rfl (t_sc rfl (t_sc rfl (t_sc rfl (t_sc rfl (t_sc rfl t_sn))))) ?_
                  exact ih25 _ (by omega) gi25 g32 gr25 (z33) hI hX  (Int.le_trans (by decide : (0:Int) ≤ 1) l33) u33 rfl
              refine ev_sub (lo := [(4, .int 0), (0, .ref 69), (1, .int ar1), (2, .int ar2), (3, .int ar3)]) rfl (t_sc rfl (t_sc rfl (t_sc rfl (t_sc rfl (t_sc rfl t_sn))))) ?_
              exact L25 _ g24 gl gr (0) hI hX  (by decide : (0:Int) ≤ (0:Int32).toInt) (Int.le_trans (by decide : (0:Int32).toInt ≤ (0:Int)) (by decide : (0:Int) ≤ 60)) rfl
            · have l34 : 61 ≤ ar3.toInt := t_ltl (t_nle h21) (by decide : (60:Int) ≤ (60:Int32).toInt) rfl
              refine ev_loc f_X12_tray (nx := 27) rfl rfl rfl rfl ?_
              refine ev_ic f_X12_tray (nx := 28) (v := 1) rfl (by decide) rfl ?_
              refine ev_inV2 f_X12_tray (nx := 31) (lo2 := [(0, .ref 69), (1, .int 1)]) rfl rfl rfl rfl f_X12_is (hI.wf.s rfl) rfl rfl rfl rfl rfl ?_
              refine ev_loc f_X12_is (nx := 1) rfl rfl rfl rfl ?_
              refine ev_loc f_X12_is (nx := 2) rfl rfl rfl rfl ?_
              refine ev_putIT f_X12_is (nx := 5) rfl (hI.wf.s rfl) rfl rfl rfl (hI.put0 (hI.wf.s rfl) rfl rfl) (hX.upI rfl) (fun g35 e35 hI hX => ?_)
              refine ev_loc f_X12_is (nx := 6) rfl rfl rfl rfl ?_
              refine ev_f f_X12_is (t1 := 9) (t2 := 13) rfl rfl rfl (by decide) ?_
              refine ev_ic f_X12_is (nx := 14) (v := 0) rfl (by decide) rfl ?_
              refine ev_retK1 f_X12_is rfl rfl rfl ?_
              exact ev_ret f_X12_tray rfl rfl rfl ⟨_, _, _, rfl, hI, hX, ⟨_, rfl, (by decide : (0:Int) ≤ (0:Int32).toInt), (Int.le_trans (by decide : (0:Int32).toInt ≤ (0:Int)) (by decide : (0:Int) ≤ 1))⟩⟩
def wl_m_write : List (Nat × Nat) := [(69, 2), (74, 9999)]
theorem c_m_write {X : x_Ext} {d : Nat} {sh : List (Nat ⊕ (Nat × Nat))} {gi : Nat → Nat → Int32} {gl : Nat → Nat → Int64} {gr : Nat → Nat → Value} (hI : t_I sh gi gr) (ar1 : Int32) (ar2 : Int32) (ar3 : Int64) : x_Me X (d + 3) n_X12_write [.ref 69, .int ar1, .int ar2, .long ar3] (sh, gi, gl, gr) (t_P wl_m_write sh gi gl gr (t_Ri 0 1)) := by
  have hX : t_X wl_m_write sh gi gl gr gi gl gr := t_X.rf
  refine me_i f_X12_write (hI.wf.s rfl) rfl rfl rfl ?_
  refine ev_loc f_X12_write (nx := 1) rfl rfl rfl rfl ?_
  refine ev_loc f_X12_write (nx := 2) rfl rfl rfl rfl ?_
  refine ev_loc f_X12_write (nx := 3) rfl rfl rfl rfl ?_
  refine ev_inV3 f_X12_write (nx := 6) (lo2 := [(0, .ref 69), (1, .int ar1), (2, .int ar2)]) rfl rfl rfl rfl f_X12_wrongPlace (hI.wf.s rfl) rfl rfl rfl rfl rfl ?_
  refine ev_loc f_X12_wrongPlace (nx := 1) rfl rfl rfl rfl ?_
  refine ev_inS1 f_X12_wrongPlace (nx := 4) (lo2 := [(0, .int ar1)]) rfl rfl rfl rfl f_X12_isTray rfl rfl rfl rfl ?_
  refine ev_loc f_X12_isTray (nx := 1) rfl rfl rfl rfl ?_
  refine ev_if f_X12_isTray (t1 := 13) (t2 := 4) rfl rfl rfl (fun h1 => ?_) (fun h1 => ?_)
  · have u2 : ar1.toInt ≤ (-1) := t_ltu h1 (by decide : (0:Int32).toInt ≤ (0:Int)) rfl
    refine ev_ic f_X12_isTray (nx := 14) (v := 0) rfl (by decide) rfl ?_
    refine ev_retK1 f_X12_isTray rfl rfl rfl ?_
    refine ev_t f_X12_wrongPlace (t1 := 7) (t2 := 11) rfl rfl rfl (by decide) ?_
    refine ev_ic f_X12_wrongPlace (nx := 8) (v := 1) rfl (by decide) rfl ?_
    refine ev_jmp f_X12_wrongPlace (nx := 44) rfl rfl rfl ?_
    refine ev_retK1 f_X12_wrongPlace rfl rfl rfl ?_
    refine ev_loc f_X12_write (nx := 8) (lo' := [(5, .int 1), (0, .ref 69), (1, .int ar1), (2, .int ar2), (3, .long ar3)]) rfl rfl rfl rfl ?_
    refine ev_loc f_X12_write (nx := 10) rfl rfl rfl rfl ?_
    refine ev_f f_X12_write (t1 := 13) (t2 := 34) rfl rfl rfl (by decide) ?_
    refine ev_loc f_X12_write (nx := 35) rfl rfl rfl rfl ?_
    refine ev_loc f_X12_write (nx := 37) rfl rfl rfl rfl ?_
    refine ev_inV2 f_X12_write (nx := 40) (lo2 := [(0, .ref 69), (1, .int 1)]) rfl rfl rfl rfl f_X12_is (hI.wf.s rfl) rfl rfl rfl rfl rfl ?_
    refine ev_loc f_X12_is (nx := 1) rfl rfl rfl rfl ?_
    refine ev_loc f_X12_is (nx := 2) rfl rfl rfl rfl ?_
    refine ev_putIT f_X12_is (nx := 5) rfl (hI.wf.s rfl) rfl rfl rfl (hI.put0 (hI.wf.s rfl) rfl rfl) (hX.upI rfl) (fun g3 e3 hI hX => ?_)
    refine ev_loc f_X12_is (nx := 6) rfl rfl rfl rfl ?_
    refine ev_f f_X12_is (t1 := 9) (t2 := 13) rfl rfl rfl (by decide) ?_
    refine ev_ic f_X12_is (nx := 14) (v := 0) rfl (by decide) rfl ?_
    refine ev_retK1 f_X12_is rfl rfl rfl ?_
    exact ev_ret f_X12_write rfl rfl rfl ⟨_, _, _, rfl, hI, hX, ⟨_, rfl, (by decide : (0:Int) ≤ (0:Int32).toInt), (Int.le_trans (by decide : (0:Int32).toInt ≤ (0:Int)) (by decide : (0:Int) ≤ 1))⟩⟩
  · have l4 : 0 ≤ ar1.toInt := t_lel (t_nlt h1) (by decide : (0:Int) ≤ (0:Int32).toInt)
    refine ev_loc f_X12_isTray (nx := 5) rfl rfl rfl rfl ?_
    refine ev_ic f_X12_isTray (nx := 6) (v := 4) rfl (by decide) rfl ?_
    refine ev_if f_X12_isTray (t1 := 13) (t2 := 9) rfl rfl rfl (fun h5 => ?_) (fun h5 => ?_)
    · have l6 : 4 ≤ ar1.toInt := t_lel h5 (by decide : (4:Int) ≤ (4:Int32).toInt)
      refine ev_ic f_X12_isTray (nx := 14) (v := 0) rfl (by decide) rfl ?_
      refine ev_retK1 f_X12_isTray rfl rfl rfl ?_
      refine ev_t f_X12_wrongPlace (t1 := 7) (t2 := 11) rfl rfl rfl (by decide) ?_
      refine ev_ic f_X12_wrongPlace (nx := 8) (v := 1) rfl (by decide) rfl ?_
      refine ev_jmp f_X12_wrongPlace (nx := 44) rfl rfl rfl ?_
      refine ev_retK1 f_X12_wrongPlace rfl rfl rfl ?_
      refine ev_loc f_X12_write (nx := 8) (lo' := [(5, .int 1), (0, .ref 69), (1, .int ar1), (2, .int ar2), (3, .long ar3)]) rfl rfl rfl rfl ?_
      refine ev_loc f_X12_write (nx := 10) rfl rfl rfl rfl ?_
      refine ev_f f_X12_write (t1 := 13) (t2 := 34) rfl rfl rfl (by decide) ?_
      refine ev_loc f_X12_write (nx := 35) rfl rfl rfl rfl ?_
      refine ev_loc f_X12_write (nx := 37) rfl rfl rfl rfl ?_
      refine ev_inV2 f_X12_write (nx := 40) (lo2 := [(0, .ref 69), (1, .int 1)]) rfl rfl rfl rfl f_X12_is (hI.wf.s rfl) rfl rfl rfl rfl rfl ?_
      refine ev_loc f_X12_is (nx := 1) rfl rfl rfl rfl ?_
      refine ev_loc f_X12_is (nx := 2) rfl rfl rfl rfl ?_
      refine ev_putIT f_X12_is (nx := 5) rfl (hI.wf.s rfl) rfl rfl rfl (hI.put0 (hI.wf.s rfl) rfl rfl) (hX.upI rfl) (fun g7 e7 hI hX => ?_)
      refine ev_loc f_X12_is (nx := 6) rfl rfl rfl rfl ?_
      refine ev_f f_X12_is (t1 := 9) (t2 := 13) rfl rfl rfl (by decide) ?_
      refine ev_ic f_X12_is (nx := 14) (v := 0) rfl (by decide) rfl ?_
      refine ev_retK1 f_X12_is rfl rfl rfl ?_
      exact ev_ret f_X12_write rfl rfl rfl ⟨_, _, _, rfl, hI, hX, ⟨_, rfl, (by decide : (0:Int) ≤ (0:Int32).toInt), (Int.le_trans (by decide : (0:Int32).toInt ≤ (0:Int)) (by decide : (0:Int) ≤ 1))⟩⟩
    · have u8 : ar1.toInt ≤ 3 := t_ltu (t_nle h5) (by decide : (4:Int32).toInt ≤ (4:Int)) rfl
      refine ev_ic f_X12_isTray (nx := 10) (v := 1) rfl (by decide) rfl ?_
      refine ev_jmp f_X12_isTray (nx := 14) rfl rfl rfl ?_
      refine ev_retK1 f_X12_isTray rfl rfl rfl ?_
      refine ev_f f_X12_wrongPlace (t1 := 7) (t2 := 11) rfl rfl rfl (by decide) ?_
      refine ev_loc f_X12_wrongPlace (nx := 12) rfl rfl rfl rfl ?_
      refine ev_getR f_X12_wrongPlace (nx := 15) rfl (hI.wf.s rfl) rfl rfl (hI.wf.r rfl) rfl rfl ?_
      refine ev_loc f_X12_wrongPlace (nx := 16) rfl rfl rfl rfl ?_
      refine ev_ialdT f_X12_wrongPlace (nx := 17) rfl (hI.wf.s rfl) l4 (by decide) u8 (by decide) rfl (fun w9 e9 => ?_)
      obtain ⟨l9, u9⟩ := hI.abi e9 (by decide +kernel : t_abr 73 0 3 (-1) 60 = true) l4 (by decide) u8 (by decide)
      refine ev_ic f_X12_wrongPlace (nx := 18) (v := -1) rfl (by decide) rfl ?_
      refine ev_if f_X12_wrongPlace (t1 := 21) (t2 := 25) rfl rfl rfl (fun h10 => ?_) (fun h10 => ?_)
      · have u11 : w9.toInt ≤ (-1) := t_equ h10 (by decide : ((-1):Int32).toInt ≤ ((-1):Int))
        refine ev_ic f_X12_wrongPlace (nx := 22) (v := 2) rfl (by decide) rfl ?_
        refine ev_jmp f_X12_wrongPlace (nx := 44) rfl rfl rfl ?_
        refine ev_retK1 f_X12_wrongPlace rfl rfl rfl ?_
        refine ev_loc f_X12_write (nx := 8) (lo' := [(5, .int 2), (0, .ref 69), (1, .int ar1), (2, .int ar2), (3, .long ar3)]) rfl rfl rfl rfl ?_
        refine ev_loc f_X12_write (nx := 10) rfl rfl rfl rfl ?_
        refine ev_f f_X12_write (t1 := 13) (t2 := 34) rfl rfl rfl (by decide) ?_
        refine ev_loc f_X12_write (nx := 35) rfl rfl rfl rfl ?_
        refine ev_loc f_X12_write (nx := 37) rfl rfl rfl rfl ?_
        refine ev_inV2 f_X12_write (nx := 40) (lo2 := [(0, .ref 69), (1, .int 2)]) rfl rfl rfl rfl f_X12_is (hI.wf.s rfl) rfl rfl rfl rfl rfl ?_
        refine ev_loc f_X12_is (nx := 1) rfl rfl rfl rfl ?_
        refine ev_loc f_X12_is (nx := 2) rfl rfl rfl rfl ?_
        refine ev_putIT f_X12_is (nx := 5) rfl (hI.wf.s rfl) rfl rfl rfl (hI.put0 (hI.wf.s rfl) rfl rfl) (hX.upI rfl) (fun g12 e12 hI hX => ?_)
        refine ev_loc f_X12_is (nx := 6) rfl rfl rfl rfl ?_
        refine ev_f f_X12_is (t1 := 9) (t2 := 13) rfl rfl rfl (by decide) ?_
        refine ev_ic f_X12_is (nx := 14) (v := 0) rfl (by decide) rfl ?_
        refine ev_retK1 f_X12_is rfl rfl rfl ?_
        exact ev_ret f_X12_write rfl rfl rfl ⟨_, _, _, rfl, hI, hX, ⟨_, rfl, (by decide : (0:Int) ≤ (0:Int32).toInt), (Int.le_trans (by decide : (0:Int32).toInt ≤ (0:Int)) (by decide : (0:Int) ≤ 1))⟩⟩
      · have l13 : 0 ≤ w9.toInt := t_nel h10 l9 rfl rfl
        refine ev_loc f_X12_wrongPlace (nx := 26) rfl rfl rfl rfl ?_
        refine ev_if f_X12_wrongPlace (t1 := 39) (t2 := 29) rfl rfl rfl (fun h14 => ?_) (fun h14 => ?_)
        · have u15 : ar2.toInt ≤ (-1) := t_ltu h14 (by decide : (0:Int32).toInt ≤ (0:Int)) rfl
          refine ev_ic f_X12_wrongPlace (nx := 40) (v := 3) rfl (by decide) rfl ?_
          refine ev_jmp f_X12_wrongPlace (nx := 44) rfl rfl rfl ?_
          refine ev_retK1 f_X12_wrongPlace rfl rfl rfl ?_
          refine ev_loc f_X12_write (nx := 8) (lo' := [(5, .int 3), (0, .ref 69), (1, .int ar1), (2, .int ar2), (3, .long ar3)]) rfl rfl rfl rfl ?_
          refine ev_loc f_X12_write (nx := 10) rfl rfl rfl rfl ?_
          refine ev_f f_X12_write (t1 := 13) (t2 := 34) rfl rfl rfl (by decide) ?_
          refine ev_loc f_X12_write (nx := 35) rfl rfl rfl rfl ?_
          refine ev_loc f_X12_write (nx := 37) rfl rfl rfl rfl ?_
          refine ev_inV2 f_X12_write (nx := 40) (lo2 := [(0, .ref 69), (1, .int 3)]) rfl rfl rfl rfl f_X12_is (hI.wf.s rfl) rfl rfl rfl rfl rfl ?_
          refine ev_loc f_X12_is (nx := 1) rfl rfl rfl rfl ?_
          refine ev_loc f_X12_is (nx := 2) rfl rfl rfl rfl ?_
          refine ev_putIT f_X12_is (nx := 5) rfl (hI.wf.s rfl) rfl rfl rfl (hI.put0 (hI.wf.s rfl) rfl rfl) (hX.upI rfl) (fun g16 e16 hI hX => ?_)
          refine ev_loc f_X12_is (nx := 6) rfl rfl rfl rfl ?_
          refine ev_f f_X12_is (t1 := 9) (t2 := 13) rfl rfl rfl (by decide) ?_
          refine ev_ic f_X12_is (nx := 14) (v := 0) rfl (by decide) rfl ?_
          refine ev_retK1 f_X12_is rfl rfl rfl ?_
          exact ev_ret f_X12_write rfl rfl rfl ⟨_, _, _, rfl, hI, hX, ⟨_, rfl, (by decide : (0:Int) ≤ (0:Int32).toInt), (Int.le_trans (by decide : (0:Int32).toInt ≤ (0:Int)) (by decide : (0:Int) ≤ 1))⟩⟩
        · have l17 : 0 ≤ ar2.toInt := t_lel (t_nlt h14) (by decide : (0:Int) ≤ (0:Int32).toInt)
          refine ev_loc f_X12_wrongPlace (nx := 30) rfl rfl rfl rfl ?_
          refine ev_loc f_X12_wrongPlace (nx := 31) rfl rfl rfl rfl ?_
          refine ev_getR f_X12_wrongPlace (nx := 34) rfl (hI.wf.s rfl) rfl rfl (hI.wf.r rfl) rfl rfl ?_
          refine ev_loc f_X12_wrongPlace (nx := 35) rfl rfl rfl rfl ?_
          refine ev_ialdT f_X12_wrongPlace (nx := 36) rfl (hI.wf.s rfl) l4 (by decide) u8 (by decide) rfl (fun w18 e18 => ?_)
          obtain ⟨l18, u18⟩ := hI.abi e18 (by decide +kernel : t_abr 73 0 3 (-1) 60 = true) l4 (by decide) u8 (by decide)
          refine ev_if f_X12_wrongPlace (t1 := 43) (t2 := 39) rfl rfl rfl (fun h19 => ?_) (fun h19 => ?_)
          · have u20 : ar2.toInt ≤ 59 := t_ltu h19 u18 rfl
            have l21 : 1 ≤ w18.toInt := t_ltl h19 l17 rfl
            refine ev_ic f_X12_wrongPlace (nx := 44) (v := 0) rfl (by decide) rfl ?_
            refine ev_retK1 f_X12_wrongPlace rfl rfl rfl ?_
            refine ev_loc f_X12_write (nx := 8) (lo' := [(5, .int 0), (0, .ref 69), (1, .int ar1), (2, .int ar2), (3, .long ar3)]) rfl rfl rfl rfl ?_
            refine ev_loc f_X12_write (nx := 10) rfl rfl rfl rfl ?_
            refine ev_t f_X12_write (t1 := 13) (t2 := 34) rfl rfl rfl (by decide) ?_
            refine ev_loc f_X12_write (nx := 14) rfl rfl rfl rfl ?_
            refine ev_getR f_X12_write (nx := 17) rfl (hI.wf.s rfl) rfl rfl (hI.wf.r rfl) rfl rfl ?_
            refine ev_bp f_X12_write (nx := 19) (v := 60) rfl (by decide) rfl ?_
            refine ev_loc f_X12_write (nx := 20) rfl rfl rfl rfl ?_
            refine ev_mulL f_X12_write (nx := 21) (c := 60) (l := 0) (u := 180) rfl (by decide) (by decide) l4 u8 rfl rfl (by decide) (by decide) rfl (fun z22 e22 l22 u22 => ?_)
            refine ev_loc f_X12_write (nx := 22) rfl rfl rfl rfl ?_
            refine ev_addR f_X12_write (nx := 23) (l := 0) (u := 239) rfl l22 u22 l17 u20 rfl rfl (by decide) (by decide) rfl (fun z23 e23 l23 u23 => ?_)
            refine ev_loc f_X12_write (nx := 24) rfl rfl rfl rfl ?_
            refine ev_loc f_X12_write (nx := 25) rfl rfl rfl rfl ?_
            refine ev_getR f_X12_write (nx := 28) rfl (hI.wf.s rfl) rfl rfl (hI.wf.r rfl) rfl rfl ?_
            refine ev_loc f_X12_write (nx := 29) rfl rfl rfl rfl ?_
            refine ev_ialdT f_X12_write (nx := 30) rfl (hI.wf.s rfl) l4 (by decide) u8 (by decide) rfl (fun w24 e24 => ?_)
            obtain ⟨l24, u24⟩ := hI.abi e24 (by decide +kernel : t_abr 72 0 3 0 3 = true) l4 (by decide) u8 (by decide)
            refine ev_inS2 f_X12_write (nx := 33) (lo2 := [(0, .long ar3), (2, .int w24)]) rfl rfl rfl rfl f_X12_cut rfl rfl rfl rfl ?_
            refine ev_loc f_X12_cut (nx := 1) rfl rfl rfl rfl ?_
            refine ev_if f_X12_cut (t1 := 4) (t2 := 11) rfl rfl rfl (fun h25 => ?_) (fun h25 => ?_)
            · have u26 : w24.toInt ≤ 0 := t_equ h25 (by decide : (0:Int32).toInt ≤ (0:Int))
              refine ev_loc f_X12_cut (nx := 5) rfl rfl rfl rfl ?_
              refine ev_anyI f_X12_cut (nx := 6) rfl rfl rfl rfl (fun z27 => ?_)
              refine ev_anyI f_X12_cut (nx := 7) rfl rfl rfl rfl (fun z28 => ?_)
              refine ev_anyL f_X12_cut (nx := 8) rfl rfl rfl rfl (fun z29 => ?_)
              refine ev_jmp f_X12_cut (nx := 35) rfl rfl rfl ?_
              refine ev_retK1 f_X12_cut rfl rfl rfl ?_
              refine ev_lastT f_X12_write (nx := 34) rfl (hI.wf.s rfl) l23 (by decide) u23 (by decide) rfl (hX.upL (t_inA_ok rfl)) (fun g30 e30 hX => ?_)
              refine ev_loc f_X12_write (nx := 35) rfl rfl rfl rfl ?_
              refine ev_loc f_X12_write (nx := 37) rfl rfl rfl rfl ?_
              refine ev_inV2 f_X12_write (nx := 40) (lo2 := [(0, .ref 69), (1, .int 0)]) rfl rfl rfl rfl f_X12_is (hI.wf.s rfl) rfl rfl rfl rfl rfl ?_
              refine ev_loc f_X12_is (nx := 1) rfl rfl rfl rfl ?_
              refine ev_loc f_X12_is (nx := 2) rfl rfl rfl rfl ?_
              refine ev_putIT f_X12_is (nx := 5) rfl (hI.wf.s rfl) rfl rfl rfl (hI.put0 (hI.wf.s rfl) rfl rfl) (hX.upI rfl) (fun g31 e31 hI hX => ?_)
              refine ev_loc f_X12_is (nx := 6) rfl rfl rfl rfl ?_
              refine ev_t f_X12_is (t1 := 9) (t2 := 13) rfl rfl rfl (by decide) ?_
              refine ev_ic f_X12_is (nx := 10) (v := 1) rfl (by decide) rfl ?_
              refine ev_jmp f_X12_is (nx := 14) rfl rfl rfl ?_
              refine ev_retK1 f_X12_is rfl rfl rfl ?_
              exact ev_ret f_X12_write rfl rfl rfl ⟨_, _, _, rfl, hI, hX, ⟨_, rfl, (Int.le_trans (by decide : (0:Int) ≤ 1) (by decide : (1:Int) ≤ (1:Int32).toInt)), (by decide : (1:Int32).toInt ≤ (1:Int))⟩⟩
            · have l32 : 1 ≤ w24.toInt := t_nel h25 l24 rfl rfl
              refine ev_loc f_X12_cut (nx := 12) rfl rfl rfl rfl ?_
              refine ev_ic f_X12_cut (nx := 13) (v := 1) rfl (by decide) rfl ?_
              refine ev_if f_X12_cut (t1 := 16) (t2 := 23) rfl rfl rfl (fun h33 => ?_) (fun h33 => ?_)
              · have u34 : w24.toInt ≤ 1 := t_equ h33 (by decide : (1:Int32).toInt ≤ (1:Int))
                refine ev_loc f_X12_cut (nx := 17) rfl rfl rfl rfl ?_
                refine ev_anyI f_X12_cut (nx := 18) rfl rfl rfl rfl (fun z35 => ?_)
                refine ev_anyI f_X12_cut (nx := 19) rfl rfl rfl rfl (fun z36 => ?_)
                refine ev_anyL f_X12_cut (nx := 20) rfl rfl rfl rfl (fun z37 => ?_)
                refine ev_jmp f_X12_cut (nx := 35) rfl rfl rfl ?_
                refine ev_retK1 f_X12_cut rfl rfl rfl ?_
                refine ev_lastT f_X12_write (nx := 34) rfl (hI.wf.s rfl) l23 (by decide) u23 (by decide) rfl (hX.upL (t_inA_ok rfl)) (fun g38 e38 hX => ?_)
                refine ev_loc f_X12_write (nx := 35) rfl rfl rfl rfl ?_
                refine ev_loc f_X12_write (nx := 37) rfl rfl rfl rfl ?_
                refine ev_inV2 f_X12_write (nx := 40) (lo2 := [(0, .ref 69), (1, .int 0)]) rfl rfl rfl rfl f_X12_is (hI.wf.s rfl) rfl rfl rfl rfl rfl ?_
                refine ev_loc f_X12_is (nx := 1) rfl rfl rfl rfl ?_
                refine ev_loc f_X12_is (nx := 2) rfl rfl rfl rfl ?_
                refine ev_putIT f_X12_is (nx := 5) rfl (hI.wf.s rfl) rfl rfl rfl (hI.put0 (hI.wf.s rfl) rfl rfl) (hX.upI rfl) (fun g39 e39 hI hX => ?_)
                refine ev_loc f_X12_is (nx := 6) rfl rfl rfl rfl ?_
                refine ev_t f_X12_is (t1 := 9) (t2 := 13) rfl rfl rfl (by decide) ?_
                refine ev_ic f_X12_is (nx := 10) (v := 1) rfl (by decide) rfl ?_
                refine ev_jmp f_X12_is (nx := 14) rfl rfl rfl ?_
                refine ev_retK1 f_X12_is rfl rfl rfl ?_
                exact ev_ret f_X12_write rfl rfl rfl ⟨_, _, _, rfl, hI, hX, ⟨_, rfl, (Int.le_trans (by decide : (0:Int) ≤ 1) (by decide : (1:Int) ≤ (1:Int32).toInt)), (by decide : (1:Int32).toInt ≤ (1:Int))⟩⟩
              · have l40 : 2 ≤ w24.toInt := t_nel h33 l32 rfl rfl
                refine ev_loc f_X12_cut (nx := 24) rfl rfl rfl rfl ?_
                refine ev_ic f_X12_cut (nx := 25) (v := 2) rfl (by decide) rfl ?_
                refine ev_if f_X12_cut (t1 := 28) (t2 := 34) rfl rfl rfl (fun h41 => ?_) (fun h41 => ?_)
                · have u42 : w24.toInt ≤ 2 := t_equ h41 (by decide : (2:Int32).toInt ≤ (2:Int))
                  refine ev_loc f_X12_cut (nx := 29) rfl rfl rfl rfl ?_
                  refine ev_anyI f_X12_cut (nx := 30) rfl rfl rfl rfl (fun z43 => ?_)
                  refine ev_anyL f_X12_cut (nx := 31) rfl rfl rfl rfl (fun z44 => ?_)
                  refine ev_jmp f_X12_cut (nx := 35) rfl rfl rfl ?_
                  refine ev_retK1 f_X12_cut rfl rfl rfl ?_
                  refine ev_lastT f_X12_write (nx := 34) rfl (hI.wf.s rfl) l23 (by decide) u23 (by decide) rfl (hX.upL (t_inA_ok rfl)) (fun g45 e45 hX => ?_)
                  refine ev_loc f_X12_write (nx := 35) rfl rfl rfl rfl ?_
                  refine ev_loc f_X12_write (nx := 37) rfl rfl rfl rfl ?_
                  refine ev_inV2 f_X12_write (nx := 40) (lo2 := [(0, .ref 69), (1, .int 0)]) rfl rfl rfl rfl f_X12_is (hI.wf.s rfl) rfl rfl rfl rfl rfl ?_
                  refine ev_loc f_X12_is (nx := 1) rfl rfl rfl rfl ?_
                  refine ev_loc f_X12_is (nx := 2) rfl rfl rfl rfl ?_
                  refine ev_putIT f_X12_is (nx := 5) rfl (hI.wf.s rfl) rfl rfl rfl (hI.put0 (hI.wf.s rfl) rfl rfl) (hX.upI rfl) (fun g46 e46 hI hX => ?_)
                  refine ev_loc f_X12_is (nx := 6) rfl rfl rfl rfl ?_
                  refine ev_t f_X12_is (t1 := 9) (t2 := 13) rfl rfl rfl (by decide) ?_
                  refine ev_ic f_X12_is (nx := 10) (v := 1) rfl (by decide) rfl ?_
                  refine ev_jmp f_X12_is (nx := 14) rfl rfl rfl ?_
                  refine ev_retK1 f_X12_is rfl rfl rfl ?_
                  exact ev_ret f_X12_write rfl rfl rfl ⟨_, _, _, rfl, hI, hX, ⟨_, rfl, (Int.le_trans (by decide : (0:Int) ≤ 1) (by decide : (1:Int) ≤ (1:Int32).toInt)), (by decide : (1:Int32).toInt ≤ (1:Int))⟩⟩
                · have l47 : 3 ≤ w24.toInt := t_nel h41 l40 rfl rfl
                  refine ev_loc f_X12_cut (nx := 35) rfl rfl rfl rfl ?_
                  refine ev_retK1 f_X12_cut rfl rfl rfl ?_
                  refine ev_lastT f_X12_write (nx := 34) rfl (hI.wf.s rfl) l23 (by decide) u23 (by decide) rfl (hX.upL (t_inA_ok rfl)) (fun g48 e48 hX => ?_)
                  refine ev_loc f_X12_write (nx := 35) rfl rfl rfl rfl ?_
                  refine ev_loc f_X12_write (nx := 37) rfl rfl rfl rfl ?_
                  refine ev_inV2 f_X12_write (nx := 40) (lo2 := [(0, .ref 69), (1, .int 0)]) rfl rfl rfl rfl f_X12_is (hI.wf.s rfl) rfl rfl rfl rfl rfl ?_
                  refine ev_loc f_X12_is (nx := 1) rfl rfl rfl rfl ?_
                  refine ev_loc f_X12_is (nx := 2) rfl rfl rfl rfl ?_
                  refine ev_putIT f_X12_is (nx := 5) rfl (hI.wf.s rfl) rfl rfl rfl (hI.put0 (hI.wf.s rfl) rfl rfl) (hX.upI rfl) (fun g49 e49 hI hX => ?_)
                  refine ev_loc f_X12_is (nx := 6) rfl rfl rfl rfl ?_
                  refine ev_t f_X12_is (t1 := 9) (t2 := 13) rfl rfl rfl (by decide) ?_
                  refine ev_ic f_X12_is (nx := 10) (v := 1) rfl (by decide) rfl ?_
                  refine ev_jmp f_X12_is (nx := 14) rfl rfl rfl ?_
                  refine ev_retK1 f_X12_is rfl rfl rfl ?_
                  exact ev_ret f_X12_write rfl rfl rfl ⟨_, _, _, rfl, hI, hX, ⟨_, rfl, (Int.le_trans (by decide : (0:Int) ≤ 1) (by decide : (1:Int) ≤ (1:Int32).toInt)), (by decide : (1:Int32).toInt ≤ (1:Int))⟩⟩
          · refine ev_ic f_X12_wrongPlace (nx := 40) (v := 3) rfl (by decide) rfl ?_
            refine ev_jmp f_X12_wrongPlace (nx := 44) rfl rfl rfl ?_
            refine ev_retK1 f_X12_wrongPlace rfl rfl rfl ?_
            refine ev_loc f_X12_write (nx := 8) (lo' := [(5, .int 3), (0, .ref 69), (1, .int ar1), (2, .int ar2), (3, .long ar3)]) rfl rfl rfl rfl ?_
            refine ev_loc f_X12_write (nx := 10) rfl rfl rfl rfl ?_
            refine ev_f f_X12_write (t1 := 13) (t2 := 34) rfl rfl rfl (by decide) ?_
            refine ev_loc f_X12_write (nx := 35) rfl rfl rfl rfl ?_
            refine ev_loc f_X12_write (nx := 37) rfl rfl rfl rfl ?_
            refine ev_inV2 f_X12_write (nx := 40) (lo2 := [(0, .ref 69), (1, .int 3)]) rfl rfl rfl rfl f_X12_is (hI.wf.s rfl) rfl rfl rfl rfl rfl ?_
            refine ev_loc f_X12_is (nx := 1) rfl rfl rfl rfl ?_
            refine ev_loc f_X12_is (nx := 2) rfl rfl rfl rfl ?_
            refine ev_putIT f_X12_is (nx := 5) rfl (hI.wf.s rfl) rfl rfl rfl (hI.put0 (hI.wf.s rfl) rfl rfl) (hX.upI rfl) (fun g50 e50 hI hX => ?_)
            refine ev_loc f_X12_is (nx := 6) rfl rfl rfl rfl ?_
            refine ev_f f_X12_is (t1 := 9) (t2 := 13) rfl rfl rfl (by decide) ?_
            refine ev_ic f_X12_is (nx := 14) (v := 0) rfl (by decide) rfl ?_
            refine ev_retK1 f_X12_is rfl rfl rfl ?_
            exact ev_ret f_X12_write rfl rfl rfl ⟨_, _, _, rfl, hI, hX, ⟨_, rfl, (by decide : (0:Int) ≤ (0:Int32).toInt), (Int.le_trans (by decide : (0:Int32).toInt ≤ (0:Int)) (by decide : (0:Int) ≤ 1))⟩⟩
def wl_m_read : List (Nat × Nat) := [(69, 2)]
theorem c_m_read {X : x_Ext} {d : Nat} {sh : List (Nat ⊕ (Nat × Nat))} {gi : Nat → Nat → Int32} {gl : Nat → Nat → Int64} {gr : Nat → Nat → Value} (hI : t_I sh gi gr) (ar1 : Int32) (ar2 : Int32) : x_Me X (d + 3) n_X12_read [.ref 69, .int ar1, .int ar2] (sh, gi, gl, gr) (t_P wl_m_read sh gi gl gr t_Rl) := by
  have hX : t_X wl_m_read sh gi gl gr gi gl gr := t_X.rf
  refine me_i f_X12_read (hI.wf.s rfl) rfl rfl rfl ?_
  refine ev_loc f_X12_read (nx := 1) rfl rfl rfl rfl ?_
  refine ev_loc f_X12_read (nx := 2) rfl rfl rfl rfl ?_
  refine ev_loc f_X12_read (nx := 3) rfl rfl rfl rfl ?_
  refine ev_loc f_X12_read (nx := 4) rfl rfl rfl rfl ?_
  refine ev_inV3 f_X12_read (nx := 7) (lo2 := [(0, .ref 69), (1, .int ar1), (2, .int ar2)]) rfl rfl rfl rfl f_X12_wrongPlace (hI.wf.s rfl) rfl rfl rfl rfl rfl ?_
  refine ev_loc f_X12_wrongPlace (nx := 1) rfl rfl rfl rfl ?_
  refine ev_inS1 f_X12_wrongPlace (nx := 4) (lo2 := [(0, .int ar1)]) rfl rfl rfl rfl f_X12_isTray rfl rfl rfl rfl ?_
  refine ev_loc f_X12_isTray (nx := 1) rfl rfl rfl rfl ?_
  refine ev_if f_X12_isTray (t1 := 13) (t2 := 4) rfl rfl rfl (fun h1 => ?_) (fun h1 => ?_)
  · have u2 : ar1.toInt ≤ (-1) := t_ltu h1 (by decide : (0:Int32).toInt ≤ (0:Int)) rfl
    refine ev_ic f_X12_isTray (nx := 14) (v := 0) rfl (by decide) rfl ?_
    refine ev_retK1 f_X12_isTray rfl rfl rfl ?_
    refine ev_t f_X12_wrongPlace (t1 := 7) (t2 := 11) rfl rfl rfl (by decide) ?_
    refine ev_ic f_X12_wrongPlace (nx := 8) (v := 1) rfl (by decide) rfl ?_
    refine ev_jmp f_X12_wrongPlace (nx := 44) rfl rfl rfl ?_
    refine ev_retK1 f_X12_wrongPlace rfl rfl rfl ?_
    refine ev_putIT f_X12_read (nx := 10) rfl (hI.wf.s rfl) rfl rfl rfl (hI.put0 (hI.wf.s rfl) rfl rfl) (hX.upI rfl) (fun g3 e3 hI hX => ?_)
    refine ev_loc f_X12_read (nx := 11) rfl rfl rfl rfl ?_
    refine ev_gvI f_X12_read (nx := 14) (w := 1) rfl (hI.wf.s rfl) rfl rfl (by rw [e3]; exact x_up2_at _ _ _ _ : g3 69 2 = 1) rfl ?_
    refine ev_f f_X12_read (t1 := 23) (t2 := 17) rfl rfl rfl (by decide) ?_
    refine ev_ldL f_X12_read (nx := 20) (v := -1) rfl (by decide) rfl ?_
    refine ev_jmp f_X12_read (nx := 34) rfl rfl rfl ?_
    exact ev_ret f_X12_read rfl rfl rfl ⟨_, _, _, rfl, hI, hX, ⟨_, rfl⟩⟩
  · have l4 : 0 ≤ ar1.toInt := t_lel (t_nlt h1) (by decide : (0:Int) ≤ (0:Int32).toInt)
    refine ev_loc f_X12_isTray (nx := 5) rfl rfl rfl rfl ?_
    refine ev_ic f_X12_isTray (nx := 6) (v := 4) rfl (by decide) rfl ?_
    refine ev_if f_X12_isTray (t1 := 13) (t2 := 9) rfl rfl rfl (fun h5 => ?_) (fun h5 => ?_)
    · have l6 : 4 ≤ ar1.toInt := t_lel h5 (by decide : (4:Int) ≤ (4:Int32).toInt)
      refine ev_ic f_X12_isTray (nx := 14) (v := 0) rfl (by decide) rfl ?_
      refine ev_retK1 f_X12_isTray rfl rfl rfl ?_
      refine ev_t f_X12_wrongPlace (t1 := 7) (t2 := 11) rfl rfl rfl (by decide) ?_
      refine ev_ic f_X12_wrongPlace (nx := 8) (v := 1) rfl (by decide) rfl ?_
      refine ev_jmp f_X12_wrongPlace (nx := 44) rfl rfl rfl ?_
      refine ev_retK1 f_X12_wrongPlace rfl rfl rfl ?_
      refine ev_putIT f_X12_read (nx := 10) rfl (hI.wf.s rfl) rfl rfl rfl (hI.put0 (hI.wf.s rfl) rfl rfl) (hX.upI rfl) (fun g7 e7 hI hX => ?_)
      refine ev_loc f_X12_read (nx := 11) rfl rfl rfl rfl ?_
      refine ev_gvI f_X12_read (nx := 14) (w := 1) rfl (hI.wf.s rfl) rfl rfl (by rw [e7]; exact x_up2_at _ _ _ _ : g7 69 2 = 1) rfl ?_
      refine ev_f f_X12_read (t1 := 23) (t2 := 17) rfl rfl rfl (by decide) ?_
      refine ev_ldL f_X12_read (nx := 20) (v := -1) rfl (by decide) rfl ?_
      refine ev_jmp f_X12_read (nx := 34) rfl rfl rfl ?_
      exact ev_ret f_X12_read rfl rfl rfl ⟨_, _, _, rfl, hI, hX, ⟨_, rfl⟩⟩
    · have u8 : ar1.toInt ≤ 3 := t_ltu (t_nle h5) (by decide : (4:Int32).toInt ≤ (4:Int)) rfl
      refine ev_ic f_X12_isTray (nx := 10) (v := 1) rfl (by decide) rfl ?_
      refine ev_jmp f_X12_isTray (nx := 14) rfl rfl rfl ?_
      refine ev_retK1 f_X12_isTray rfl rfl rfl ?_
      refine ev_f f_X12_wrongPlace (t1 := 7) (t2 := 11) rfl rfl rfl (by decide) ?_
      refine ev_loc f_X12_wrongPlace (nx := 12) rfl rfl rfl rfl ?_
      refine ev_getR f_X12_wrongPlace (nx := 15) rfl (hI.wf.s rfl) rfl rfl (hI.wf.r rfl) rfl rfl ?_
      refine ev_loc f_X12_wrongPlace (nx := 16) rfl rfl rfl rfl ?_
      refine ev_ialdT f_X12_wrongPlace (nx := 17) rfl (hI.wf.s rfl) l4 (by decide) u8 (by decide) rfl (fun w9 e9 => ?_)
      obtain ⟨l9, u9⟩ := hI.abi e9 (by decide +kernel : t_abr 73 0 3 (-1) 60 = true) l4 (by decide) u8 (by decide)
      refine ev_ic f_X12_wrongPlace (nx := 18) (v := -1) rfl (by decide) rfl ?_
      refine ev_if f_X12_wrongPlace (t1 := 21) (t2 := 25) rfl rfl rfl (fun h10 => ?_) (fun h10 => ?_)
      · have u11 : w9.toInt ≤ (-1) := t_equ h10 (by decide : ((-1):Int32).toInt ≤ ((-1):Int))
        refine ev_ic f_X12_wrongPlace (nx := 22) (v := 2) rfl (by decide) rfl ?_
        refine ev_jmp f_X12_wrongPlace (nx := 44) rfl rfl rfl ?_
        refine ev_retK1 f_X12_wrongPlace rfl rfl rfl ?_
        refine ev_putIT f_X12_read (nx := 10) rfl (hI.wf.s rfl) rfl rfl rfl (hI.put0 (hI.wf.s rfl) rfl rfl) (hX.upI rfl) (fun g12 e12 hI hX => ?_)
        refine ev_loc f_X12_read (nx := 11) rfl rfl rfl rfl ?_
        refine ev_gvI f_X12_read (nx := 14) (w := 2) rfl (hI.wf.s rfl) rfl rfl (by rw [e12]; exact x_up2_at _ _ _ _ : g12 69 2 = 2) rfl ?_
        refine ev_f f_X12_read (t1 := 23) (t2 := 17) rfl rfl rfl (by decide) ?_
        refine ev_ldL f_X12_read (nx := 20) (v := -1) rfl (by decide) rfl ?_
        refine ev_jmp f_X12_read (nx := 34) rfl rfl rfl ?_
        exact ev_ret f_X12_read rfl rfl rfl ⟨_, _, _, rfl, hI, hX, ⟨_, rfl⟩⟩
      · have l13 : 0 ≤ w9.toInt := t_nel h10 l9 rfl rfl
        refine ev_loc f_X12_wrongPlace (nx := 26) rfl rfl rfl rfl ?_
        refine ev_if f_X12_wrongPlace (t1 := 39) (t2 := 29) rfl rfl rfl (fun h14 => ?_) (fun h14 => ?_)
        · have u15 : ar2.toInt ≤ (-1) := t_ltu h14 (by decide : (0:Int32).toInt ≤ (0:Int)) rfl
          refine ev_ic f_X12_wrongPlace (nx := 40) (v := 3) rfl (by decide) rfl ?_
          refine ev_jmp f_X12_wrongPlace (nx := 44) rfl rfl rfl ?_
          refine ev_retK1 f_X12_wrongPlace rfl rfl rfl ?_
          refine ev_putIT f_X12_read (nx := 10) rfl (hI.wf.s rfl) rfl rfl rfl (hI.put0 (hI.wf.s rfl) rfl rfl) (hX.upI rfl) (fun g16 e16 hI hX => ?_)
          refine ev_loc f_X12_read (nx := 11) rfl rfl rfl rfl ?_
          refine ev_gvI f_X12_read (nx := 14) (w := 3) rfl (hI.wf.s rfl) rfl rfl (by rw [e16]; exact x_up2_at _ _ _ _ : g16 69 2 = 3) rfl ?_
          refine ev_f f_X12_read (t1 := 23) (t2 := 17) rfl rfl rfl (by decide) ?_
          refine ev_ldL f_X12_read (nx := 20) (v := -1) rfl (by decide) rfl ?_
          refine ev_jmp f_X12_read (nx := 34) rfl rfl rfl ?_
          exact ev_ret f_X12_read rfl rfl rfl ⟨_, _, _, rfl, hI, hX, ⟨_, rfl⟩⟩
        · have l17 : 0 ≤ ar2.toInt := t_lel (t_nlt h14) (by decide : (0:Int) ≤ (0:Int32).toInt)
          refine ev_loc f_X12_wrongPlace (nx := 30) rfl rfl rfl rfl ?_
          refine ev_loc f_X12_wrongPlace (nx := 31) rfl rfl rfl rfl ?_
          refine ev_getR f_X12_wrongPlace (nx := 34) rfl (hI.wf.s rfl) rfl rfl (hI.wf.r rfl) rfl rfl ?_
          refine ev_loc f_X12_wrongPlace (nx := 35) rfl rfl rfl rfl ?_
          refine ev_ialdT f_X12_wrongPlace (nx := 36) rfl (hI.wf.s rfl) l4 (by decide) u8 (by decide) rfl (fun w18 e18 => ?_)
          obtain ⟨l18, u18⟩ := hI.abi e18 (by decide +kernel : t_abr 73 0 3 (-1) 60 = true) l4 (by decide) u8 (by decide)
          refine ev_if f_X12_wrongPlace (t1 := 43) (t2 := 39) rfl rfl rfl (fun h19 => ?_) (fun h19 => ?_)
          · have u20 : ar2.toInt ≤ 59 := t_ltu h19 u18 rfl
            have l21 : 1 ≤ w18.toInt := t_ltl h19 l17 rfl
            refine ev_ic f_X12_wrongPlace (nx := 44) (v := 0) rfl (by decide) rfl ?_
            refine ev_retK1 f_X12_wrongPlace rfl rfl rfl ?_
            refine ev_putIT f_X12_read (nx := 10) rfl (hI.wf.s rfl) rfl rfl rfl (hI.put0 (hI.wf.s rfl) rfl rfl) (hX.upI rfl) (fun g22 e22 hI hX => ?_)
            refine ev_loc f_X12_read (nx := 11) rfl rfl rfl rfl ?_
            refine ev_gvI f_X12_read (nx := 14) (w := 0) rfl (hI.wf.s rfl) rfl rfl (by rw [e22]; exact x_up2_at _ _ _ _ : g22 69 2 = 0) rfl ?_
            refine ev_t f_X12_read (t1 := 23) (t2 := 17) rfl rfl rfl (by decide) ?_
            refine ev_loc f_X12_read (nx := 24) rfl rfl rfl rfl ?_
            refine ev_getR f_X12_read (nx := 27) rfl (hI.wf.s rfl) rfl rfl (hI.wf.r rfl) rfl rfl ?_
            refine ev_bp f_X12_read (nx := 29) (v := 60) rfl (by decide) rfl ?_
            refine ev_loc f_X12_read (nx := 30) rfl rfl rfl rfl ?_
            refine ev_mulL f_X12_read (nx := 31) (c := 60) (l := 0) (u := 180) rfl (by decide) (by decide) l4 u8 rfl rfl (by decide) (by decide) rfl (fun z23 e23 l23 u23 => ?_)
            refine ev_loc f_X12_read (nx := 32) rfl rfl rfl rfl ?_
            refine ev_addR f_X12_read (nx := 33) (l := 0) (u := 239) rfl l23 u23 l17 u20 rfl rfl (by decide) (by decide) rfl (fun z24 e24 l24 u24 => ?_)
            refine ev_laldT f_X12_read (nx := 34) rfl (hI.wf.s rfl) l24 (by decide) u24 (by decide) rfl (fun w25 e25 => ?_)
            exact ev_ret f_X12_read rfl rfl rfl ⟨_, _, _, rfl, hI, hX, ⟨_, rfl⟩⟩
          · refine ev_ic f_X12_wrongPlace (nx := 40) (v := 3) rfl (by decide) rfl ?_
            refine ev_jmp f_X12_wrongPlace (nx := 44) rfl rfl rfl ?_
            refine ev_retK1 f_X12_wrongPlace rfl rfl rfl ?_
            refine ev_putIT f_X12_read (nx := 10) rfl (hI.wf.s rfl) rfl rfl rfl (hI.put0 (hI.wf.s rfl) rfl rfl) (hX.upI rfl) (fun g26 e26 hI hX => ?_)
            refine ev_loc f_X12_read (nx := 11) rfl rfl rfl rfl ?_
            refine ev_gvI f_X12_read (nx := 14) (w := 3) rfl (hI.wf.s rfl) rfl rfl (by rw [e26]; exact x_up2_at _ _ _ _ : g26 69 2 = 3) rfl ?_
            refine ev_f f_X12_read (t1 := 23) (t2 := 17) rfl rfl rfl (by decide) ?_
            refine ev_ldL f_X12_read (nx := 20) (v := -1) rfl (by decide) rfl ?_
            refine ev_jmp f_X12_read (nx := 34) rfl rfl rfl ?_
            exact ev_ret f_X12_read rfl rfl rfl ⟨_, _, _, rfl, hI, hX, ⟨_, rfl⟩⟩
def wl_m_pour : List (Nat × Nat) := [(69, 2), (74, 9999)]
theorem c_m_pour {X : x_Ext} {d : Nat} {sh : List (Nat ⊕ (Nat × Nat))} {gi : Nat → Nat → Int32} {gl : Nat → Nat → Int64} {gr : Nat → Nat → Value} (hI : t_I sh gi gr) (ar1 : Int32) (ar2 : Int32) (ar3 : Int32) (ar4 : Int32) (ar5 : Int32) : x_Me X (d + 2) n_X12_pour [.ref 69, .int ar1, .int ar2, .int ar3, .int ar4, .int ar5] (sh, gi, gl, gr) (t_P wl_m_pour sh gi gl gr (t_Ri 0 1)) := by
  have hX : t_X wl_m_pour sh gi gl gr gi gl gr := t_X.rf
  refine me_i f_X12_pour (hI.wf.s rfl) rfl rfl rfl ?_
  refine ev_loc f_X12_pour (nx := 1) rfl rfl rfl rfl ?_
  refine ev_inS1 f_X12_pour (nx := 4) (lo2 := [(0, .int ar1)]) rfl rfl rfl rfl f_X12_isTray rfl rfl rfl rfl ?_
  refine ev_loc f_X12_isTray (nx := 1) rfl rfl rfl rfl ?_
  refine ev_if f_X12_isTray (t1 := 13) (t2 := 4) rfl rfl rfl (fun h1 => ?_) (fun h1 => ?_)
  · have u2 : ar1.toInt ≤ (-1) := t_ltu h1 (by decide : (0:Int32).toInt ≤ (0:Int)) rfl
    refine ev_ic f_X12_isTray (nx := 14) (v := 0) rfl (by decide) rfl ?_
    refine ev_retK1 f_X12_isTray rfl rfl rfl ?_
    refine ev_t f_X12_pour (t1 := 28) (t2 := 7) rfl rfl rfl (by decide) ?_
    refine ev_loc f_X12_pour (nx := 29) rfl rfl rfl rfl ?_
    refine ev_ic f_X12_pour (nx := 30) (v := 1) rfl (by decide) rfl ?_
    refine ev_inV2 f_X12_pour (nx := 33) (lo2 := [(0, .ref 69), (1, .int 1)]) rfl rfl rfl rfl f_X12_is (hI.wf.s rfl) rfl rfl rfl rfl rfl ?_
    refine ev_loc f_X12_is (nx := 1) rfl rfl rfl rfl ?_
    refine ev_loc f_X12_is (nx := 2) rfl rfl rfl rfl ?_
    refine ev_putIT f_X12_is (nx := 5) rfl (hI.wf.s rfl) rfl rfl rfl (hI.put0 (hI.wf.s rfl) rfl rfl) (hX.upI rfl) (fun g3 e3 hI hX => ?_)
    refine ev_loc f_X12_is (nx := 6) rfl rfl rfl rfl ?_
    refine ev_f f_X12_is (t1 := 9) (t2 := 13) rfl rfl rfl (by decide) ?_
    refine ev_ic f_X12_is (nx := 14) (v := 0) rfl (by decide) rfl ?_
    refine ev_retK1 f_X12_is rfl rfl rfl ?_
    exact ev_ret f_X12_pour rfl rfl rfl ⟨_, _, _, rfl, hI, hX, ⟨_, rfl, (by decide : (0:Int) ≤ (0:Int32).toInt), (Int.le_trans (by decide : (0:Int32).toInt ≤ (0:Int)) (by decide : (0:Int) ≤ 1))⟩⟩
  · have l4 : 0 ≤ ar1.toInt := t_lel (t_nlt h1) (by decide : (0:Int) ≤ (0:Int32).toInt)
    refine ev_loc f_X12_isTray (nx := 5) rfl rfl rfl rfl ?_
    refine ev_ic f_X12_isTray (nx := 6) (v := 4) rfl (by decide) rfl ?_
    refine ev_if f_X12_isTray (t1 := 13) (t2 := 9) rfl rfl rfl (fun h5 => ?_) (fun h5 => ?_)
    · have l6 : 4 ≤ ar1.toInt := t_lel h5 (by decide : (4:Int) ≤ (4:Int32).toInt)
      refine ev_ic f_X12_isTray (nx := 14) (v := 0) rfl (by decide) rfl ?_
      refine ev_retK1 f_X12_isTray rfl rfl rfl ?_
      refine ev_t f_X12_pour (t1 := 28) (t2 := 7) rfl rfl rfl (by decide) ?_
      refine ev_loc f_X12_pour (nx := 29) rfl rfl rfl rfl ?_
      refine ev_ic f_X12_pour (nx := 30) (v := 1) rfl (by decide) rfl ?_
      refine ev_inV2 f_X12_pour (nx := 33) (lo2 := [(0, .ref 69), (1, .int 1)]) rfl rfl rfl rfl f_X12_is (hI.wf.s rfl) rfl rfl rfl rfl rfl ?_
      refine ev_loc f_X12_is (nx := 1) rfl rfl rfl rfl ?_
      refine ev_loc f_X12_is (nx := 2) rfl rfl rfl rfl ?_
      refine ev_putIT f_X12_is (nx := 5) rfl (hI.wf.s rfl) rfl rfl rfl (hI.put0 (hI.wf.s rfl) rfl rfl) (hX.upI rfl) (fun g7 e7 hI hX => ?_)
      refine ev_loc f_X12_is (nx := 6) rfl rfl rfl rfl ?_
      refine ev_f f_X12_is (t1 := 9) (t2 := 13) rfl rfl rfl (by decide) ?_
      refine ev_ic f_X12_is (nx := 14) (v := 0) rfl (by decide) rfl ?_
      refine ev_retK1 f_X12_is rfl rfl rfl ?_
      exact ev_ret f_X12_pour rfl rfl rfl ⟨_, _, _, rfl, hI, hX, ⟨_, rfl, (by decide : (0:Int) ≤ (0:Int32).toInt), (Int.le_trans (by decide : (0:Int32).toInt ≤ (0:Int)) (by decide : (0:Int) ≤ 1))⟩⟩
    · have u8 : ar1.toInt ≤ 3 := t_ltu (t_nle h5) (by decide : (4:Int32).toInt ≤ (4:Int)) rfl
      refine ev_ic f_X12_isTray (nx := 10) (v := 1) rfl (by decide) rfl ?_
      refine ev_jmp f_X12_isTray (nx := 14) rfl rfl rfl ?_
      refine ev_retK1 f_X12_isTray rfl rfl rfl ?_
      refine ev_f f_X12_pour (t1 := 28) (t2 := 7) rfl rfl rfl (by decide) ?_
      refine ev_loc f_X12_pour (nx := 8) rfl rfl rfl rfl ?_
      refine ev_inS1 f_X12_pour (nx := 11) (lo2 := [(0, .int ar3)]) rfl rfl rfl rfl f_X12_isTray rfl rfl rfl rfl ?_
      refine ev_loc f_X12_isTray (nx := 1) rfl rfl rfl rfl ?_
      refine ev_if f_X12_isTray (t1 := 13) (t2 := 4) rfl rfl rfl (fun h9 => ?_) (fun h9 => ?_)
      · have u10 : ar3.toInt ≤ (-1) := t_ltu h9 (by decide : (0:Int32).toInt ≤ (0:Int)) rfl
        refine ev_ic f_X12_isTray (nx := 14) (v := 0) rfl (by decide) rfl ?_
        refine ev_retK1 f_X12_isTray rfl rfl rfl ?_
        refine ev_t f_X12_pour (t1 := 28) (t2 := 14) rfl rfl rfl (by decide) ?_
        refine ev_loc f_X12_pour (nx := 29) rfl rfl rfl rfl ?_
        refine ev_ic f_X12_pour (nx := 30) (v := 1) rfl (by decide) rfl ?_
        refine ev_inV2 f_X12_pour (nx := 33) (lo2 := [(0, .ref 69), (1, .int 1)]) rfl rfl rfl rfl f_X12_is (hI.wf.s rfl) rfl rfl rfl rfl rfl ?_
        refine ev_loc f_X12_is (nx := 1) rfl rfl rfl rfl ?_
        refine ev_loc f_X12_is (nx := 2) rfl rfl rfl rfl ?_
        refine ev_putIT f_X12_is (nx := 5) rfl (hI.wf.s rfl) rfl rfl rfl (hI.put0 (hI.wf.s rfl) rfl rfl) (hX.upI rfl) (fun g11 e11 hI hX => ?_)
        refine ev_loc f_X12_is (nx := 6) rfl rfl rfl rfl ?_
        refine ev_f f_X12_is (t1 := 9) (t2 := 13) rfl rfl rfl (by decide) ?_
        refine ev_ic f_X12_is (nx := 14) (v := 0) rfl (by decide) rfl ?_
        refine ev_retK1 f_X12_is rfl rfl rfl ?_
        exact ev_ret f_X12_pour rfl rfl rfl ⟨_, _, _, rfl, hI, hX, ⟨_, rfl, (by decide : (0:Int) ≤ (0:Int32).toInt), (Int.le_trans (by decide : (0:Int32).toInt ≤ (0:Int)) (by decide : (0:Int) ≤ 1))⟩⟩
      · have l12 : 0 ≤ ar3.toInt := t_lel (t_nlt h9) (by decide : (0:Int) ≤ (0:Int32).toInt)
        refine ev_loc f_X12_isTray (nx := 5) rfl rfl rfl rfl ?_
        refine ev_ic f_X12_isTray (nx := 6) (v := 4) rfl (by decide) rfl ?_
        refine ev_if f_X12_isTray (t1 := 13) (t2 := 9) rfl rfl rfl (fun h13 => ?_) (fun h13 => ?_)
        · have l14 : 4 ≤ ar3.toInt := t_lel h13 (by decide : (4:Int) ≤ (4:Int32).toInt)
          refine ev_ic f_X12_isTray (nx := 14) (v := 0) rfl (by decide) rfl ?_
          refine ev_retK1 f_X12_isTray rfl rfl rfl ?_
          refine ev_t f_X12_pour (t1 := 28) (t2 := 14) rfl rfl rfl (by decide) ?_
          refine ev_loc f_X12_pour (nx := 29) rfl rfl rfl rfl ?_
          refine ev_ic f_X12_pour (nx := 30) (v := 1) rfl (by decide) rfl ?_
          refine ev_inV2 f_X12_pour (nx := 33) (lo2 := [(0, .ref 69), (1, .int 1)]) rfl rfl rfl rfl f_X12_is (hI.wf.s rfl) rfl rfl rfl rfl rfl ?_
          refine ev_loc f_X12_is (nx := 1) rfl rfl rfl rfl ?_
          refine ev_loc f_X12_is (nx := 2) rfl rfl rfl rfl ?_
          refine ev_putIT f_X12_is (nx := 5) rfl (hI.wf.s rfl) rfl rfl rfl (hI.put0 (hI.wf.s rfl) rfl rfl) (hX.upI rfl) (fun g15 e15 hI hX => ?_)
          refine ev_loc f_X12_is (nx := 6) rfl rfl rfl rfl ?_
          refine ev_f f_X12_is (t1 := 9) (t2 := 13) rfl rfl rfl (by decide) ?_
          refine ev_ic f_X12_is (nx := 14) (v := 0) rfl (by decide) rfl ?_
          refine ev_retK1 f_X12_is rfl rfl rfl ?_
          exact ev_ret f_X12_pour rfl rfl rfl ⟨_, _, _, rfl, hI, hX, ⟨_, rfl, (by decide : (0:Int) ≤ (0:Int32).toInt), (Int.le_trans (by decide : (0:Int32).toInt ≤ (0:Int)) (by decide : (0:Int) ≤ 1))⟩⟩
        · have u16 : ar3.toInt ≤ 3 := t_ltu (t_nle h13) (by decide : (4:Int32).toInt ≤ (4:Int)) rfl
          refine ev_ic f_X12_isTray (nx := 10) (v := 1) rfl (by decide) rfl ?_
          refine ev_jmp f_X12_isTray (nx := 14) rfl rfl rfl ?_
          refine ev_retK1 f_X12_isTray rfl rfl rfl ?_
          refine ev_f f_X12_pour (t1 := 28) (t2 := 14) rfl rfl rfl (by decide) ?_
          refine ev_loc f_X12_pour (nx := 15) rfl rfl rfl rfl ?_
          refine ev_if f_X12_pour (t1 := 28) (t2 := 18) rfl rfl rfl (fun h17 => ?_) (fun h17 => ?_)
          · have u18 : ar2.toInt ≤ (-1) := t_ltu h17 (by decide : (0:Int32).toInt ≤ (0:Int)) rfl
            refine ev_loc f_X12_pour (nx := 29) rfl rfl rfl rfl ?_
            refine ev_ic f_X12_pour (nx := 30) (v := 1) rfl (by decide) rfl ?_
            refine ev_inV2 f_X12_pour (nx := 33) (lo2 := [(0, .ref 69), (1, .int 1)]) rfl rfl rfl rfl f_X12_is (hI.wf.s rfl) rfl rfl rfl rfl rfl ?_
            refine ev_loc f_X12_is (nx := 1) rfl rfl rfl rfl ?_
            refine ev_loc f_X12_is (nx := 2) rfl rfl rfl rfl ?_
            refine ev_putIT f_X12_is (nx := 5) rfl (hI.wf.s rfl) rfl rfl rfl (hI.put0 (hI.wf.s rfl) rfl rfl) (hX.upI rfl) (fun g19 e19 hI hX => ?_)
            refine ev_loc f_X12_is (nx := 6) rfl rfl rfl rfl ?_
            refine ev_f f_X12_is (t1 := 9) (t2 := 13) rfl rfl rfl (by decide) ?_
            refine ev_ic f_X12_is (nx := 14) (v := 0) rfl (by decide) rfl ?_
            refine ev_retK1 f_X12_is rfl rfl rfl ?_
            exact ev_ret f_X12_pour rfl rfl rfl ⟨_, _, _, rfl, hI, hX, ⟨_, rfl, (by decide : (0:Int) ≤ (0:Int32).toInt), (Int.le_trans (by decide : (0:Int32).toInt ≤ (0:Int)) (by decide : (0:Int) ≤ 1))⟩⟩
          · have l20 : 0 ≤ ar2.toInt := t_lel (t_nlt h17) (by decide : (0:Int) ≤ (0:Int32).toInt)
            refine ev_loc f_X12_pour (nx := 20) rfl rfl rfl rfl ?_
            refine ev_if f_X12_pour (t1 := 28) (t2 := 23) rfl rfl rfl (fun h21 => ?_) (fun h21 => ?_)
            · have u22 : ar4.toInt ≤ (-1) := t_ltu h21 (by decide : (0:Int32).toInt ≤ (0:Int)) rfl
              refine ev_loc f_X12_pour (nx := 29) rfl rfl rfl rfl ?_
              refine ev_ic f_X12_pour (nx := 30) (v := 1) rfl (by decide) rfl ?_
              refine ev_inV2 f_X12_pour (nx := 33) (lo2 := [(0, .ref 69), (1, .int 1)]) rfl rfl rfl rfl f_X12_is (hI.wf.s rfl) rfl rfl rfl rfl rfl ?_
              refine ev_loc f_X12_is (nx := 1) rfl rfl rfl rfl ?_
              refine ev_loc f_X12_is (nx := 2) rfl rfl rfl rfl ?_
              refine ev_putIT f_X12_is (nx := 5) rfl (hI.wf.s rfl) rfl rfl rfl (hI.put0 (hI.wf.s rfl) rfl rfl) (hX.upI rfl) (fun g23 e23 hI hX => ?_)
              refine ev_loc f_X12_is (nx := 6) rfl rfl rfl rfl ?_
              refine ev_f f_X12_is (t1 := 9) (t2 := 13) rfl rfl rfl (by decide) ?_
              refine ev_ic f_X12_is (nx := 14) (v := 0) rfl (by decide) rfl ?_
              refine ev_retK1 f_X12_is rfl rfl rfl ?_
              exact ev_ret f_X12_pour rfl rfl rfl ⟨_, _, _, rfl, hI, hX, ⟨_, rfl, (by decide : (0:Int) ≤ (0:Int32).toInt), (Int.le_trans (by decide : (0:Int32).toInt ≤ (0:Int)) (by decide : (0:Int) ≤ 1))⟩⟩
            · have l24 : 0 ≤ ar4.toInt := t_lel (t_nlt h21) (by decide : (0:Int) ≤ (0:Int32).toInt)
              refine ev_loc f_X12_pour (nx := 25) rfl rfl rfl rfl ?_
              refine ev_if f_X12_pour (t1 := 34) (t2 := 28) rfl rfl rfl (fun h25 => ?_) (fun h25 => ?_)
              · have l26 : 0 ≤ ar5.toInt := t_lel h25 (by decide : (0:Int) ≤ (0:Int32).toInt)
                refine ev_loc f_X12_pour (nx := 35) rfl rfl rfl rfl ?_
                refine ev_getR f_X12_pour (nx := 38) rfl (hI.wf.s rfl) rfl rfl (hI.wf.r rfl) rfl rfl ?_
                refine ev_loc f_X12_pour (nx := 39) rfl rfl rfl rfl ?_
                refine ev_ialdT f_X12_pour (nx := 40) rfl (hI.wf.s rfl) l4 (by decide) u8 (by decide) rfl (fun w27 e27 => ?_)
                obtain ⟨l27, u27⟩ := hI.abi e27 (by decide +kernel : t_abr 73 0 3 (-1) 60 = true) l4 (by decide) u8 (by decide)
                refine ev_ic f_X12_pour (nx := 41) (v := -1) rfl (by decide) rfl ?_
                refine ev_if f_X12_pour (t1 := 54) (t2 := 44) rfl rfl rfl (fun h28 => ?_) (fun h28 => ?_)
                · have u29 : w27.toInt ≤ (-1) := t_equ h28 (by decide : ((-1):Int32).toInt ≤ ((-1):Int))
                  refine ev_loc f_X12_pour (nx := 55) rfl rfl rfl rfl ?_
                  refine ev_ic f_X12_pour (nx := 56) (v := 2) rfl (by decide) rfl ?_
                  refine ev_inV2 f_X12_pour (nx := 59) (lo2 := [(0, .ref 69), (1, .int 2)]) rfl rfl rfl rfl f_X12_is (hI.wf.s rfl) rfl rfl rfl rfl rfl ?_
                  refine ev_loc f_X12_is (nx := 1) rfl rfl rfl rfl ?_
                  refine ev_loc f_X12_is (nx := 2) rfl rfl rfl rfl ?_
                  refine ev_putIT f_X12_is (nx := 5) rfl (hI.wf.s rfl) rfl rfl rfl (hI.put0 (hI.wf.s rfl) rfl rfl) (hX.upI rfl) (fun g30 e30 hI hX => ?_)
                  refine ev_loc f_X12_is (nx := 6) rfl rfl rfl rfl ?_
                  refine ev_f f_X12_is (t1 := 9) (t2 := 13) rfl rfl rfl (by decide) ?_
                  refine ev_ic f_X12_is (nx := 14) (v := 0) rfl (by decide) rfl ?_
                  refine ev_retK1 f_X12_is rfl rfl rfl ?_
                  exact ev_ret f_X12_pour rfl rfl rfl ⟨_, _, _, rfl, hI, hX, ⟨_, rfl, (by decide : (0:Int) ≤ (0:Int32).toInt), (Int.le_trans (by decide : (0:Int32).toInt ≤ (0:Int)) (by decide : (0:Int) ≤ 1))⟩⟩
                · have r31 : w27.toInt ≠ (-1) := fun e => h28 (Int32.toInt_inj.mp (e.trans (by decide : ((-1):Int) = ((-1) : Int32).toInt)))
                  have l32 : 0 ≤ w27.toInt := t_nel h28 l27 rfl rfl
                  refine ev_loc f_X12_pour (nx := 45) rfl rfl rfl rfl ?_
                  refine ev_getR f_X12_pour (nx := 48) rfl (hI.wf.s rfl) rfl rfl (hI.wf.r rfl) rfl rfl ?_
                  refine ev_loc f_X12_pour (nx := 49) rfl rfl rfl rfl ?_
                  refine ev_ialdT f_X12_pour (nx := 50) rfl (hI.wf.s rfl) l12 (by decide) u16 (by decide) rfl (fun w33 e33 => ?_)
                  obtain ⟨l33, u33⟩ := hI.abi e33 (by decide +kernel : t_abr 73 0 3 (-1) 60 = true) l12 (by decide) u16 (by decide)
                  refine ev_ic f_X12_pour (nx := 51) (v := -1) rfl (by decide) rfl ?_
                  refine ev_if f_X12_pour (t1 := 54) (t2 := 60) rfl rfl rfl (fun h34 => ?_) (fun h34 => ?_)
                  · have u35 : w33.toInt ≤ (-1) := t_equ h34 (by decide : ((-1):Int32).toInt ≤ ((-1):Int))
                    refine ev_loc f_X12_pour (nx := 55) rfl rfl rfl rfl ?_
                    refine ev_ic f_X12_pour (nx := 56) (v := 2) rfl (by decide) rfl ?_
                    refine ev_inV2 f_X12_pour (nx := 59) (lo2 := [(0, .ref 69), (1, .int 2)]) rfl rfl rfl rfl f_X12_is (hI.wf.s rfl) rfl rfl rfl rfl rfl ?_
                    refine ev_loc f_X12_is (nx := 1) rfl rfl rfl rfl ?_
                    refine ev_loc f_X12_is (nx := 2) rfl rfl rfl rfl ?_
                    refine ev_putIT f_X12_is (nx := 5) rfl (hI.wf.s rfl) rfl rfl rfl (hI.put0 (hI.wf.s rfl) rfl rfl) (hX.upI rfl) (fun g36 e36 hI hX => ?_)
                    refine ev_loc f_X12_is (nx := 6) rfl rfl rfl rfl ?_
                    refine ev_f f_X12_is (t1 := 9) (t2 := 13) rfl rfl rfl (by decide) ?_
                    refine ev_ic f_X12_is (nx := 14) (v := 0) rfl (by decide) rfl ?_
                    refine ev_retK1 f_X12_is rfl rfl rfl ?_
                    exact ev_ret f_X12_pour rfl rfl rfl ⟨_, _, _, rfl, hI, hX, ⟨_, rfl, (by decide : (0:Int) ≤ (0:Int32).toInt), (Int.le_trans (by decide : (0:Int32).toInt ≤ (0:Int)) (by decide : (0:Int) ≤ 1))⟩⟩
                  · have r37 : w33.toInt ≠ (-1) := fun e => h34 (Int32.toInt_inj.mp (e.trans (by decide : ((-1):Int) = ((-1) : Int32).toInt)))
                    have l38 : 0 ≤ w33.toInt := t_nel h34 l33 rfl rfl
                    refine ev_loc f_X12_pour (nx := 61) rfl rfl rfl rfl ?_
                    refine ev_getR f_X12_pour (nx := 64) rfl (hI.wf.s rfl) rfl rfl (hI.wf.r rfl) rfl rfl ?_
                    refine ev_loc f_X12_pour (nx := 65) rfl rfl rfl rfl ?_
                    refine ev_ialdT f_X12_pour (nx := 66) rfl (hI.wf.s rfl) l4 (by decide) u8 (by decide) rfl (fun w39 e39 => ?_)
                    obtain ⟨l39, u39⟩ := hI.abi e39 (by decide +kernel : t_abr 72 0 3 0 3 = true) l4 (by decide) u8 (by decide)
                    refine ev_loc f_X12_pour (nx := 67) rfl rfl rfl rfl ?_
                    refine ev_getR f_X12_pour (nx := 70) rfl (hI.wf.s rfl) rfl rfl (hI.wf.r rfl) rfl rfl ?_
                    refine ev_loc f_X12_pour (nx := 71) rfl rfl rfl rfl ?_
                    refine ev_ialdT f_X12_pour (nx := 72) rfl (hI.wf.s rfl) l12 (by decide) u16 (by decide) rfl (fun w40 e40 => ?_)
                    obtain ⟨l40, u40⟩ := hI.abi e40 (by decide +kernel : t_abr 72 0 3 0 3 = true) l12 (by decide) u16 (by decide)
                    refine ev_if f_X12_pour (t1 := 82) (t2 := 75) rfl rfl rfl (fun h41 => ?_) (fun h41 => ?_)
                    · have r42 : w39.toInt = w40.toInt := t_eqi h41
                      refine ev_loc f_X12_pour (nx := 84) rfl rfl rfl rfl ?_
                      refine ev_loc f_X12_pour (nx := 85) rfl rfl rfl rfl ?_
                      refine ev_getR f_X12_pour (nx := 88) rfl (hI.wf.s rfl) rfl rfl (hI.wf.r rfl) rfl rfl ?_
                      refine ev_loc f_X12_pour (nx := 89) rfl rfl rfl rfl ?_
                      refine ev_ialdT f_X12_pour (nx := 90) rfl (hI.wf.s rfl) l4 (by decide) u8 (by decide) rfl (fun w43 e43 => ?_)
                      rw [e43.trans e27.symm]
                      refine ev_loc f_X12_pour (nx := 91) rfl rfl rfl rfl ?_
                      refine ev_subR f_X12_pour (nx := 92) (l := (-2147483647)) (u := 60) rfl l32 u27 l20 (t_hi ar2) rfl rfl (by decide) (by decide) rfl (fun z44 e44 l44 u44 => ?_)
                      refine ev_if f_X12_pour (t1 := 109) (t2 := 95) rfl rfl rfl (fun h45 => ?_) (fun h45 => ?_)
                      · have r46 : z44.toInt < ar5.toInt := Int32.lt_iff_toInt_lt.mp h45
                        refine ev_loc f_X12_pour (nx := 110) rfl rfl rfl rfl ?_
                        refine ev_ic f_X12_pour (nx := 111) (v := 3) rfl (by decide) rfl ?_
                        refine ev_inV2 f_X12_pour (nx := 114) (lo2 := [(0, .ref 69), (1, .int 3)]) rfl rfl rfl rfl f_X12_is (hI.wf.s rfl) rfl rfl rfl rfl rfl ?_
                        refine ev_loc f_X12_is (nx := 1) rfl rfl rfl rfl ?_
                        refine ev_loc f_X12_is (nx := 2) rfl rfl rfl rfl ?_
                        refine ev_putIT f_X12_is (nx := 5) rfl (hI.wf.s rfl) rfl rfl rfl (hI.put0 (hI.wf.s rfl) rfl rfl) (hX.upI rfl) (fun g47 e47 hI hX => ?_)
                        refine ev_loc f_X12_is (nx := 6) rfl rfl rfl rfl ?_
                        refine ev_f f_X12_is (t1 := 9) (t2 := 13) rfl rfl rfl (by decide) ?_
                        refine ev_ic f_X12_is (nx := 14) (v := 0) rfl (by decide) rfl ?_
                        refine ev_retK1 f_X12_is rfl rfl rfl ?_
                        exact ev_ret f_X12_pour rfl rfl rfl ⟨_, _, _, rfl, hI, hX, ⟨_, rfl, (by decide : (0:Int) ≤ (0:Int32).toInt), (Int.le_trans (by decide : (0:Int32).toInt ≤ (0:Int)) (by decide : (0:Int) ≤ 1))⟩⟩
                      · have r48 : ar5.toInt ≤ z44.toInt := Int32.le_iff_toInt_le.mp (t_nlt h45)
                        have u49 : ar5.toInt ≤ 60 := t_leu (t_nlt h45) u44
                        have l50 : 0 ≤ z44.toInt := t_lel (t_nlt h45) l26
                        have u51 : ar2.toInt ≤ 60 := by have := u27; omega
                        refine ev_loc f_X12_pour (nx := 97) rfl rfl rfl rfl ?_
                        refine ev_loc f_X12_pour (nx := 98) rfl rfl rfl rfl ?_
                        refine ev_getR f_X12_pour (nx := 101) rfl (hI.wf.s rfl) rfl rfl (hI.wf.r rfl) rfl rfl ?_
                        refine ev_loc f_X12_pour (nx := 102) rfl rfl rfl rfl ?_
                        refine ev_ialdT f_X12_pour (nx := 103) rfl (hI.wf.s rfl) l12 (by decide) u16 (by decide) rfl (fun w52 e52 => ?_)
                        rw [e52.trans e33.symm]
                        refine ev_loc f_X12_pour (nx := 105) rfl rfl rfl rfl ?_
                        refine ev_subR f_X12_pour (nx := 106) (l := (-2147483647)) (u := 60) rfl l38 u33 l24 (t_hi ar4) rfl rfl (by decide) (by decide) rfl (fun z53 e53 l53 u53 => ?_)
                        refine ev_if f_X12_pour (t1 := 115) (t2 := 109) rfl rfl rfl (fun h54 => ?_) (fun h54 => ?_)
                        · have r55 : ar5.toInt ≤ z53.toInt := Int32.le_iff_toInt_le.mp h54
                          have l56 : 0 ≤ z53.toInt := t_lel h54 l26
                          have u57 : ar4.toInt ≤ 60 := by have := u33; omega
                          refine ev_ic f_X12_pour (nx := 116) (v := 0) rfl (by decide) rfl ?_
                          refine ev_loc f_X12_pour (nx := 118) (lo' := [(6, .int 0), (0, .ref 69), (1, .int ar1), (2, .int ar2), (3, .int ar3), (4, .int ar4), (5, .int ar5)]) rfl rfl rfl rfl ?_
                          have L58 : ∀ (m58 : Nat) (gi58 : Nat → Nat → Int32) (gl58 : Nat → Nat → Int64) (gr58 : Nat → Nat → Value) (y58_6 : Int32), t_I sh gi58 gr58 → t_X wl_m_pour sh gi gl gr gi58 gl58 gr58 → 0 ≤ y58_6.toInt → y58_6.toInt ≤ 60 → gi58 72 ar1.toNatClampNeg = w39 → gi58 72 ar3.toNatClampNeg = w40 → gi58 73 ar1.toNatClampNeg = w27 → gi58 73 ar3.toNatClampNeg = w33 → (60 - y58_6.toInt).toNat = m58 → x_Ev X (d + 2) n_X12_pour 118 [(6, .int y58_6), (0, .ref 69), (1, .int ar1), (2, .int ar2), (3, .int ar3), (4, .int ar4), (5, .int ar5)] [] (sh, gi58, gl58, gr58) (t_P wl_m_pour sh gi gl gr (t_Ri 0 1)) := by
                            intro m58
                            induction m58 using Nat.strongRecOn with
                            | _ m58 ih58 =>
                            intro gi58 gl58 gr58 y58_6 hI hX l58_6 u58_6 c58_0 c58_1 c58_2 c58_3 hm58
                            refine ev_loc f_X12_pour (nx := 120) rfl rfl rfl rfl ?_
                            refine ev_loc f_X12_pour (nx := 122) rfl rfl rfl rfl ?_
                            refine ev_if f_X12_pour (t1 := 180) (t2 := 125) rfl rfl rfl (fun h59 => ?_) (fun h59 => ?_)
                            · have r60 : ar5.toInt ≤ y58_6.toInt := Int32.le_iff_toInt_le.mp h59
                              refine ev_loc f_X12_pour (nx := 181) rfl rfl rfl rfl ?_
                              refine ev_ic f_X12_pour (nx := 182) (v := 0) rfl (by decide) rfl ?_
                              refine ev_inV2 f_X12_pour (nx := 185) (lo2 := [(0, .ref 69), (1, .int 0)]) rfl rfl rfl rfl f_X12_is (hI.wf.s rfl) rfl rfl rfl rfl rfl ?_
                              refine ev_loc f_X12_is (nx := 1) rfl rfl rfl rfl ?_
                              refine ev_loc f_X12_is (nx := 2) rfl rfl rfl rfl ?_
                              refine ev_putIT f_X12_is (nx := 5) rfl (hI.wf.s rfl) rfl rfl rfl (hI.put0 (hI.wf.s rfl) rfl rfl) (hX.upI rfl) (fun g61 e61 hI hX => ?_)
                              refine ev_loc f_X12_is (nx := 6) rfl rfl rfl rfl ?_
                              refine ev_t f_X12_is (t1 := 9) (t2 := 13) rfl rfl rfl (by decide) ?_
                              refine ev_ic f_X12_is (nx := 10) (v := 1) rfl (by decide) rfl ?_
                              refine ev_jmp f_X12_is (nx := 14) rfl rfl rfl ?_
                              refine ev_retK1 f_X12_is rfl rfl rfl ?_
                              exact ev_ret f_X12_pour rfl rfl rfl ⟨_, _, _, rfl, hI, hX, ⟨_, rfl, (Int.le_trans (by decide : (0:Int) ≤ 1) (by decide : (1:Int) ≤ (1:Int32).toInt)), (by decide : (1:Int32).toInt ≤ (1:Int))⟩⟩
                            · have r62 : y58_6.toInt < ar5.toInt := Int32.lt_iff_toInt_lt.mp (t_nle h59)
                              have u63 : y58_6.toInt ≤ 59 := t_ltu (t_nle h59) u49 rfl
                              have l64 : 1 ≤ ar5.toInt := t_ltl (t_nle h59) l58_6 rfl
                              refine ev_loc f_X12_pour (nx := 126) rfl rfl rfl rfl ?_
                              refine ev_loc f_X12_pour (nx := 128) rfl rfl rfl rfl ?_
                              refine ev_if f_X12_pour (t1 := 141) (t2 := 131) rfl rfl rfl (fun h65 => ?_) (fun h65 => ?_)
                              · have r66 : ar4.toInt ≤ ar2.toInt := Int32.le_iff_toInt_le.mp h65
                                refine ev_loc f_X12_pour (nx := 143) rfl rfl rfl rfl ?_
                                refine ev_loc f_X12_pour (nx := 145) (lo' := [(7, .int y58_6), (6, .int y58_6), (0, .ref 69), (1, .int ar1), (2, .int ar2), (3, .int ar3), (4, .int ar4), (5, .int ar5)]) rfl rfl rfl rfl ?_
                                refine ev_loc f_X12_pour (nx := 146) rfl rfl rfl rfl ?_
                                refine ev_getR f_X12_pour (nx := 149) rfl (hI.wf.s rfl) rfl rfl (hI.wf.r rfl) rfl rfl ?_
                                refine ev_bp f_X12_pour (nx := 151) (v := 60) rfl (by decide) rfl ?_
                                refine ev_loc f_X12_pour (nx := 152) rfl rfl rfl rfl ?_
                                refine ev_mulL f_X12_pour (nx := 153) (c := 60) (l := 0) (u := 180) rfl (by decide) (by decide) l12 u16 rfl rfl (by decide) (by decide) rfl (fun z67 e67 l67 u67 => ?_)
                                refine ev_loc f_X12_pour (nx := 155) rfl rfl rfl rfl ?_
                                refine ev_addR f_X12_pour (nx := 156) (l := 0) (u := 240) rfl l67 u67 l24 u57 rfl rfl (by decide) (by decide) rfl (fun z68 e68 l68 u68 => ?_)
                                refine ev_loc f_X12_pour (nx := 158) rfl rfl rfl rfl ?_
                                refine ev_addR f_X12_pour (nx := 159) (l := 0) (u := 299) rfl l68 u68 l58_6 u63 rfl rfl (by decide) (by decide) rfl (fun z69 e69 l69 u69 => ?_)
                                refine ev_loc f_X12_pour (nx := 160) rfl rfl rfl rfl ?_
                                refine ev_getR f_X12_pour (nx := 163) rfl (hI.wf.s rfl) rfl rfl (hI.wf.r rfl) rfl rfl ?_
                                refine ev_bp f_X12_pour (nx := 165) (v := 60) rfl (by decide) rfl ?_
                                refine ev_loc f_X12_pour (nx := 166) rfl rfl rfl rfl ?_
                                refine ev_mulL f_X12_pour (nx := 167) (c := 60) (l := 0) (u := 180) rfl (by decide) (by decide) l4 u8 rfl rfl (by decide) (by decide) rfl (fun z70 e70 l70 u70 => ?_)
                                refine ev_loc f_X12_pour (nx := 168) rfl rfl rfl rfl ?_
                                refine ev_addR f_X12_pour (nx := 169) (l := 0) (u := 240) rfl l70 u70 l20 u51 rfl rfl (by decide) (by decide) rfl (fun z71 e71 l71 u71 => ?_)
                                refine ev_loc f_X12_pour (nx := 171) rfl rfl rfl rfl ?_
                                refine ev_addR f_X12_pour (nx := 172) (l := 0) (u := 299) rfl l71 u71 l58_6 u63 rfl rfl (by decide) (by decide) rfl (fun z72 e72 l72 u72 => ?_)
                                have u74 : z72.toInt ≤ (239:Int) := (by omega)
                                refine ev_laldT f_X12_pour (nx := 173) rfl (hI.wf.s rfl) l72 (by decide) u74 (by decide) rfl (fun w73 e73 => ?_)
                                have u76 : z69.toInt ≤ (239:Int) := (by omega)
                                refine ev_lastT f_X12_pour (nx := 174) rfl (hI.wf.s rfl) l69 (by decide) u76 (by decide) rfl (hX.upL (t_inA_ok rfl)) (fun g75 e75 hX => ?_)
                                refine ev_incR f_X12_pour (nx := 177) (c := 1) (l := 1) (u := 60) rfl rfl (by decide) (by decide) l58_6 u63 rfl rfl (by decide) (by decide) rfl (fun z77 e77 l77 u77 => ?_)
                                refine ev_jmp f_X12_pour (nx := 118) rfl rfl rfl ?_
                                refine ev_sub (lo := [(6, .int z77), (0, .ref 69), (1, .int ar1), (2, .int ar2), (3, .int ar3), (4, .int ar4), (5, .int ar5)]) rfl (t_sc rfl (t_sc rfl (t_sc rfl (t_sc rfl (t_sc rfl (t_sc rfl (t_sc rfl t_sn))))))) ?_
                                exact ih58 _ (by omega) gi58 g75 gr58 (z77) hI hX  (Int.le_trans (by decide : (0:Int) ≤ 1) l77) u77 c58_0 c58_1 c58_2 c58_3 rfl
                              · have r78 : ar2.toInt < ar4.toInt := Int32.lt_iff_toInt_lt.mp (t_nle h65)
                                have u79 : ar2.toInt ≤ 59 := t_ltu (t_nle h65) u57 rfl
                                have l80 : 1 ≤ ar4.toInt := t_ltl (t_nle h65) l20 rfl
                                refine ev_loc f_X12_pour (nx := 133) rfl rfl rfl rfl ?_
                                refine ev_ic f_X12_pour (nx := 134) (v := 1) rfl (by decide) rfl ?_
                                refine ev_subC f_X12_pour (nx := 135) (c := 1) (l := 0) (u := 59) rfl (by decide) l64 u49 rfl rfl (by decide) (by decide) rfl (fun z81 e81 l81 u81 => ?_)
                                refine ev_loc f_X12_pour (nx := 137) rfl rfl rfl rfl ?_
                                refine ev_subR f_X12_pour (nx := 138) (l := (-59)) (u := 59) rfl l81 u81 l58_6 u63 rfl rfl (by decide) (by decide) rfl (fun z82 e82 l82 u82 => ?_)
                                refine ev_jmp f_X12_pour (nx := 143) rfl rfl rfl ?_
                                refine ev_loc f_X12_pour (nx := 145) (lo' := [(7, .int z82), (6, .int y58_6), (0, .ref 69), (1, .int ar1), (2, .int ar2), (3, .int ar3), (4, .int ar4), (5, .int ar5)]) rfl rfl rfl rfl ?_
                                refine ev_loc f_X12_pour (nx := 146) rfl rfl rfl rfl ?_
                                refine ev_getR f_X12_pour (nx := 149) rfl (hI.wf.s rfl) rfl rfl (hI.wf.r rfl) rfl rfl ?_
                                refine ev_bp f_X12_pour (nx := 151) (v := 60) rfl (by decide) rfl ?_
                                refine ev_loc f_X12_pour (nx := 152) rfl rfl rfl rfl ?_
                                refine ev_mulL f_X12_pour (nx := 153) (c := 60) (l := 0) (u := 180) rfl (by decide) (by decide) l12 u16 rfl rfl (by decide) (by decide) rfl (fun z83 e83 l83 u83 => ?_)
                                refine ev_loc f_X12_pour (nx := 155) rfl rfl rfl rfl ?_
                                refine ev_addR f_X12_pour (nx := 156) (l := 1) (u := 240) rfl l83 u83 l80 u57 rfl rfl (by decide) (by decide) rfl (fun z84 e84 l84 u84 => ?_)
                                refine ev_loc f_X12_pour (nx := 158) rfl rfl rfl rfl ?_
                                refine ev_addR f_X12_pour (nx := 159) (l := (-58)) (u := 299) rfl l84 u84 l82 u82 rfl rfl (by decide) (by decide) rfl (fun z85 e85 l85 u85 => ?_)
                                refine ev_loc f_X12_pour (nx := 160) rfl rfl rfl rfl ?_
                                refine ev_getR f_X12_pour (nx := 163) rfl (hI.wf.s rfl) rfl rfl (hI.wf.r rfl) rfl rfl ?_
                                refine ev_bp f_X12_pour (nx := 165) (v := 60) rfl (by decide) rfl ?_
                                refine ev_loc f_X12_pour (nx := 166) rfl rfl rfl rfl ?_
                                refine ev_mulL f_X12_pour (nx := 167) (c := 60) (l := 0) (u := 180) rfl (by decide) (by decide) l4 u8 rfl rfl (by decide) (by decide) rfl (fun z86 e86 l86 u86 => ?_)
                                refine ev_loc f_X12_pour (nx := 168) rfl rfl rfl rfl ?_
                                refine ev_addR f_X12_pour (nx := 169) (l := 0) (u := 239) rfl l86 u86 l20 u79 rfl rfl (by decide) (by decide) rfl (fun z87 e87 l87 u87 => ?_)
                                refine ev_loc f_X12_pour (nx := 171) rfl rfl rfl rfl ?_
                                refine ev_addR f_X12_pour (nx := 172) (l := (-59)) (u := 298) rfl l87 u87 l82 u82 rfl rfl (by decide) (by decide) rfl (fun z88 e88 l88 u88 => ?_)
                                have l90 : (0:Int) ≤ z88.toInt := (by omega)
                                have u90 : z88.toInt ≤ (239:Int) := (by omega)
                                refine ev_laldT f_X12_pour (nx := 173) rfl (hI.wf.s rfl) l90 (by decide) u90 (by decide) rfl (fun w89 e89 => ?_)
                                have l92 : (0:Int) ≤ z85.toInt := (by omega)
                                have u92 : z85.toInt ≤ (239:Int) := (by omega)
                                refine ev_lastT f_X12_pour (nx := 174) rfl (hI.wf.s rfl) l92 (by decide) u92 (by decide) rfl (hX.upL (t_inA_ok rfl)) (fun g91 e91 hX => ?_)
                                refine ev_incR f_X12_pour (nx := 177) (c := 1) (l := 1) (u := 60) rfl rfl (by decide) (by decide) l58_6 u63 rfl rfl (by decide) (by decide) rfl (fun z93 e93 l93 u93 => ?_)
                                refine ev_jmp f_X12_pour (nx := 118) rfl rfl rfl ?_
                                refine ev_sub (lo := [(6, .int z93), (0, .ref 69), (1, .int ar1), (2, .int ar2), (3, .int ar3), (4, .int ar4), (5, .int ar5)]) rfl (t_sc rfl (t_sc rfl (t_sc rfl (t_sc rfl (t_sc rfl (t_sc rfl (t_sc rfl t_sn))))))) ?_
                                exact ih58 _ (by omega) gi58 g91 gr58 (z93) hI hX  (Int.le_trans (by decide : (0:Int) ≤ 1) l93) u93 c58_0 c58_1 c58_2 c58_3 rfl
                          refine ev_sub (lo := [(6, .int 0), (0, .ref 69), (1, .int ar1), (2, .int ar2), (3, .int ar3), (4, .int ar4), (5, .int ar5)]) rfl (t_sc rfl (t_sc rfl (t_sc rfl (t_sc rfl (t_sc rfl (t_sc rfl (t_sc rfl t_sn))))))) ?_
                          exact L58 _ gi gl gr (0) hI hX  (by decide : (0:Int) ≤ (0:Int32).toInt) (Int.le_trans (by decide : (0:Int32).toInt ≤ (0:Int)) (by decide : (0:Int) ≤ 60)) e39.symm e40.symm e27.symm e33.symm rfl
                        · have r94 : z53.toInt < ar5.toInt := Int32.lt_iff_toInt_lt.mp (t_nle h54)
                          have u95 : z53.toInt ≤ 59 := t_ltu (t_nle h54) u49 rfl
                          refine ev_loc f_X12_pour (nx := 110) rfl rfl rfl rfl ?_
                          refine ev_ic f_X12_pour (nx := 111) (v := 3) rfl (by decide) rfl ?_
                          refine ev_inV2 f_X12_pour (nx := 114) (lo2 := [(0, .ref 69), (1, .int 3)]) rfl rfl rfl rfl f_X12_is (hI.wf.s rfl) rfl rfl rfl rfl rfl ?_
                          refine ev_loc f_X12_is (nx := 1) rfl rfl rfl rfl ?_
                          refine ev_loc f_X12_is (nx := 2) rfl rfl rfl rfl ?_
                          refine ev_putIT f_X12_is (nx := 5) rfl (hI.wf.s rfl) rfl rfl rfl (hI.put0 (hI.wf.s rfl) rfl rfl) (hX.upI rfl) (fun g96 e96 hI hX => ?_)
                          refine ev_loc f_X12_is (nx := 6) rfl rfl rfl rfl ?_
                          refine ev_f f_X12_is (t1 := 9) (t2 := 13) rfl rfl rfl (by decide) ?_
                          refine ev_ic f_X12_is (nx := 14) (v := 0) rfl (by decide) rfl ?_
                          refine ev_retK1 f_X12_is rfl rfl rfl ?_
                          exact ev_ret f_X12_pour rfl rfl rfl ⟨_, _, _, rfl, hI, hX, ⟨_, rfl, (by decide : (0:Int) ≤ (0:Int32).toInt), (Int.le_trans (by decide : (0:Int32).toInt ≤ (0:Int)) (by decide : (0:Int) ≤ 1))⟩⟩
                    · have r97 : w39.toInt ≠ w40.toInt := t_nei h41
                      refine ev_loc f_X12_pour (nx := 76) rfl rfl rfl rfl ?_
                      refine ev_bp f_X12_pour (nx := 78) (v := 8) rfl (by decide) rfl ?_
                      refine ev_inV2 f_X12_pour (nx := 81) (lo2 := [(0, .ref 69), (1, .int 8)]) rfl rfl rfl rfl f_X12_is (hI.wf.s rfl) rfl rfl rfl rfl rfl ?_
                      refine ev_loc f_X12_is (nx := 1) rfl rfl rfl rfl ?_
                      refine ev_loc f_X12_is (nx := 2) rfl rfl rfl rfl ?_
                      refine ev_putIT f_X12_is (nx := 5) rfl (hI.wf.s rfl) rfl rfl rfl (hI.put0 (hI.wf.s rfl) rfl rfl) (hX.upI rfl) (fun g98 e98 hI hX => ?_)
                      refine ev_loc f_X12_is (nx := 6) rfl rfl rfl rfl ?_
                      refine ev_f f_X12_is (t1 := 9) (t2 := 13) rfl rfl rfl (by decide) ?_
                      refine ev_ic f_X12_is (nx := 14) (v := 0) rfl (by decide) rfl ?_
                      refine ev_retK1 f_X12_is rfl rfl rfl ?_
                      exact ev_ret f_X12_pour rfl rfl rfl ⟨_, _, _, rfl, hI, hX, ⟨_, rfl, (by decide : (0:Int) ≤ (0:Int32).toInt), (Int.le_trans (by decide : (0:Int32).toInt ≤ (0:Int)) (by decide : (0:Int) ≤ 1))⟩⟩
              · have u99 : ar5.toInt ≤ (-1) := t_ltu (t_nle h25) (by decide : (0:Int32).toInt ≤ (0:Int)) rfl
                refine ev_loc f_X12_pour (nx := 29) rfl rfl rfl rfl ?_
                refine ev_ic f_X12_pour (nx := 30) (v := 1) rfl (by decide) rfl ?_
                refine ev_inV2 f_X12_pour (nx := 33) (lo2 := [(0, .ref 69), (1, .int 1)]) rfl rfl rfl rfl f_X12_is (hI.wf.s rfl) rfl rfl rfl rfl rfl ?_
                refine ev_loc f_X12_is (nx := 1) rfl rfl rfl rfl ?_
                refine ev_loc f_X12_is (nx := 2) rfl rfl rfl rfl ?_
                refine ev_putIT f_X12_is (nx := 5) rfl (hI.wf.s rfl) rfl rfl rfl (hI.put0 (hI.wf.s rfl) rfl rfl) (hX.upI rfl) (fun g100 e100 hI hX => ?_)
                refine ev_loc f_X12_is (nx := 6) rfl rfl rfl rfl ?_
                refine ev_f f_X12_is (t1 := 9) (t2 := 13) rfl rfl rfl (by decide) ?_
                refine ev_ic f_X12_is (nx := 14) (v := 0) rfl (by decide) rfl ?_
                refine ev_retK1 f_X12_is rfl rfl rfl ?_
                exact ev_ret f_X12_pour rfl rfl rfl ⟨_, _, _, rfl, hI, hX, ⟨_, rfl, (by decide : (0:Int) ≤ (0:Int32).toInt), (Int.le_trans (by decide : (0:Int32).toInt ≤ (0:Int)) (by decide : (0:Int) ≤ 1))⟩⟩
def wl_m_four : List (Nat × Nat) := [(69, 10), (75, 9999)]
def Q_m_four (gi : Nat → Nat → Int32) (gl : Nat → Nat → Int64) (gr : Nat → Nat → Value) (ar1 : Int32) : (Nat → Nat → Int32) → (Nat → Nat → Int64) → (Nat → Nat → Value) → Prop := fun (gi2 : Nat → Nat → Int32) (gl2 : Nat → Nat → Int64) (gr2 : Nat → Nat → Value) => (gi2 69 10).toInt = (gi 69 10).toInt + 4
theorem c_m_four {X : x_Ext} {d : Nat} {sh : List (Nat ⊕ (Nat × Nat))} {gi : Nat → Nat → Int32} {gl : Nat → Nat → Int64} {gr : Nat → Nat → Value} (hI : t_I sh gi gr) (ar1 : Int32) (e_p0 : (gi 69 10).toInt + 4 ≤ 900) : x_Me X (d + 1) n_X12_four [.ref 69, .int ar1] (sh, gi, gl, gr) (t_PN wl_m_four sh gi gl gr (Q_m_four gi gl gr ar1)) := by
  have hX : t_X wl_m_four sh gi gl gr gi gl gr := t_X.rf
  refine me_i f_X12_four (hI.wf.s rfl) rfl rfl rfl ?_
  refine ev_bp f_X12_four (nx := 2) (v := 24) rfl (by decide) rfl ?_
  refine ev_loc f_X12_four (nx := 3) (lo' := [(2, .int 24), (0, .ref 69), (1, .int ar1)]) rfl rfl rfl rfl ?_
  have L1 : ∀ (m1 : Nat) (gi1 : Nat → Nat → Int32) (gl1 : Nat → Nat → Int64) (gr1 : Nat → Nat → Value) (y1_2 : Int32), t_I sh gi1 gr1 → t_X wl_m_four sh gi gl gr gi1 gl1 gr1 → (-8) ≤ y1_2.toInt → y1_2.toInt ≤ 24 → 8 * (gi1 69 10).toInt + y1_2.toInt = 8 * (gi 69 10).toInt + 24 → (y1_2.toInt - (-8)).toNat = m1 → x_Ev X (d + 1) n_X12_four 3 [(2, .int y1_2), (0, .ref 69), (1, .int ar1)] [] (sh, gi1, gl1, gr1) (t_PN wl_m_four sh gi gl gr (Q_m_four gi gl gr ar1)) := by
    intro m1
    induction m1 using Nat.strongRecOn with
    | _ m1 ih1 =>
    intro gi1 gl1 gr1 y1_2 hI hX l1_2 u1_2 j1_0 hm1
    refine ev_loc f_X12_four (nx := 4) rfl rfl rfl rfl ?_
    refine ev_if f_X12_four (t1 := 36) (t2 := 7) rfl rfl rfl (fun h2 => ?_) (fun h2 => ?_)
    · have u3 : y1_2.toInt ≤ (-1) := t_ltu h2 (by decide : (0:Int32).toInt ≤ (0:Int)) rfl
      exact ev_ret f_X12_four rfl rfl rfl ⟨_, _, _, rfl, hI, hX, ⟨rfl, (show (gi1 69 10).toInt = (gi 69 10).toInt + 4 from (by omega))⟩⟩
    · have l4 : 0 ≤ y1_2.toInt := t_lel (t_nlt h2) (by decide : (0:Int) ≤ (0:Int32).toInt)
      refine ev_loc f_X12_four (nx := 8) rfl rfl rfl rfl ?_
      refine ev_getR f_X12_four (nx := 11) rfl (hI.wf.s rfl) rfl rfl (hI.wf.r rfl) rfl rfl ?_
      refine ev_loc f_X12_four (nx := 12) rfl rfl rfl rfl ?_
      refine ev_getI f_X12_four (nx := 15) rfl (hI.wf.s rfl) rfl rfl rfl ?_
      obtain ⟨l5, u5⟩ := hI.b (hI.wf.s (k := 69) rfl) (rfl : t_bd 11 10 = some (0, 900))
      refine ev_loc f_X12_four (nx := 16) rfl rfl rfl rfl ?_
      refine ev_loc f_X12_four (nx := 17) rfl rfl rfl rfl ?_
      refine ev_anyI f_X12_four (nx := 18) rfl rfl rfl rfl (fun z6 => ?_)
      refine ev_anyI f_X12_four (nx := 19) rfl rfl rfl rfl (fun z7 => ?_)
      have u9 : (gi1 69 10).toInt ≤ (899:Int) := (by omega)
      refine ev_bastT f_X12_four (nx := 20) rfl (hI.wf.s rfl) l5 (by decide) u9 (by decide) rfl (fun x => (hI.astG (hI.wf.s rfl) (fun lo hi e => absurd e (t_nob (by decide +kernel) _)) (fun k hk e => by have := hk.2.1; omega))) (fun x => hX.upI (t_inA_ok rfl)) (fun g8 x8 e8 hI hX => ?_)
      refine ev_loc f_X12_four (nx := 21) rfl rfl rfl rfl ?_
      refine ev_alu f_X12_four (nx := 22) rfl rfl rfl rfl ?_
      refine ev_gvI f_X12_four (nx := 25) (w := (gi1 69 10)) rfl (hI.wf.s rfl) rfl rfl ((by rw [e8]; exact x_up2_off (Or.inl (by decide)) : g8 69 10 = gi1 69 10).trans rfl) rfl ?_
      refine ev_ic f_X12_four (nx := 26) (v := 1) rfl (by decide) rfl ?_
      refine ev_addC f_X12_four (nx := 27) (c := 1) (l := 1) (u := 900) rfl (by decide) l5 u9 rfl rfl (by decide) (by decide) rfl (fun z10 e10 l10 u10 => ?_)
      refine ev_putIT f_X12_four (nx := 30) rfl (hI.wf.s rfl) rfl rfl rfl (hI.putB (hI.wf.s rfl) rfl rfl l10 (by decide) u10 (by decide)) (hX.upI rfl) (fun g11 e11 hI hX => ?_)
      refine ev_incR f_X12_four (nx := 33) (c := (-8)) (l := (-8)) (u := 16) rfl rfl (by decide) (by decide) l4 u1_2 rfl rfl (by decide) (by decide) rfl (fun z12 e12 l12 u12 => ?_)
      refine ev_jmp f_X12_four (nx := 3) rfl rfl rfl ?_
      refine ev_sub (lo := [(2, .int z12), (0, .ref 69), (1, .int ar1)]) rfl (t_sc rfl (t_sc rfl (t_sc rfl t_sn))) ?_
      exact ih1 _ (by omega) g11 gl1 gr1 (z12) hI hX  l12 (Int.le_trans u12 (by decide : (16:Int) ≤ 24)) (by have ff13 : (g11 69 10).toInt = z10.toInt := congrArg Int32.toInt (by rw [e11]; exact x_up2_at _ _ _ _ : g11 69 10 = z10); omega) rfl
  refine ev_sub (lo := [(2, .int 24), (0, .ref 69), (1, .int ar1)]) rfl (t_sc rfl (t_sc rfl (t_sc rfl t_sn))) ?_
  exact L1 _ gi gl gr (24) hI hX  (Int.le_trans (by decide : ((-8):Int) ≤ 24) (by decide : (24:Int) ≤ (24:Int32).toInt)) (by decide : (24:Int32).toInt ≤ (24:Int)) (by have kf14 : (24 : Int32).toInt = 24 := (by decide); omega) rfl
def wl_m_feed : List (Nat × Nat) := [(69, 10), (75, 9999)]
def Q_m_feed (gi : Nat → Nat → Int32) (gl : Nat → Nat → Int64) (gr : Nat → Nat → Value) (ar1 : Int32) (ar2 : Int32) (ar3 : Int32) (ar4 : Int32) (ar5 : Int32) : Int32 → (Nat → Nat → Int32) → (Nat → Nat → Int64) → (Nat → Nat → Value) → Prop := fun (v : Int32) (gi2 : Nat → Nat → Int32) (gl2 : Nat → Nat → Int64) (gr2 : Nat → Nat → Value) => ((gi 69 10).toInt + 20 ≤ 900 → v.toInt = (gi 69 10).toInt + 20 ∧ (gi2 69 10).toInt = (gi 69 10).toInt + 20) ∧ (900 < (gi 69 10).toInt + 20 → v.toInt = -1 ∧ (gi2 69 10).toInt = (gi 69 10).toInt)
theorem c_m_feed {X : x_Ext} {d : Nat} {sh : List (Nat ⊕ (Nat × Nat))} {gi : Nat → Nat → Int32} {gl : Nat → Nat → Int64} {gr : Nat → Nat → Value} (hI : t_I sh gi gr) (ar1 : Int32) (ar2 : Int32) (ar3 : Int32) (ar4 : Int32) (ar5 : Int32) : x_Me X (d + 2) n_X12_feed [.ref 69, .int ar1, .int ar2, .int ar3, .int ar4, .int ar5] (sh, gi, gl, gr) (t_PI wl_m_feed sh gi gl gr (-1) 900 (Q_m_feed gi gl gr ar1 ar2 ar3 ar4 ar5)) := by
  have hX : t_X wl_m_feed sh gi gl gr gi gl gr := t_X.rf
  refine me_i f_X12_feed (hI.wf.s rfl) rfl rfl rfl ?_
  refine ev_loc f_X12_feed (nx := 1) rfl rfl rfl rfl ?_
  refine ev_getI f_X12_feed (nx := 4) rfl (hI.wf.s rfl) rfl rfl rfl ?_
  obtain ⟨l1, u1⟩ := hI.b (hI.wf.s (k := 69) rfl) (rfl : t_bd 11 10 = some (0, 900))
  refine ev_bp f_X12_feed (nx := 6) (v := 20) rfl (by decide) rfl ?_
  refine ev_addC f_X12_feed (nx := 7) (c := 20) (l := 20) (u := 920) rfl (by decide) l1 u1 rfl rfl (by decide) (by decide) rfl (fun z2 e2 l2 u2 => ?_)
  refine ev_sp f_X12_feed (nx := 10) (v := 900) rfl (by decide) rfl ?_
  refine ev_if f_X12_feed (t1 := 15) (t2 := 13) rfl rfl rfl (fun h3 => ?_) (fun h3 => ?_)
  · have u4 : z2.toInt ≤ 900 := t_leu h3 (by decide : (900:Int32).toInt ≤ (900:Int))
    refine ev_loc f_X12_feed (nx := 16) rfl rfl rfl rfl ?_
    refine ev_loc f_X12_feed (nx := 17) rfl rfl rfl rfl ?_
    refine ev_qN f_X12_feed (nx := 20) (r := []) rfl rfl rfl rfl rfl rfl rfl (c_m_four hI (ar1) (by omega)) rfl hX rfl (fun gi5 gl5 gr5 hI hX hC5 q5 => ?_)
    have q5 : (gi5 69 10).toInt = (gi 69 10).toInt + 4 := q5
    refine ev_loc f_X12_feed (nx := 21) rfl rfl rfl rfl ?_
    refine ev_loc f_X12_feed (nx := 22) rfl rfl rfl rfl ?_
    refine ev_qN f_X12_feed (nx := 25) (r := []) rfl rfl rfl rfl rfl rfl rfl (c_m_four hI (ar2) (by omega)) rfl hX rfl (fun gi6 gl6 gr6 hI hX hC6 q6 => ?_)
    have q6 : (gi6 69 10).toInt = (gi5 69 10).toInt + 4 := q6
    refine ev_loc f_X12_feed (nx := 26) rfl rfl rfl rfl ?_
    refine ev_loc f_X12_feed (nx := 27) rfl rfl rfl rfl ?_
    refine ev_qN f_X12_feed (nx := 30) (r := []) rfl rfl rfl rfl rfl rfl rfl (c_m_four hI (ar3) (by omega)) rfl hX rfl (fun gi7 gl7 gr7 hI hX hC7 q7 => ?_)
    have q7 : (gi7 69 10).toInt = (gi6 69 10).toInt + 4 := q7
    refine ev_loc f_X12_feed (nx := 31) rfl rfl rfl rfl ?_
    refine ev_loc f_X12_feed (nx := 33) rfl rfl rfl rfl ?_
    refine ev_qN f_X12_feed (nx := 36) (r := []) rfl rfl rfl rfl rfl rfl rfl (c_m_four hI (ar4) (by omega)) rfl hX rfl (fun gi8 gl8 gr8 hI hX hC8 q8 => ?_)
    have q8 : (gi8 69 10).toInt = (gi7 69 10).toInt + 4 := q8
    refine ev_loc f_X12_feed (nx := 37) rfl rfl rfl rfl ?_
    refine ev_loc f_X12_feed (nx := 39) rfl rfl rfl rfl ?_
    refine ev_qN f_X12_feed (nx := 42) (r := []) rfl rfl rfl rfl rfl rfl rfl (c_m_four hI (ar5) (by omega)) rfl hX rfl (fun gi9 gl9 gr9 hI hX hC9 q9 => ?_)
    have q9 : (gi9 69 10).toInt = (gi8 69 10).toInt + 4 := q9
    refine ev_loc f_X12_feed (nx := 43) rfl rfl rfl rfl ?_
    refine ev_getI f_X12_feed (nx := 46) rfl (hI.wf.s rfl) rfl rfl rfl ?_
    obtain ⟨l10, u10⟩ := hI.b (hI.wf.s (k := 69) rfl) (rfl : t_bd 11 10 = some (0, 900))
    exact ev_ret f_X12_feed rfl rfl rfl ⟨_, _, _, rfl, hI, hX, ⟨_, rfl, (Int.le_trans (by decide : ((-1):Int) ≤ 0) l10), u10, (show ((gi 69 10).toInt + 20 ≤ 900 → (gi9 69 10).toInt = (gi 69 10).toInt + 20 ∧ (gi9 69 10).toInt = (gi 69 10).toInt + 20) ∧ (900 < (gi 69 10).toInt + 20 → (gi9 69 10).toInt = -1 ∧ (gi9 69 10).toInt = (gi 69 10).toInt) from (by omega))⟩⟩
  · have l11 : 901 ≤ z2.toInt := t_ltl (t_nle h3) (by decide : (900:Int) ≤ (900:Int32).toInt) rfl
    refine ev_ic f_X12_feed (nx := 14) (v := -1) rfl (by decide) rfl ?_
    exact ev_ret f_X12_feed rfl rfl rfl ⟨_, _, _, rfl, hI, hX, ⟨_, rfl, (by decide : ((-1):Int) ≤ ((-1):Int32).toInt), (Int.le_trans (by decide : ((-1):Int32).toInt ≤ ((-1):Int)) (by decide : ((-1):Int) ≤ 900)), (show ((gi 69 10).toInt + 20 ≤ 900 → (-1) = (gi 69 10).toInt + 20 ∧ (gi 69 10).toInt = (gi 69 10).toInt + 20) ∧ (900 < (gi 69 10).toInt + 20 → (-1) = -1 ∧ (gi 69 10).toInt = (gi 69 10).toInt) from (by omega))⟩⟩
def wl_m_length : List (Nat × Nat) := []
theorem c_m_length {X : x_Ext} {d : Nat} {sh : List (Nat ⊕ (Nat × Nat))} {gi : Nat → Nat → Int32} {gl : Nat → Nat → Int64} {gr : Nat → Nat → Value} (hI : t_I sh gi gr) : x_Me X (d + 2) n_J0_length_8abf5 [.retAddr 28] (sh, gi, gl, gr) (t_P wl_m_length sh gi gl gr (t_Ri 138 138)) := by
  have hX : t_X wl_m_length sh gi gl gr gi gl gr := t_X.rf
  refine me_x f_J0_length_8abf5 rfl rfl ?_
  refine ev_loc f_J0_length_8abf5 (nx := 1) rfl rfl rfl rfl ?_
  refine ev_heap f_J0_length_8abf5 (nx := 4) (st' := [.retAddr 29]) rfl rfl rfl rfl ?_
  refine ev_heap f_J0_length_8abf5 (nx := 5) (st' := .int 138 :: []) rfl rfl rfl rfl ?_
  refine ev_loc f_J0_length_8abf5 (nx := 6) rfl rfl rfl rfl ?_
  refine ev_inX f_J0_length_8abf5 (nx := 9) (r := [.int 138]) (as := []) (lo2 := [(0, .retAddr 28)]) rfl rfl rfl rfl rfl rfl rfl f_J0_coder_7d493 rfl rfl rfl rfl ?_
  refine ev_heap f_J0_coder_7d493 (nx := 3) rfl rfl rfl rfl ?_
  refine ev_f f_J0_coder_7d493 (t1 := 13) (t2 := 6) rfl rfl rfl (by decide) ?_
  refine ev_loc f_J0_coder_7d493 (nx := 7) rfl rfl rfl rfl ?_
  refine ev_heap f_J0_coder_7d493 (nx := 10) (st' := [.int 0]) rfl rfl rfl rfl ?_
  refine ev_jmp f_J0_coder_7d493 (nx := 14) rfl rfl rfl ?_
  refine ev_retK1 f_J0_coder_7d493 rfl rfl rfl ?_
  refine ev_aluvI f_J0_length_8abf5 (nx := 10) (w := 138) rfl rfl rfl (by decide) rfl ?_
  exact ev_ret f_J0_length_8abf5 rfl rfl rfl ⟨_, _, _, rfl, hI, hX, ⟨_, rfl, (by decide : (138:Int) ≤ (138:Int32).toInt), (by decide : (138:Int32).toInt ≤ (138:Int))⟩⟩
def wl_m_charAt : List (Nat × Nat) := []
def Q_m_charAt (gi : Nat → Nat → Int32) (gl : Nat → Nat → Int64) (gr : Nat → Nat → Value) (ar1 : Int32) : Int32 → (Nat → Nat → Int32) → (Nat → Nat → Int64) → (Nat → Nat → Value) → Prop := fun (v : Int32) (gi2 : Nat → Nat → Int32) (gl2 : Nat → Nat → Int64) (gr2 : Nat → Nat → Value) => (v = x_kc ar1.toNatClampNeg) ∧ (v.toInt ≠ 32 → ar1.toInt + 1 ≤ 137) ∧ 0 ≤ v.toInt ∧ v.toInt ≤ 127
theorem c_m_charAt {X : x_Ext} {d : Nat} {sh : List (Nat ⊕ (Nat × Nat))} {gi : Nat → Nat → Int32} {gl : Nat → Nat → Int64} {gr : Nat → Nat → Value} (hI : t_I sh gi gr) (ar1 : Int32) (l_a1 : 0 ≤ ar1.toInt) (u_a1 : ar1.toInt ≤ 137) : x_Me X (d + 4) n_J0_charAt_5068e [.retAddr 28, .int ar1] (sh, gi, gl, gr) (t_PI wl_m_charAt sh gi gl gr (-2147483648) 2147483647 (Q_m_charAt gi gl gr ar1)) := by
  have hX : t_X wl_m_charAt sh gi gl gr gi gl gr := t_X.rf
  refine me_x f_J0_charAt_5068e rfl rfl ?_
  refine ev_loc f_J0_charAt_5068e (nx := 1) rfl rfl rfl rfl ?_
  refine ev_inX f_J0_charAt_5068e (nx := 4) (r := []) (as := []) (lo2 := [(0, .retAddr 28)]) rfl rfl rfl rfl rfl rfl rfl f_J0_isLatin1_aae02 rfl rfl rfl rfl ?_
  refine ev_heap f_J0_isLatin1_aae02 (nx := 3) rfl rfl rfl rfl ?_
  refine ev_f f_J0_isLatin1_aae02 (t1 := 17) (t2 := 6) rfl rfl rfl (by decide) ?_
  refine ev_loc f_J0_isLatin1_aae02 (nx := 7) rfl rfl rfl rfl ?_
  refine ev_heap f_J0_isLatin1_aae02 (nx := 10) (st' := [.int 0]) rfl rfl rfl rfl ?_
  refine ev_t f_J0_isLatin1_aae02 (t1 := 13) (t2 := 17) rfl rfl rfl (by decide) ?_
  refine ev_ic f_J0_isLatin1_aae02 (nx := 14) (v := 1) rfl (by decide) rfl ?_
  refine ev_jmp f_J0_isLatin1_aae02 (nx := 18) rfl rfl rfl ?_
  refine ev_retK1 f_J0_isLatin1_aae02 rfl rfl rfl ?_
  refine ev_f f_J0_charAt_5068e (t1 := 16) (t2 := 7) rfl rfl rfl (by decide) ?_
  refine ev_loc f_J0_charAt_5068e (nx := 8) rfl rfl rfl rfl ?_
  refine ev_heap f_J0_charAt_5068e (nx := 11) (st' := [.retAddr 29]) rfl rfl rfl rfl ?_
  refine ev_loc f_J0_charAt_5068e (nx := 12) rfl rfl rfl rfl ?_
  refine ev_inS2 f_J0_charAt_5068e (nx := 15) (lo2 := [(0, .retAddr 29), (1, .int ar1)]) rfl rfl rfl rfl f_J1_charAt_3b067 rfl rfl rfl rfl ?_
  refine ev_loc f_J1_charAt_3b067 (nx := 1) rfl rfl rfl rfl ?_
  refine ev_loc f_J1_charAt_3b067 (nx := 2) rfl rfl rfl rfl ?_
  refine ev_heap f_J1_charAt_3b067 (nx := 3) (st' := .int 138 :: [.int ar1]) rfl rfl rfl rfl ?_
  refine ev_inS2 f_J1_charAt_3b067 (nx := 6) (lo2 := [(0, .int ar1), (1, .int 138)]) rfl rfl rfl rfl f_J0_checkIndex_df160 rfl rfl rfl rfl ?_
  refine ev_loc f_J0_checkIndex_df160 (nx := 1) rfl rfl rfl rfl ?_
  refine ev_loc f_J0_checkIndex_df160 (nx := 2) rfl rfl rfl rfl ?_
  refine ev_heap f_J0_checkIndex_df160 (nx := 5) rfl rfl rfl rfl ?_
  refine ev_inS3 f_J0_checkIndex_df160 (nx := 8) (lo2 := [(0, .int ar1), (1, .int 138), (2, .retAddr 41)]) rfl rfl rfl rfl f_J3_checkIndex_8e157 rfl rfl rfl rfl ?_
  refine ev_loc f_J3_checkIndex_8e157 (nx := 1) rfl rfl rfl rfl ?_
  refine ev_f f_J3_checkIndex_8e157 (t1 := 9) (t2 := 4) rfl rfl rfl (t_ltF (by decide : (0:Int32).toInt ≤ (0:Int)) l_a1 (by decide)) ?_
  refine ev_loc f_J3_checkIndex_8e157 (nx := 5) rfl rfl rfl rfl ?_
  refine ev_loc f_J3_checkIndex_8e157 (nx := 6) rfl rfl rfl rfl ?_
  refine ev_t f_J3_checkIndex_8e157 (t1 := 16) (t2 := 9) rfl rfl rfl (t_ltT u_a1 (by decide : (138:Int) ≤ (138:Int32).toInt) (by decide)) ?_
  refine ev_loc f_J3_checkIndex_8e157 (nx := 17) rfl rfl rfl rfl ?_
  refine ev_retK1 f_J3_checkIndex_8e157 rfl rfl rfl ?_
  refine ev_alu f_J0_checkIndex_df160 (nx := 9) rfl rfl rfl rfl ?_
  refine ev_retK0 f_J0_checkIndex_df160 rfl rfl rfl ?_
  refine ev_loc f_J1_charAt_3b067 (nx := 7) rfl rfl rfl rfl ?_
  refine ev_loc f_J1_charAt_3b067 (nx := 8) rfl rfl rfl rfl ?_
  refine ev_xba f_J1_charAt_3b067 (nx := 9) rfl l_a1 (by decide) u_a1 (by decide) rfl (fun w1 e1 => ?_)
  refine ev_sp f_J1_charAt_3b067 (nx := 12) (v := 255) rfl (by decide) rfl ?_
  refine ev_anyIE f_J1_charAt_3b067 (nx := 13) rfl rfl rfl rfl (fun z2 e2 => ?_)
  refine ev_anyIE f_J1_charAt_3b067 (nx := 14) rfl rfl rfl rfl (fun z3 e3 => ?_)
  refine ev_retK1 f_J1_charAt_3b067 rfl rfl (t_rc e3) ?_
  exact ev_ret f_J0_charAt_5068e rfl rfl (t_rc e3) ⟨_, _, _, rfl, hI, hX, ⟨_, rfl, (t_lo z3), (t_hi z3), (show (z3 = x_kc ar1.toNatClampNeg) ∧ (z3.toInt ≠ 32 → ar1.toInt + 1 ≤ 137) ∧ 0 ≤ z3.toInt ∧ z3.toInt ≤ 127 from (t_kc (by rw [e3, e2, e1]; rfl) l_a1 u_a1))⟩⟩
def wl_m_inWords : List (Nat × Nat) := []
def Q_m_inWords (gi : Nat → Nat → Int32) (gl : Nat → Nat → Int64) (gr : Nat → Nat → Value) : Int32 → (Nat → Nat → Int32) → (Nat → Nat → Int64) → (Nat → Nat → Value) → Prop := fun (v : Int32) (gi2 : Nat → Nat → Int32) (gl2 : Nat → Nat → Int64) (gr2 : Nat → Nat → Value) => 0 ≤ v.toInt → (gi 69 12).toInt = 2
theorem c_m_inWords {X : x_Ext} {d : Nat} {sh : List (Nat ⊕ (Nat × Nat))} {gi : Nat → Nat → Int32} {gl : Nat → Nat → Int64} {gr : Nat → Nat → Value} (hI : t_I sh gi gr) : x_Me X (d + 5) n_X12_inWords [.ref 69, .retAddr 28] (sh, gi, gl, gr) (t_PI wl_m_inWords sh gi gl gr (-2147483648) 2147483647 (Q_m_inWords gi gl gr)) := by
  have hX : t_X wl_m_inWords sh gi gl gr gi gl gr := t_X.rf
  refine me_i f_X12_inWords (hI.wf.s rfl) rfl rfl rfl ?_
  refine ev_loc f_X12_inWords (nx := 1) rfl rfl rfl rfl ?_
  refine ev_getI f_X12_inWords (nx := 4) rfl (hI.wf.s rfl) rfl rfl rfl ?_
  obtain ⟨l1, u1⟩ := hI.b (hI.wf.s (k := 69) rfl) (rfl : t_bd 11 12 = some (0, 4))
  refine ev_ic f_X12_inWords (nx := 5) (v := 2) rfl (by decide) rfl ?_
  refine ev_if f_X12_inWords (t1 := 10) (t2 := 8) rfl rfl rfl (fun h2 => ?_) (fun h2 => ?_)
  · have u3 : (gi 69 12).toInt ≤ 2 := t_equ h2 (by decide : (2:Int32).toInt ≤ (2:Int))
    have l4 : 2 ≤ (gi 69 12).toInt := t_eql h2 (by decide : (2:Int) ≤ (2:Int32).toInt)
    refine ev_ic f_X12_inWords (nx := 11) (v := 0) rfl (by decide) rfl ?_
    refine ev_loc f_X12_inWords (nx := 12) (lo' := [(2, .int 0), (0, .ref 69), (1, .retAddr 28)]) rfl rfl rfl rfl ?_
    refine ev_ic f_X12_inWords (nx := 13) (v := 1) rfl (by decide) rfl ?_
    refine ev_loc f_X12_inWords (nx := 14) (lo' := [(3, .int 1), (2, .int 0), (0, .ref 69), (1, .retAddr 28)]) rfl rfl rfl rfl ?_
    have L5 : ∀ (m5 : Nat) (gi5 : Nat → Nat → Int32) (gl5 : Nat → Nat → Int64) (gr5 : Nat → Nat → Value) (y5_3 : Int32) (y5_2 : Int32), t_I sh gi5 gr5 → t_X wl_m_inWords sh gi gl gr gi5 gl5 gr5 → 1 ≤ y5_3.toInt → y5_3.toInt ≤ 138 → gi5 69 12 = (gi 69 12) → (138 - y5_3.toInt).toNat = m5 → x_Ev X (d + 5) n_X12_inWords 14 [(3, .int y5_3), (2, .int y5_2), (0, .ref 69), (1, .retAddr 28)] [] (sh, gi5, gl5, gr5) (t_PI wl_m_inWords sh gi gl gr (-2147483648) 2147483647 (Q_m_inWords gi gl gr)) := by
      intro m5
      induction m5 using Nat.strongRecOn with
      | _ m5 ih5 =>
      intro gi5 gl5 gr5 y5_3 y5_2 hI hX l5_3 u5_3 c5_0 hm5
      refine ev_loc f_X12_inWords (nx := 15) rfl rfl rfl rfl ?_
      refine ev_loc f_X12_inWords (nx := 16) rfl rfl rfl rfl ?_
      refine ev_cI f_X12_inWords (nx := 19) (r := [.int y5_3]) rfl rfl rfl rfl rfl rfl rfl (c_m_length hI ) rfl hX rfl (fun w6 gi6 gl6 gr6 l6 u6 hI hX hC6 => ?_)
      refine ev_if f_X12_inWords (t1 := 133) (t2 := 22) rfl rfl rfl (fun h7 => ?_) (fun h7 => ?_)
      · have r8 : w6.toInt ≤ y5_3.toInt := Int32.le_iff_toInt_le.mp h7
        have l9 : 138 ≤ y5_3.toInt := t_lel h7 l6
        refine ev_ic f_X12_inWords (nx := 134) (v := -1) rfl (by decide) rfl ?_
        exact ev_ret f_X12_inWords rfl rfl rfl ⟨_, _, _, rfl, hI, hX, ⟨_, rfl, (Int.le_trans (by decide : ((-2147483648):Int) ≤ (-1)) (by decide : ((-1):Int) ≤ ((-1):Int32).toInt)), (Int.le_trans (by decide : ((-1):Int32).toInt ≤ ((-1):Int)) (by decide : ((-1):Int) ≤ 2147483647)), (show 0 ≤ (-1) → (gi 69 12).toInt = 2 from (by omega))⟩⟩
      · have r10 : y5_3.toInt < w6.toInt := Int32.lt_iff_toInt_lt.mp (t_nle h7)
        have u11 : y5_3.toInt ≤ 137 := t_ltu (t_nle h7) u6 rfl
        refine ev_loc f_X12_inWords (nx := 23) rfl rfl rfl rfl ?_
        refine ev_loc f_X12_inWords (nx := 25) (lo' := [(4, .int y5_3), (3, .int y5_3), (2, .int y5_2), (0, .ref 69), (1, .retAddr 28)]) rfl rfl rfl rfl ?_
        have L12 : ∀ (m12 : Nat) (gi12 : Nat → Nat → Int32) (gl12 : Nat → Nat → Int64) (gr12 : Nat → Nat → Value) (y12_4 : Int32), t_I sh gi12 gr12 → t_X wl_m_inWords sh gi gl gr gi12 gl12 gr12 → 1 ≤ y12_4.toInt → y12_4.toInt ≤ 137 → gi12 69 12 = (gi 69 12) → y5_3.toInt ≤ y12_4.toInt → (138 - y12_4.toInt).toNat = m12 → x_Ev X (d + 5) n_X12_inWords 25 [(4, .int y12_4), (3, .int y5_3), (2, .int y5_2), (0, .ref 69), (1, .retAddr 28)] [] (sh, gi12, gl12, gr12) (t_PI wl_m_inWords sh gi gl gr (-2147483648) 2147483647 (Q_m_inWords gi gl gr)) := by
          intro m12
          induction m12 using Nat.strongRecOn with
          | _ m12 ih12 =>
          intro gi12 gl12 gr12 y12_4 hI hX l12_4 u12_4 c12_0 j12_0 hm12
          refine ev_loc f_X12_inWords (nx := 26) rfl rfl rfl rfl ?_
          refine ev_loc f_X12_inWords (nx := 28) rfl rfl rfl rfl ?_
          refine ev_qI f_X12_inWords (nx := 31) (r := []) rfl rfl rfl rfl rfl rfl rfl (c_m_charAt hI (y12_4) (Int.le_trans (by decide : (0:Int) ≤ 1) l12_4) u12_4) rfl hX rfl (fun w13 gi13 gl13 gr13 l13 u13 hI hX hC13 q13 => ?_)
          have q13 : (w13 = x_kc y12_4.toNatClampNeg) ∧ (w13.toInt ≠ 32 → y12_4.toInt + 1 ≤ 137) ∧ 0 ≤ w13.toInt ∧ w13.toInt ≤ 127 := q13
          refine ev_bp f_X12_inWords (nx := 33) (v := 32) rfl (by decide) rfl ?_
          refine ev_if f_X12_inWords (t1 := 42) (t2 := 36) rfl rfl rfl (fun h14 => ?_) (fun h14 => ?_)
          · have u15 : w13.toInt ≤ 32 := t_equ h14 (by decide : (32:Int32).toInt ≤ (32:Int))
            have l16 : 32 ≤ w13.toInt := t_eql h14 (by decide : (32:Int) ≤ (32:Int32).toInt)
            refine ev_loc f_X12_inWords (nx := 44) rfl rfl rfl rfl ?_
            refine ev_loc f_X12_inWords (nx := 45) rfl rfl rfl rfl ?_
            refine ev_subR f_X12_inWords (nx := 46) (l := (-136)) (u := 136) rfl l12_4 u12_4 l5_3 u11 rfl rfl (by decide) (by decide) rfl (fun z17 e17 l17 u17 => ?_)
            refine ev_loc f_X12_inWords (nx := 47) rfl rfl rfl rfl ?_
            refine ev_getI f_X12_inWords (nx := 50) rfl (hI.wf.s rfl) rfl rfl rfl ?_
            obtain ⟨l18, u18⟩ := hI.b (hI.wf.s (k := 69) rfl) (rfl : t_bd 11 14 = some (0, 900))
            refine ev_loc f_X12_inWords (nx := 51) rfl rfl rfl rfl ?_
            refine ev_getI f_X12_inWords (nx := 54) rfl (hI.wf.s rfl) rfl rfl rfl ?_
            obtain ⟨l19, u19⟩ := hI.b (hI.wf.s (k := 69) rfl) (rfl : t_bd 11 13 = some (0, 900))
            refine ev_subR f_X12_inWords (nx := 55) (l := (-900)) (u := 900) rfl l18 u18 l19 u19 rfl rfl (by decide) (by decide) rfl (fun z20 e20 l20 u20 => ?_)
            refine ev_if f_X12_inWords (t1 := 58) (t2 := 62) rfl rfl rfl (fun h21 => ?_) (fun h21 => ?_)
            · have r22 : z17.toInt = z20.toInt := t_eqi h21
              have u23 : z20.toInt ≤ 136 := t_equ (Eq.symm h21) u17
              have l24 : (-136) ≤ z20.toInt := t_eql (Eq.symm h21) l17
              refine ev_ic f_X12_inWords (nx := 59) (v := 1) rfl (by decide) rfl ?_
              refine ev_jmp f_X12_inWords (nx := 63) rfl rfl rfl ?_
              refine ev_loc f_X12_inWords (nx := 65) (lo' := [(5, .int 1), (4, .int y12_4), (3, .int y5_3), (2, .int y5_2), (0, .ref 69), (1, .retAddr 28)]) rfl rfl rfl rfl ?_
              refine ev_loc f_X12_inWords (nx := 66) rfl rfl rfl rfl ?_
              refine ev_loc f_X12_inWords (nx := 68) (lo' := [(6, .int y5_3), (5, .int 1), (4, .int y12_4), (3, .int y5_3), (2, .int y5_2), (0, .ref 69), (1, .retAddr 28)]) rfl rfl rfl rfl ?_
              have L25 : ∀ (m25 : Nat) (gi25 : Nat → Nat → Int32) (gl25 : Nat → Nat → Int64) (gr25 : Nat → Nat → Value) (y25_6 : Int32) (y25_5 : Int32), t_I sh gi25 gr25 → t_X wl_m_inWords sh gi gl gr gi25 gl25 gr25 → 1 ≤ y25_6.toInt → y25_6.toInt ≤ 137 → 0 ≤ y25_5.toInt → y25_5.toInt ≤ 1 → gi25 69 12 = (gi 69 12) → gi25 69 13 = (gi13 69 13) → gi25 69 14 = (gi13 69 14) → y5_3.toInt ≤ y12_4.toInt → y5_3.toInt ≤ y25_6.toInt → (138 - y25_6.toInt).toNat = m25 → x_Ev X (d + 5) n_X12_inWords 68 [(6, .int y25_6), (5, .int y25_5), (4, .int y12_4), (3, .int y5_3), (2, .int y5_2), (0, .ref 69), (1, .retAddr 28)] [] (sh, gi25, gl25, gr25) (t_PI wl_m_inWords sh gi gl gr (-2147483648) 2147483647 (Q_m_inWords gi gl gr)) := by
                intro m25
                induction m25 using Nat.strongRecOn with
                | _ m25 ih25 =>
                intro gi25 gl25 gr25 y25_6 y25_5 hI hX l25_6 u25_6 l25_5 u25_5 c25_0 c25_1 c25_2 j25_0 j25_1 hm25
                refine ev_loc f_X12_inWords (nx := 70) rfl rfl rfl rfl ?_
                refine ev_loc f_X12_inWords (nx := 72) rfl rfl rfl rfl ?_
                refine ev_if f_X12_inWords (t1 := 115) (t2 := 75) rfl rfl rfl (fun h26 => ?_) (fun h26 => ?_)
                · have r27 : y12_4.toInt ≤ y25_6.toInt := Int32.le_iff_toInt_le.mp h26
                  refine ev_loc f_X12_inWords (nx := 117) rfl rfl rfl rfl ?_
                  refine ev_if f_X12_inWords (t1 := 122) (t2 := 120) rfl rfl rfl (fun h28 => ?_) (fun h28 => ?_)
                  · have u29 : y25_5.toInt ≤ 0 := t_equ h28 (by decide : (0:Int32).toInt ≤ (0:Int))
                    refine ev_incN f_X12_inWords (nx := 125) rfl rfl (by decide) rfl (fun z30 => ?_)
                    refine ev_loc f_X12_inWords (nx := 127) rfl rfl rfl rfl ?_
                    refine ev_ic f_X12_inWords (nx := 128) (v := 1) rfl (by decide) rfl ?_
                    refine ev_addC f_X12_inWords (nx := 129) (c := 1) (l := 2) (u := 138) rfl (by decide) l12_4 u12_4 rfl rfl (by decide) (by decide) rfl (fun z31 e31 l31 u31 => ?_)
                    refine ev_loc f_X12_inWords (nx := 130) (lo' := [(3, .int z31), (2, .int z30), (6, .int y25_6), (5, .int y25_5), (4, .int y12_4), (0, .ref 69), (1, .retAddr 28)]) rfl rfl rfl rfl ?_
                    refine ev_jmp f_X12_inWords (nx := 14) rfl rfl rfl ?_
                    refine ev_sub (lo := [(3, .int z31), (2, .int z30), (0, .ref 69), (1, .retAddr 28)]) rfl (t_sc rfl (t_sc rfl (t_sc rfl (t_sc rfl t_sn)))) ?_
                    exact ih5 _ (by omega) gi25 gl25 gr25 (z31) (z30) hI hX  (Int.le_trans (by decide : (1:Int) ≤ 2) l31) u31 c25_0 rfl
                  · have r32 : y25_5.toInt ≠ 0 := fun e => h28 (Int32.toInt_inj.mp (e.trans (by decide : (0:Int) = (0 : Int32).toInt)))
                    have l33 : 1 ≤ y25_5.toInt := t_nel h28 l25_5 rfl rfl
                    refine ev_loc f_X12_inWords (nx := 121) rfl rfl rfl rfl ?_
                    exact ev_ret f_X12_inWords rfl rfl rfl ⟨_, _, _, rfl, hI, hX, ⟨_, rfl, (t_lo y5_2), (t_hi y5_2), (show 0 ≤ y5_2.toInt → (gi 69 12).toInt = 2 from (by omega))⟩⟩
                · have r34 : y25_6.toInt < y12_4.toInt := Int32.lt_iff_toInt_lt.mp (t_nle h26)
                  have u35 : y25_6.toInt ≤ 136 := t_ltu (t_nle h26) u12_4 rfl
                  have l36 : 2 ≤ y12_4.toInt := t_ltl (t_nle h26) l25_6 rfl
                  refine ev_loc f_X12_inWords (nx := 77) rfl rfl rfl rfl ?_
                  refine ev_if f_X12_inWords (t1 := 115) (t2 := 80) rfl rfl rfl (fun h37 => ?_) (fun h37 => ?_)
                  · have u38 : y25_5.toInt ≤ 0 := t_equ h37 (by decide : (0:Int32).toInt ≤ (0:Int))
                    refine ev_loc f_X12_inWords (nx := 117) rfl rfl rfl rfl ?_
                    refine ev_t f_X12_inWords (t1 := 122) (t2 := 120) rfl rfl rfl (t_eqT u38 l25_5 (by decide : (0:Int32).toInt ≤ (0:Int)) (by decide : (0:Int) ≤ (0:Int32).toInt)) ?_
                    refine ev_incN f_X12_inWords (nx := 125) rfl rfl (by decide) rfl (fun z39 => ?_)
                    refine ev_loc f_X12_inWords (nx := 127) rfl rfl rfl rfl ?_
                    refine ev_ic f_X12_inWords (nx := 128) (v := 1) rfl (by decide) rfl ?_
                    refine ev_addC f_X12_inWords (nx := 129) (c := 1) (l := 3) (u := 138) rfl (by decide) l36 u12_4 rfl rfl (by decide) (by decide) rfl (fun z40 e40 l40 u40 => ?_)
                    refine ev_loc f_X12_inWords (nx := 130) (lo' := [(3, .int z40), (2, .int z39), (6, .int y25_6), (5, .int y25_5), (4, .int y12_4), (0, .ref 69), (1, .retAddr 28)]) rfl rfl rfl rfl ?_
                    refine ev_jmp f_X12_inWords (nx := 14) rfl rfl rfl ?_
                    refine ev_sub (lo := [(3, .int z40), (2, .int z39), (0, .ref 69), (1, .retAddr 28)]) rfl (t_sc rfl (t_sc rfl (t_sc rfl (t_sc rfl t_sn)))) ?_
                    exact ih5 _ (by omega) gi25 gl25 gr25 (z40) (z39) hI hX  (Int.le_trans (by decide : (1:Int) ≤ 3) l40) u40 c25_0 rfl
                  · have r41 : y25_5.toInt ≠ 0 := fun e => h37 (Int32.toInt_inj.mp (e.trans (by decide : (0:Int) = (0 : Int32).toInt)))
                    have l42 : 1 ≤ y25_5.toInt := t_nel h37 l25_5 rfl rfl
                    refine ev_loc f_X12_inWords (nx := 81) rfl rfl rfl rfl ?_
                    refine ev_loc f_X12_inWords (nx := 83) rfl rfl rfl rfl ?_
                    refine ev_qI f_X12_inWords (nx := 86) (r := []) rfl rfl rfl rfl rfl rfl rfl (c_m_charAt hI (y25_6) (Int.le_trans (by decide : (0:Int) ≤ 1) l25_6) (Int.le_trans u35 (by decide : (136:Int) ≤ 137))) rfl hX rfl (fun w43 gi43 gl43 gr43 l43 u43 hI hX hC43 q43 => ?_)
                    have q43 : (w43 = x_kc y25_6.toNatClampNeg) ∧ (w43.toInt ≠ 32 → y25_6.toInt + 1 ≤ 137) ∧ 0 ≤ w43.toInt ∧ w43.toInt ≤ 127 := q43
                    refine ev_loc f_X12_inWords (nx := 87) rfl rfl rfl rfl ?_
                    refine ev_loc f_X12_inWords (nx := 88) rfl rfl rfl rfl ?_
                    refine ev_gvI f_X12_inWords (nx := 91) (w := (gi13 69 13)) rfl (hI.wf.s rfl) rfl rfl ((hC43.1 69 13 rfl).1.trans c25_1) rfl ?_
                    refine ev_loc f_X12_inWords (nx := 93) rfl rfl rfl rfl ?_
                    refine ev_addR f_X12_inWords (nx := 94) (l := 1) (u := 1036) rfl l19 u19 l25_6 u35 rfl rfl (by decide) (by decide) rfl (fun z44 e44 l44 u44 => ?_)
                    refine ev_loc f_X12_inWords (nx := 95) rfl rfl rfl rfl ?_
                    refine ev_subR f_X12_inWords (nx := 96) (l := (-136)) (u := 1035) rfl l44 u44 l5_3 u11 rfl rfl (by decide) (by decide) rfl (fun z45 e45 l45 u45 => ?_)
                    refine ev_inV2 f_X12_inWords (nx := 99) (lo2 := [(0, .ref 69), (1, .int z45)]) rfl rfl rfl rfl f_X12_byteAt (hI.wf.s rfl) rfl rfl rfl rfl rfl ?_
                    refine ev_loc f_X12_byteAt (nx := 1) rfl rfl rfl rfl ?_
                    refine ev_loc f_X12_byteAt (nx := 2) rfl rfl rfl rfl ?_
                    refine ev_getI f_X12_byteAt (nx := 5) rfl (hI.wf.s rfl) rfl rfl rfl ?_
                    obtain ⟨l46, u46⟩ := hI.b (hI.wf.s (k := 69) rfl) (rfl : t_bd 11 11 = some (0, 900))
                    refine ev_if f_X12_byteAt (t1 := 21) (t2 := 8) rfl rfl rfl (fun h47 => ?_) (fun h47 => ?_)
                    · have r48 : (gi43 69 11).toInt ≤ z45.toInt := Int32.le_iff_toInt_le.mp h47
                      have l49 : 0 ≤ z45.toInt := t_lel h47 l46
                      refine ev_ic f_X12_byteAt (nx := 22) (v := -1) rfl (by decide) rfl ?_
                      refine ev_retK1 f_X12_byteAt rfl rfl rfl ?_
                      refine ev_if f_X12_inWords (t1 := 102) (t2 := 106) rfl rfl rfl (fun h50 => ?_) (fun h50 => ?_)
                      · have u51 : w43.toInt ≤ (-1) := t_equ h50 (by decide : ((-1):Int32).toInt ≤ ((-1):Int))
                        have l52 : (-1) ≤ w43.toInt := t_eql h50 (by decide : ((-1):Int) ≤ ((-1):Int32).toInt)
                        refine ev_ic f_X12_inWords (nx := 103) (v := 1) rfl (by decide) rfl ?_
                        refine ev_jmp f_X12_inWords (nx := 107) rfl rfl rfl ?_
                        refine ev_loc f_X12_inWords (nx := 109) (lo' := [(5, .int 1), (6, .int y25_6), (4, .int y12_4), (3, .int y5_3), (2, .int y5_2), (0, .ref 69), (1, .retAddr 28)]) rfl rfl rfl rfl ?_
                        refine ev_incR f_X12_inWords (nx := 112) (c := 1) (l := 2) (u := 137) rfl rfl (by decide) (by decide) l25_6 u35 rfl rfl (by decide) (by decide) rfl (fun z53 e53 l53 u53 => ?_)
                        refine ev_jmp f_X12_inWords (nx := 68) rfl rfl rfl ?_
                        refine ev_sub (lo := [(6, .int z53), (5, .int 1), (4, .int y12_4), (3, .int y5_3), (2, .int y5_2), (0, .ref 69), (1, .retAddr 28)]) rfl (t_sc rfl (t_sc rfl (t_sc rfl (t_sc rfl (t_sc rfl (t_sc rfl (t_sc rfl t_sn))))))) ?_
                        exact ih25 _ (by omega) gi43 gl43 gr43 (z53) (1) hI hX  (Int.le_trans (by decide : (1:Int) ≤ 2) l53) u53 (Int.le_trans (by decide : (0:Int) ≤ 1) (by decide : (1:Int) ≤ (1:Int32).toInt)) (by decide : (1:Int32).toInt ≤ (1:Int)) ((hC43.1 69 12 rfl).1.trans c25_0) ((hC43.1 69 13 rfl).1.trans c25_1) ((hC43.1 69 14 rfl).1.trans c25_2) (by omega) (by omega) rfl
                      · have r54 : w43.toInt ≠ (-1) := fun e => h50 (Int32.toInt_inj.mp (e.trans (by decide : ((-1):Int) = ((-1) : Int32).toInt)))
                        refine ev_ic f_X12_inWords (nx := 107) (v := 0) rfl (by decide) rfl ?_
                        refine ev_loc f_X12_inWords (nx := 109) (lo' := [(5, .int 0), (6, .int y25_6), (4, .int y12_4), (3, .int y5_3), (2, .int y5_2), (0, .ref 69), (1, .retAddr 28)]) rfl rfl rfl rfl ?_
                        refine ev_incR f_X12_inWords (nx := 112) (c := 1) (l := 2) (u := 137) rfl rfl (by decide) (by decide) l25_6 u35 rfl rfl (by decide) (by decide) rfl (fun z55 e55 l55 u55 => ?_)
                        refine ev_jmp f_X12_inWords (nx := 68) rfl rfl rfl ?_
                        refine ev_sub (lo := [(6, .int z55), (5, .int 0), (4, .int y12_4), (3, .int y5_3), (2, .int y5_2), (0, .ref 69), (1, .retAddr 28)]) rfl (t_sc rfl (t_sc rfl (t_sc rfl (t_sc rfl (t_sc rfl (t_sc rfl (t_sc rfl t_sn))))))) ?_
                        exact ih25 _ (by omega) gi43 gl43 gr43 (z55) (0) hI hX  (Int.le_trans (by decide : (1:Int) ≤ 2) l55) u55 (by decide : (0:Int) ≤ (0:Int32).toInt) (Int.le_trans (by decide : (0:Int32).toInt ≤ (0:Int)) (by decide : (0:Int) ≤ 1)) ((hC43.1 69 12 rfl).1.trans c25_0) ((hC43.1 69 13 rfl).1.trans c25_1) ((hC43.1 69 14 rfl).1.trans c25_2) (by omega) (by omega) rfl
                    · have r56 : z45.toInt < (gi43 69 11).toInt := Int32.lt_iff_toInt_lt.mp (t_nle h47)
                      have u57 : z45.toInt ≤ 899 := t_ltu (t_nle h47) u46 rfl
                      refine ev_loc f_X12_byteAt (nx := 9) rfl rfl rfl rfl ?_
                      refine ev_getR f_X12_byteAt (nx := 12) rfl (hI.wf.s rfl) rfl rfl (hI.wf.r rfl) rfl rfl ?_
                      refine ev_loc f_X12_byteAt (nx := 13) rfl rfl rfl rfl ?_
                      have l59 : (0:Int) ≤ z45.toInt := (by omega)
                      refine ev_baldT f_X12_byteAt (nx := 14) rfl (hI.wf.s rfl) rfl l59 (by decide) u57 (by decide) rfl (fun w58 e58 => ?_)
                      refine ev_sp f_X12_byteAt (nx := 17) (v := 255) rfl (by decide) rfl ?_
                      refine ev_andE f_X12_byteAt (nx := 18) (c := 255) rfl (by decide) (by decide) rfl (fun z60 e60 l60 u60 => ?_)
                      refine ev_jmp f_X12_byteAt (nx := 22) rfl rfl rfl ?_
                      refine ev_retK1 f_X12_byteAt rfl rfl rfl ?_
                      refine ev_if f_X12_inWords (t1 := 102) (t2 := 106) rfl rfl rfl (fun h61 => ?_) (fun h61 => ?_)
                      · have r62 : w43.toInt = z60.toInt := t_eqi h61
                        have u63 : w43.toInt ≤ 255 := t_equ h61 u60
                        have l64 : 0 ≤ w43.toInt := t_eql h61 l60
                        refine ev_ic f_X12_inWords (nx := 103) (v := 1) rfl (by decide) rfl ?_
                        refine ev_jmp f_X12_inWords (nx := 107) rfl rfl rfl ?_
                        refine ev_loc f_X12_inWords (nx := 109) (lo' := [(5, .int 1), (6, .int y25_6), (4, .int y12_4), (3, .int y5_3), (2, .int y5_2), (0, .ref 69), (1, .retAddr 28)]) rfl rfl rfl rfl ?_
                        refine ev_incR f_X12_inWords (nx := 112) (c := 1) (l := 2) (u := 137) rfl rfl (by decide) (by decide) l25_6 u35 rfl rfl (by decide) (by decide) rfl (fun z65 e65 l65 u65 => ?_)
                        refine ev_jmp f_X12_inWords (nx := 68) rfl rfl rfl ?_
                        refine ev_sub (lo := [(6, .int z65), (5, .int 1), (4, .int y12_4), (3, .int y5_3), (2, .int y5_2), (0, .ref 69), (1, .retAddr 28)]) rfl (t_sc rfl (t_sc rfl (t_sc rfl (t_sc rfl (t_sc rfl (t_sc rfl (t_sc rfl t_sn))))))) ?_
                        exact ih25 _ (by omega) gi43 gl43 gr43 (z65) (1) hI hX  (Int.le_trans (by decide : (1:Int) ≤ 2) l65) u65 (Int.le_trans (by decide : (0:Int) ≤ 1) (by decide : (1:Int) ≤ (1:Int32).toInt)) (by decide : (1:Int32).toInt ≤ (1:Int)) ((hC43.1 69 12 rfl).1.trans c25_0) ((hC43.1 69 13 rfl).1.trans c25_1) ((hC43.1 69 14 rfl).1.trans c25_2) (by omega) (by omega) rfl
                      · have r66 : w43.toInt ≠ z60.toInt := t_nei h61
                        refine ev_ic f_X12_inWords (nx := 107) (v := 0) rfl (by decide) rfl ?_
                        refine ev_loc f_X12_inWords (nx := 109) (lo' := [(5, .int 0), (6, .int y25_6), (4, .int y12_4), (3, .int y5_3), (2, .int y5_2), (0, .ref 69), (1, .retAddr 28)]) rfl rfl rfl rfl ?_
                        refine ev_incR f_X12_inWords (nx := 112) (c := 1) (l := 2) (u := 137) rfl rfl (by decide) (by decide) l25_6 u35 rfl rfl (by decide) (by decide) rfl (fun z67 e67 l67 u67 => ?_)
                        refine ev_jmp f_X12_inWords (nx := 68) rfl rfl rfl ?_
                        refine ev_sub (lo := [(6, .int z67), (5, .int 0), (4, .int y12_4), (3, .int y5_3), (2, .int y5_2), (0, .ref 69), (1, .retAddr 28)]) rfl (t_sc rfl (t_sc rfl (t_sc rfl (t_sc rfl (t_sc rfl (t_sc rfl (t_sc rfl t_sn))))))) ?_
                        exact ih25 _ (by omega) gi43 gl43 gr43 (z67) (0) hI hX  (Int.le_trans (by decide : (1:Int) ≤ 2) l67) u67 (by decide : (0:Int) ≤ (0:Int32).toInt) (Int.le_trans (by decide : (0:Int32).toInt ≤ (0:Int)) (by decide : (0:Int) ≤ 1)) ((hC43.1 69 12 rfl).1.trans c25_0) ((hC43.1 69 13 rfl).1.trans c25_1) ((hC43.1 69 14 rfl).1.trans c25_2) (by omega) (by omega) rfl
              refine ev_sub (lo := [(6, .int y5_3), (5, .int 1), (4, .int y12_4), (3, .int y5_3), (2, .int y5_2), (0, .ref 69), (1, .retAddr 28)]) rfl (t_sc rfl (t_sc rfl (t_sc rfl (t_sc rfl (t_sc rfl (t_sc rfl (t_sc rfl t_sn))))))) ?_
              exact L25 _ gi13 gl13 gr13 (y5_3) (1) hI hX  l5_3 u11 (Int.le_trans (by decide : (0:Int) ≤ 1) (by decide : (1:Int) ≤ (1:Int32).toInt)) (by decide : (1:Int32).toInt ≤ (1:Int)) ((hC13.1 69 12 rfl).1.trans c12_0) rfl rfl (by omega) (by omega) rfl
            · have r68 : z17.toInt ≠ z20.toInt := t_nei h21
              refine ev_ic f_X12_inWords (nx := 63) (v := 0) rfl (by decide) rfl ?_
              refine ev_loc f_X12_inWords (nx := 65) (lo' := [(5, .int 0), (4, .int y12_4), (3, .int y5_3), (2, .int y5_2), (0, .ref 69), (1, .retAddr 28)]) rfl rfl rfl rfl ?_
              refine ev_loc f_X12_inWords (nx := 66) rfl rfl rfl rfl ?_
              refine ev_loc f_X12_inWords (nx := 68) (lo' := [(6, .int y5_3), (5, .int 0), (4, .int y12_4), (3, .int y5_3), (2, .int y5_2), (0, .ref 69), (1, .retAddr 28)]) rfl rfl rfl rfl ?_
              have L69 : ∀ (m69 : Nat) (gi69 : Nat → Nat → Int32) (gl69 : Nat → Nat → Int64) (gr69 : Nat → Nat → Value) (y69_6 : Int32) (y69_5 : Int32), t_I sh gi69 gr69 → t_X wl_m_inWords sh gi gl gr gi69 gl69 gr69 → 1 ≤ y69_6.toInt → y69_6.toInt ≤ 137 → 0 ≤ y69_5.toInt → y69_5.toInt ≤ 1 → gi69 69 12 = (gi 69 12) → gi69 69 13 = (gi13 69 13) → gi69 69 14 = (gi13 69 14) → y5_3.toInt ≤ y12_4.toInt → y5_3.toInt ≤ y69_6.toInt → (138 - y69_6.toInt).toNat = m69 → x_Ev X (d + 5) n_X12_inWords 68 [(6, .int y69_6), (5, .int y69_5), (4, .int y12_4), (3, .int y5_3), (2, .int y5_2), (0, .ref 69), (1, .retAddr 28)] [] (sh, gi69, gl69, gr69) (t_PI wl_m_inWords sh gi gl gr (-2147483648) 2147483647 (Q_m_inWords gi gl gr)) := by
                intro m69
                induction m69 using Nat.strongRecOn with
                | _ m69 ih69 =>
                intro gi69 gl69 gr69 y69_6 y69_5 hI hX l69_6 u69_6 l69_5 u69_5 c69_0 c69_1 c69_2 j69_0 j69_1 hm69
                refine ev_loc f_X12_inWords (nx := 70) rfl rfl rfl rfl ?_
                refine ev_loc f_X12_inWords (nx := 72) rfl rfl rfl rfl ?_
                refine ev_if f_X12_inWords (t1 := 115) (t2 := 75) rfl rfl rfl (fun h70 => ?_) (fun h70 => ?_)
                · have r71 : y12_4.toInt ≤ y69_6.toInt := Int32.le_iff_toInt_le.mp h70
                  refine ev_loc f_X12_inWords (nx := 117) rfl rfl rfl rfl ?_
                  refine ev_if f_X12_inWords (t1 := 122) (t2 := 120) rfl rfl rfl (fun h72 => ?_) (fun h72 => ?_)
                  · have u73 : y69_5.toInt ≤ 0 := t_equ h72 (by decide : (0:Int32).toInt ≤ (0:Int))
                    refine ev_incN f_X12_inWords (nx := 125) rfl rfl (by decide) rfl (fun z74 => ?_)
                    refine ev_loc f_X12_inWords (nx := 127) rfl rfl rfl rfl ?_
                    refine ev_ic f_X12_inWords (nx := 128) (v := 1) rfl (by decide) rfl ?_
                    refine ev_addC f_X12_inWords (nx := 129) (c := 1) (l := 2) (u := 138) rfl (by decide) l12_4 u12_4 rfl rfl (by decide) (by decide) rfl (fun z75 e75 l75 u75 => ?_)
                    refine ev_loc f_X12_inWords (nx := 130) (lo' := [(3, .int z75), (2, .int z74), (6, .int y69_6), (5, .int y69_5), (4, .int y12_4), (0, .ref 69), (1, .retAddr 28)]) rfl rfl rfl rfl ?_
                    refine ev_jmp f_X12_inWords (nx := 14) rfl rfl rfl ?_
                    refine ev_sub (lo := [(3, .int z75), (2, .int z74), (0, .ref 69), (1, .retAddr 28)]) rfl (t_sc rfl (t_sc rfl (t_sc rfl (t_sc rfl t_sn)))) ?_
                    exact ih5 _ (by omega) gi69 gl69 gr69 (z75) (z74) hI hX  (Int.le_trans (by decide : (1:Int) ≤ 2) l75) u75 c69_0 rfl
                  · have r76 : y69_5.toInt ≠ 0 := fun e => h72 (Int32.toInt_inj.mp (e.trans (by decide : (0:Int) = (0 : Int32).toInt)))
                    have l77 : 1 ≤ y69_5.toInt := t_nel h72 l69_5 rfl rfl
                    refine ev_loc f_X12_inWords (nx := 121) rfl rfl rfl rfl ?_
                    exact ev_ret f_X12_inWords rfl rfl rfl ⟨_, _, _, rfl, hI, hX, ⟨_, rfl, (t_lo y5_2), (t_hi y5_2), (show 0 ≤ y5_2.toInt → (gi 69 12).toInt = 2 from (by omega))⟩⟩
                · have r78 : y69_6.toInt < y12_4.toInt := Int32.lt_iff_toInt_lt.mp (t_nle h70)
                  have u79 : y69_6.toInt ≤ 136 := t_ltu (t_nle h70) u12_4 rfl
                  have l80 : 2 ≤ y12_4.toInt := t_ltl (t_nle h70) l69_6 rfl
                  refine ev_loc f_X12_inWords (nx := 77) rfl rfl rfl rfl ?_
                  refine ev_if f_X12_inWords (t1 := 115) (t2 := 80) rfl rfl rfl (fun h81 => ?_) (fun h81 => ?_)
                  · have u82 : y69_5.toInt ≤ 0 := t_equ h81 (by decide : (0:Int32).toInt ≤ (0:Int))
                    refine ev_loc f_X12_inWords (nx := 117) rfl rfl rfl rfl ?_
                    refine ev_t f_X12_inWords (t1 := 122) (t2 := 120) rfl rfl rfl (t_eqT u82 l69_5 (by decide : (0:Int32).toInt ≤ (0:Int)) (by decide : (0:Int) ≤ (0:Int32).toInt)) ?_
                    refine ev_incN f_X12_inWords (nx := 125) rfl rfl (by decide) rfl (fun z83 => ?_)
                    refine ev_loc f_X12_inWords (nx := 127) rfl rfl rfl rfl ?_
                    refine ev_ic f_X12_inWords (nx := 128) (v := 1) rfl (by decide) rfl ?_
                    refine ev_addC f_X12_inWords (nx := 129) (c := 1) (l := 3) (u := 138) rfl (by decide) l80 u12_4 rfl rfl (by decide) (by decide) rfl (fun z84 e84 l84 u84 => ?_)
                    refine ev_loc f_X12_inWords (nx := 130) (lo' := [(3, .int z84), (2, .int z83), (6, .int y69_6), (5, .int y69_5), (4, .int y12_4), (0, .ref 69), (1, .retAddr 28)]) rfl rfl rfl rfl ?_
                    refine ev_jmp f_X12_inWords (nx := 14) rfl rfl rfl ?_
                    refine ev_sub (lo := [(3, .int z84), (2, .int z83), (0, .ref 69), (1, .retAddr 28)]) rfl (t_sc rfl (t_sc rfl (t_sc rfl (t_sc rfl t_sn)))) ?_
                    exact ih5 _ (by omega) gi69 gl69 gr69 (z84) (z83) hI hX  (Int.le_trans (by decide : (1:Int) ≤ 3) l84) u84 c69_0 rfl
                  · have r85 : y69_5.toInt ≠ 0 := fun e => h81 (Int32.toInt_inj.mp (e.trans (by decide : (0:Int) = (0 : Int32).toInt)))
                    have l86 : 1 ≤ y69_5.toInt := t_nel h81 l69_5 rfl rfl
                    refine ev_loc f_X12_inWords (nx := 81) rfl rfl rfl rfl ?_
                    refine ev_loc f_X12_inWords (nx := 83) rfl rfl rfl rfl ?_
                    refine ev_qI f_X12_inWords (nx := 86) (r := []) rfl rfl rfl rfl rfl rfl rfl (c_m_charAt hI (y69_6) (Int.le_trans (by decide : (0:Int) ≤ 1) l69_6) (Int.le_trans u79 (by decide : (136:Int) ≤ 137))) rfl hX rfl (fun w87 gi87 gl87 gr87 l87 u87 hI hX hC87 q87 => ?_)
                    have q87 : (w87 = x_kc y69_6.toNatClampNeg) ∧ (w87.toInt ≠ 32 → y69_6.toInt + 1 ≤ 137) ∧ 0 ≤ w87.toInt ∧ w87.toInt ≤ 127 := q87
                    refine ev_loc f_X12_inWords (nx := 87) rfl rfl rfl rfl ?_
                    refine ev_loc f_X12_inWords (nx := 88) rfl rfl rfl rfl ?_
                    refine ev_gvI f_X12_inWords (nx := 91) (w := (gi13 69 13)) rfl (hI.wf.s rfl) rfl rfl ((hC87.1 69 13 rfl).1.trans c69_1) rfl ?_
                    refine ev_loc f_X12_inWords (nx := 93) rfl rfl rfl rfl ?_
                    refine ev_addR f_X12_inWords (nx := 94) (l := 1) (u := 1036) rfl l19 u19 l69_6 u79 rfl rfl (by decide) (by decide) rfl (fun z88 e88 l88 u88 => ?_)
                    refine ev_loc f_X12_inWords (nx := 95) rfl rfl rfl rfl ?_
                    refine ev_subR f_X12_inWords (nx := 96) (l := (-136)) (u := 1035) rfl l88 u88 l5_3 u11 rfl rfl (by decide) (by decide) rfl (fun z89 e89 l89 u89 => ?_)
                    refine ev_inV2 f_X12_inWords (nx := 99) (lo2 := [(0, .ref 69), (1, .int z89)]) rfl rfl rfl rfl f_X12_byteAt (hI.wf.s rfl) rfl rfl rfl rfl rfl ?_
                    refine ev_loc f_X12_byteAt (nx := 1) rfl rfl rfl rfl ?_
                    refine ev_loc f_X12_byteAt (nx := 2) rfl rfl rfl rfl ?_
                    refine ev_getI f_X12_byteAt (nx := 5) rfl (hI.wf.s rfl) rfl rfl rfl ?_
                    obtain ⟨l90, u90⟩ := hI.b (hI.wf.s (k := 69) rfl) (rfl : t_bd 11 11 = some (0, 900))
                    refine ev_if f_X12_byteAt (t1 := 21) (t2 := 8) rfl rfl rfl (fun h91 => ?_) (fun h91 => ?_)
                    · have r92 : (gi87 69 11).toInt ≤ z89.toInt := Int32.le_iff_toInt_le.mp h91
                      have l93 : 0 ≤ z89.toInt := t_lel h91 l90
                      refine ev_ic f_X12_byteAt (nx := 22) (v := -1) rfl (by decide) rfl ?_
                      refine ev_retK1 f_X12_byteAt rfl rfl rfl ?_
                      refine ev_if f_X12_inWords (t1 := 102) (t2 := 106) rfl rfl rfl (fun h94 => ?_) (fun h94 => ?_)
                      · have u95 : w87.toInt ≤ (-1) := t_equ h94 (by decide : ((-1):Int32).toInt ≤ ((-1):Int))
                        have l96 : (-1) ≤ w87.toInt := t_eql h94 (by decide : ((-1):Int) ≤ ((-1):Int32).toInt)
                        refine ev_ic f_X12_inWords (nx := 103) (v := 1) rfl (by decide) rfl ?_
                        refine ev_jmp f_X12_inWords (nx := 107) rfl rfl rfl ?_
                        refine ev_loc f_X12_inWords (nx := 109) (lo' := [(5, .int 1), (6, .int y69_6), (4, .int y12_4), (3, .int y5_3), (2, .int y5_2), (0, .ref 69), (1, .retAddr 28)]) rfl rfl rfl rfl ?_
                        refine ev_incR f_X12_inWords (nx := 112) (c := 1) (l := 2) (u := 137) rfl rfl (by decide) (by decide) l69_6 u79 rfl rfl (by decide) (by decide) rfl (fun z97 e97 l97 u97 => ?_)
                        refine ev_jmp f_X12_inWords (nx := 68) rfl rfl rfl ?_
                        refine ev_sub (lo := [(6, .int z97), (5, .int 1), (4, .int y12_4), (3, .int y5_3), (2, .int y5_2), (0, .ref 69), (1, .retAddr 28)]) rfl (t_sc rfl (t_sc rfl (t_sc rfl (t_sc rfl (t_sc rfl (t_sc rfl (t_sc rfl t_sn))))))) ?_
                        exact ih69 _ (by omega) gi87 gl87 gr87 (z97) (1) hI hX  (Int.le_trans (by decide : (1:Int) ≤ 2) l97) u97 (Int.le_trans (by decide : (0:Int) ≤ 1) (by decide : (1:Int) ≤ (1:Int32).toInt)) (by decide : (1:Int32).toInt ≤ (1:Int)) ((hC87.1 69 12 rfl).1.trans c69_0) ((hC87.1 69 13 rfl).1.trans c69_1) ((hC87.1 69 14 rfl).1.trans c69_2) (by omega) (by omega) rfl
                      · have r98 : w87.toInt ≠ (-1) := fun e => h94 (Int32.toInt_inj.mp (e.trans (by decide : ((-1):Int) = ((-1) : Int32).toInt)))
                        refine ev_ic f_X12_inWords (nx := 107) (v := 0) rfl (by decide) rfl ?_
                        refine ev_loc f_X12_inWords (nx := 109) (lo' := [(5, .int 0), (6, .int y69_6), (4, .int y12_4), (3, .int y5_3), (2, .int y5_2), (0, .ref 69), (1, .retAddr 28)]) rfl rfl rfl rfl ?_
                        refine ev_incR f_X12_inWords (nx := 112) (c := 1) (l := 2) (u := 137) rfl rfl (by decide) (by decide) l69_6 u79 rfl rfl (by decide) (by decide) rfl (fun z99 e99 l99 u99 => ?_)
                        refine ev_jmp f_X12_inWords (nx := 68) rfl rfl rfl ?_
                        refine ev_sub (lo := [(6, .int z99), (5, .int 0), (4, .int y12_4), (3, .int y5_3), (2, .int y5_2), (0, .ref 69), (1, .retAddr 28)]) rfl (t_sc rfl (t_sc rfl (t_sc rfl (t_sc rfl (t_sc rfl (t_sc rfl (t_sc rfl t_sn))))))) ?_
                        exact ih69 _ (by omega) gi87 gl87 gr87 (z99) (0) hI hX  (Int.le_trans (by decide : (1:Int) ≤ 2) l99) u99 (by decide : (0:Int) ≤ (0:Int32).toInt) (Int.le_trans (by decide : (0:Int32).toInt ≤ (0:Int)) (by decide : (0:Int) ≤ 1)) ((hC87.1 69 12 rfl).1.trans c69_0) ((hC87.1 69 13 rfl).1.trans c69_1) ((hC87.1 69 14 rfl).1.trans c69_2) (by omega) (by omega) rfl
                    · have r100 : z89.toInt < (gi87 69 11).toInt := Int32.lt_iff_toInt_lt.mp (t_nle h91)
                      have u101 : z89.toInt ≤ 899 := t_ltu (t_nle h91) u90 rfl
                      refine ev_loc f_X12_byteAt (nx := 9) rfl rfl rfl rfl ?_
                      refine ev_getR f_X12_byteAt (nx := 12) rfl (hI.wf.s rfl) rfl rfl (hI.wf.r rfl) rfl rfl ?_
                      refine ev_loc f_X12_byteAt (nx := 13) rfl rfl rfl rfl ?_
                      have l103 : (0:Int) ≤ z89.toInt := (by omega)
                      refine ev_baldT f_X12_byteAt (nx := 14) rfl (hI.wf.s rfl) rfl l103 (by decide) u101 (by decide) rfl (fun w102 e102 => ?_)
                      refine ev_sp f_X12_byteAt (nx := 17) (v := 255) rfl (by decide) rfl ?_
                      refine ev_andE f_X12_byteAt (nx := 18) (c := 255) rfl (by decide) (by decide) rfl (fun z104 e104 l104 u104 => ?_)
                      refine ev_jmp f_X12_byteAt (nx := 22) rfl rfl rfl ?_
                      refine ev_retK1 f_X12_byteAt rfl rfl rfl ?_
                      refine ev_if f_X12_inWords (t1 := 102) (t2 := 106) rfl rfl rfl (fun h105 => ?_) (fun h105 => ?_)
                      · have r106 : w87.toInt = z104.toInt := t_eqi h105
                        have u107 : w87.toInt ≤ 255 := t_equ h105 u104
                        have l108 : 0 ≤ w87.toInt := t_eql h105 l104
                        refine ev_ic f_X12_inWords (nx := 103) (v := 1) rfl (by decide) rfl ?_
                        refine ev_jmp f_X12_inWords (nx := 107) rfl rfl rfl ?_
                        refine ev_loc f_X12_inWords (nx := 109) (lo' := [(5, .int 1), (6, .int y69_6), (4, .int y12_4), (3, .int y5_3), (2, .int y5_2), (0, .ref 69), (1, .retAddr 28)]) rfl rfl rfl rfl ?_
                        refine ev_incR f_X12_inWords (nx := 112) (c := 1) (l := 2) (u := 137) rfl rfl (by decide) (by decide) l69_6 u79 rfl rfl (by decide) (by decide) rfl (fun z109 e109 l109 u109 => ?_)
                        refine ev_jmp f_X12_inWords (nx := 68) rfl rfl rfl ?_
                        refine ev_sub (lo := [(6, .int z109), (5, .int 1), (4, .int y12_4), (3, .int y5_3), (2, .int y5_2), (0, .ref 69), (1, .retAddr 28)]) rfl (t_sc rfl (t_sc rfl (t_sc rfl (t_sc rfl (t_sc rfl (t_sc rfl (t_sc rfl t_sn))))))) ?_
                        exact ih69 _ (by omega) gi87 gl87 gr87 (z109) (1) hI hX  (Int.le_trans (by decide : (1:Int) ≤ 2) l109) u109 (Int.le_trans (by decide : (0:Int) ≤ 1) (by decide : (1:Int) ≤ (1:Int32).toInt)) (by decide : (1:Int32).toInt ≤ (1:Int)) ((hC87.1 69 12 rfl).1.trans c69_0) ((hC87.1 69 13 rfl).1.trans c69_1) ((hC87.1 69 14 rfl).1.trans c69_2) (by omega) (by omega) rfl
                      · have r110 : w87.toInt ≠ z104.toInt := t_nei h105
                        refine ev_ic f_X12_inWords (nx := 107) (v := 0) rfl (by decide) rfl ?_
                        refine ev_loc f_X12_inWords (nx := 109) (lo' := [(5, .int 0), (6, .int y69_6), (4, .int y12_4), (3, .int y5_3), (2, .int y5_2), (0, .ref 69), (1, .retAddr 28)]) rfl rfl rfl rfl ?_
                        refine ev_incR f_X12_inWords (nx := 112) (c := 1) (l := 2) (u := 137) rfl rfl (by decide) (by decide) l69_6 u79 rfl rfl (by decide) (by decide) rfl (fun z111 e111 l111 u111 => ?_)
                        refine ev_jmp f_X12_inWords (nx := 68) rfl rfl rfl ?_
                        refine ev_sub (lo := [(6, .int z111), (5, .int 0), (4, .int y12_4), (3, .int y5_3), (2, .int y5_2), (0, .ref 69), (1, .retAddr 28)]) rfl (t_sc rfl (t_sc rfl (t_sc rfl (t_sc rfl (t_sc rfl (t_sc rfl (t_sc rfl t_sn))))))) ?_
                        exact ih69 _ (by omega) gi87 gl87 gr87 (z111) (0) hI hX  (Int.le_trans (by decide : (1:Int) ≤ 2) l111) u111 (by decide : (0:Int) ≤ (0:Int32).toInt) (Int.le_trans (by decide : (0:Int32).toInt ≤ (0:Int)) (by decide : (0:Int) ≤ 1)) ((hC87.1 69 12 rfl).1.trans c69_0) ((hC87.1 69 13 rfl).1.trans c69_1) ((hC87.1 69 14 rfl).1.trans c69_2) (by omega) (by omega) rfl
              refine ev_sub (lo := [(6, .int y5_3), (5, .int 0), (4, .int y12_4), (3, .int y5_3), (2, .int y5_2), (0, .ref 69), (1, .retAddr 28)]) rfl (t_sc rfl (t_sc rfl (t_sc rfl (t_sc rfl (t_sc rfl (t_sc rfl (t_sc rfl t_sn))))))) ?_
              exact L69 _ gi13 gl13 gr13 (y5_3) (0) hI hX  l5_3 u11 (by decide : (0:Int) ≤ (0:Int32).toInt) (Int.le_trans (by decide : (0:Int32).toInt ≤ (0:Int)) (by decide : (0:Int) ≤ 1)) ((hC13.1 69 12 rfl).1.trans c12_0) rfl rfl (by omega) (by omega) rfl
          · have r112 : w13.toInt ≠ 32 := fun e => h14 (Int32.toInt_inj.mp (e.trans (by decide : (32:Int) = (32 : Int32).toInt)))
            refine ev_incR f_X12_inWords (nx := 39) (c := 1) (l := 2) (u := 138) rfl rfl (by decide) (by decide) l12_4 u12_4 rfl rfl (by decide) (by decide) rfl (fun z113 e113 l113 u113 => ?_)
            refine ev_jmp f_X12_inWords (nx := 25) rfl rfl rfl ?_
            refine ev_sub (lo := [(4, .int z113), (3, .int y5_3), (2, .int y5_2), (0, .ref 69), (1, .retAddr 28)]) rfl (t_sc rfl (t_sc rfl (t_sc rfl (t_sc rfl (t_sc rfl t_sn))))) ?_
            exact ih12 _ (by omega) gi13 gl13 gr13 (z113) hI hX  (Int.le_trans (by decide : (1:Int) ≤ 2) l113) (by omega : z113.toInt ≤ (137:Int)) ((hC13.1 69 12 rfl).1.trans c12_0) (by omega) rfl
        refine ev_sub (lo := [(4, .int y5_3), (3, .int y5_3), (2, .int y5_2), (0, .ref 69), (1, .retAddr 28)]) rfl (t_sc rfl (t_sc rfl (t_sc rfl (t_sc rfl (t_sc rfl t_sn))))) ?_
        exact L12 _ gi6 gl6 gr6 (y5_3) hI hX  l5_3 u11 ((hC6.1 69 12 rfl).1.trans c5_0) (by omega) rfl
    refine ev_sub (lo := [(3, .int 1), (2, .int 0), (0, .ref 69), (1, .retAddr 28)]) rfl (t_sc rfl (t_sc rfl (t_sc rfl (t_sc rfl t_sn)))) ?_
    exact L5 _ gi gl gr (1) (0) hI hX  (by decide : (1:Int) ≤ (1:Int32).toInt) (Int.le_trans (by decide : (1:Int32).toInt ≤ (1:Int)) (by decide : (1:Int) ≤ 138)) rfl rfl
  · have r114 : (gi 69 12).toInt ≠ 2 := fun e => h2 (Int32.toInt_inj.mp (e.trans (by decide : (2:Int) = (2 : Int32).toInt)))
    refine ev_ic f_X12_inWords (nx := 9) (v := -1) rfl (by decide) rfl ?_
    exact ev_ret f_X12_inWords rfl rfl rfl ⟨_, _, _, rfl, hI, hX, ⟨_, rfl, (Int.le_trans (by decide : ((-2147483648):Int) ≤ (-1)) (by decide : ((-1):Int) ≤ ((-1):Int32).toInt)), (Int.le_trans (by decide : ((-1):Int32).toInt ≤ ((-1):Int)) (by decide : ((-1):Int) ≤ 2147483647)), (show 0 ≤ (-1) → (gi 69 12).toInt = 2 from (by omega))⟩⟩
def wl_m_ahead : List (Nat × Nat) := [(69, 12), (69, 13), (69, 14), (69, 15)]
def Q_m_ahead (gi : Nat → Nat → Int32) (gl : Nat → Nat → Int64) (gr : Nat → Nat → Value) : (Nat → Nat → Int32) → (Nat → Nat → Int64) → (Nat → Nat → Value) → Prop := fun (gi2 : Nat → Nat → Int32) (gl2 : Nat → Nat → Int64) (gr2 : Nat → Nat → Value) => (gi 69 14).toInt ≤ (gi2 69 14).toInt ∧ ((gi2 69 12).toInt ≠ 0 → (gi 69 14).toInt < (gi2 69 14).toInt)
theorem c_m_ahead {X : x_Ext} {d : Nat} {sh : List (Nat ⊕ (Nat × Nat))} {gi : Nat → Nat → Int32} {gl : Nat → Nat → Int64} {gr : Nat → Nat → Value} (hI : t_I sh gi gr) : x_Me X (d + 2) n_X12_ahead [.ref 69] (sh, gi, gl, gr) (t_PN wl_m_ahead sh gi gl gr (Q_m_ahead gi gl gr)) := by
  have hX : t_X wl_m_ahead sh gi gl gr gi gl gr := t_X.rf
  refine me_i f_X12_ahead (hI.wf.s rfl) rfl rfl rfl ?_
  have L1 : ∀ (gi1 : Nat → Nat → Int32) (gl1 : Nat → Nat → Int64) (gr1 : Nat → Nat → Value), t_I sh gi1 gr1 → t_X wl_m_ahead sh gi gl gr gi1 gl1 gr1 → (gi 69 14).toInt ≤ (gi1 69 14).toInt → x_Ev X (d + 2) n_X12_ahead 39 [(0, .ref 69)] [] (sh, gi1, gl1, gr1) (t_PN wl_m_ahead sh gi gl gr (Q_m_ahead gi gl gr)) := by
    intro gi1 gl1 gr1 hI hX j1_0
    refine ev_loc f_X12_ahead (nx := 40) rfl rfl rfl rfl ?_
    refine ev_loc f_X12_ahead (nx := 41) rfl rfl rfl rfl ?_
    refine ev_getI f_X12_ahead (nx := 44) rfl (hI.wf.s rfl) rfl rfl rfl ?_
    obtain ⟨l2, u2⟩ := hI.b (hI.wf.s (k := 69) rfl) (rfl : t_bd 11 14 = some (0, 900))
    refine ev_putIT f_X12_ahead (nx := 47) rfl (hI.wf.s rfl) rfl rfl rfl (hI.putB (hI.wf.s rfl) rfl rfl l2 (by decide) u2 (by decide)) (hX.upI rfl) (fun g3 e3 hI hX => ?_)
    refine ev_loc f_X12_ahead (nx := 48) rfl rfl rfl rfl ?_
    refine ev_loc f_X12_ahead (nx := 49) rfl rfl rfl rfl ?_
    refine ev_gvI f_X12_ahead (nx := 52) (w := (gi1 69 14)) rfl (hI.wf.s rfl) rfl rfl ((by rw [e3]; exact x_up2_off (Or.inr (by decide)) : g3 69 14 = gi1 69 14).trans rfl) rfl ?_
    refine ev_inV2 f_X12_ahead (nx := 55) (lo2 := [(0, .ref 69), (1, .int (gi1 69 14))]) rfl rfl rfl rfl f_X12_byteAt (hI.wf.s rfl) rfl rfl rfl rfl rfl ?_
    refine ev_loc f_X12_byteAt (nx := 1) rfl rfl rfl rfl ?_
    refine ev_loc f_X12_byteAt (nx := 2) rfl rfl rfl rfl ?_
    refine ev_getI f_X12_byteAt (nx := 5) rfl (hI.wf.s rfl) rfl rfl rfl ?_
    obtain ⟨l4, u4⟩ := hI.b (hI.wf.s (k := 69) rfl) (rfl : t_bd 11 11 = some (0, 900))
    refine ev_if f_X12_byteAt (t1 := 21) (t2 := 8) rfl rfl rfl (fun h5 => ?_) (fun h5 => ?_)
    · have r6 : (g3 69 11).toInt ≤ (gi1 69 14).toInt := Int32.le_iff_toInt_le.mp h5
      refine ev_ic f_X12_byteAt (nx := 22) (v := -1) rfl (by decide) rfl ?_
      refine ev_retK1 f_X12_byteAt rfl rfl rfl ?_
      refine ev_loc f_X12_ahead (nx := 56) (lo' := [(1, .int (-1)), (0, .ref 69)]) rfl rfl rfl rfl ?_
      refine ev_loc f_X12_ahead (nx := 57) rfl rfl rfl rfl ?_
      refine ev_loc f_X12_ahead (nx := 58) rfl rfl rfl rfl ?_
      refine ev_putIT f_X12_ahead (nx := 61) rfl (hI.wf.s rfl) rfl rfl rfl (hI.put0 (hI.wf.s rfl) rfl rfl) (hX.upI rfl) (fun g7 e7 hI hX => ?_)
      refine ev_loc f_X12_ahead (nx := 62) rfl rfl rfl rfl ?_
      refine ev_ic f_X12_ahead (nx := 63) (v := -1) rfl (by decide) rfl ?_
      refine ev_t f_X12_ahead (t1 := 66) (t2 := 74) rfl rfl rfl (by decide) ?_
      refine ev_loc f_X12_ahead (nx := 67) rfl rfl rfl rfl ?_
      refine ev_ic f_X12_ahead (nx := 68) (v := 0) rfl (by decide) rfl ?_
      refine ev_putIT f_X12_ahead (nx := 71) rfl (hI.wf.s rfl) rfl rfl rfl (hI.putB (hI.wf.s rfl) rfl rfl (by decide : (0:Int) ≤ (0:Int32).toInt) (by decide) (by decide : (0:Int32).toInt ≤ (0:Int)) (by decide)) (hX.upI rfl) (fun g8 e8 hI hX => ?_)
      refine ev_jmp f_X12_ahead (nx := 263) rfl rfl rfl ?_
      exact ev_ret f_X12_ahead rfl rfl rfl ⟨_, _, _, rfl, hI, hX, ⟨rfl, (show (gi 69 14).toInt ≤ (g8 69 14).toInt ∧ ((g8 69 12).toInt ≠ 0 → (gi 69 14).toInt < (g8 69 14).toInt) from (by have ff9 : (g8 69 14).toInt = (gi1 69 14).toInt := congrArg Int32.toInt ((by rw [e8]; exact x_up2_off (Or.inr (by decide)) : g8 69 14 = g7 69 14).trans ((by rw [e7]; exact x_up2_off (Or.inr (by decide)) : g7 69 14 = g3 69 14).trans ((by rw [e3]; exact x_up2_off (Or.inr (by decide)) : g3 69 14 = gi1 69 14).trans rfl))); have ff10 : (g8 69 12).toInt = 0 := (congrArg Int32.toInt (by rw [e8]; exact x_up2_at _ _ _ _ : g8 69 12 = 0)).trans (by decide); omega))⟩⟩
    · have r11 : (gi1 69 14).toInt < (g3 69 11).toInt := Int32.lt_iff_toInt_lt.mp (t_nle h5)
      have u12 : (gi1 69 14).toInt ≤ 899 := t_ltu (t_nle h5) u4 rfl
      have l13 : 1 ≤ (g3 69 11).toInt := t_ltl (t_nle h5) l2 rfl
      refine ev_loc f_X12_byteAt (nx := 9) rfl rfl rfl rfl ?_
      refine ev_getR f_X12_byteAt (nx := 12) rfl (hI.wf.s rfl) rfl rfl (hI.wf.r rfl) rfl rfl ?_
      refine ev_loc f_X12_byteAt (nx := 13) rfl rfl rfl rfl ?_
      refine ev_baldT f_X12_byteAt (nx := 14) rfl (hI.wf.s rfl) rfl l2 (by decide) u12 (by decide) rfl (fun w14 e14 => ?_)
      refine ev_sp f_X12_byteAt (nx := 17) (v := 255) rfl (by decide) rfl ?_
      refine ev_andE f_X12_byteAt (nx := 18) (c := 255) rfl (by decide) (by decide) rfl (fun z15 e15 l15 u15 => ?_)
      refine ev_jmp f_X12_byteAt (nx := 22) rfl rfl rfl ?_
      refine ev_retK1 f_X12_byteAt rfl rfl rfl ?_
      refine ev_loc f_X12_ahead (nx := 56) (lo' := [(1, .int z15), (0, .ref 69)]) rfl rfl rfl rfl ?_
      refine ev_loc f_X12_ahead (nx := 57) rfl rfl rfl rfl ?_
      refine ev_loc f_X12_ahead (nx := 58) rfl rfl rfl rfl ?_
      refine ev_putIT f_X12_ahead (nx := 61) rfl (hI.wf.s rfl) rfl rfl rfl (hI.put0 (hI.wf.s rfl) rfl rfl) (hX.upI rfl) (fun g16 e16 hI hX => ?_)
      refine ev_loc f_X12_ahead (nx := 62) rfl rfl rfl rfl ?_
      refine ev_ic f_X12_ahead (nx := 63) (v := -1) rfl (by decide) rfl ?_
      refine ev_f f_X12_ahead (t1 := 66) (t2 := 74) rfl rfl rfl (t_neT' (by decide : ((-1):Int32).toInt ≤ ((-1):Int)) l15 (by decide)) ?_
      refine ev_loc f_X12_ahead (nx := 75) rfl rfl rfl rfl ?_
      refine ev_inS1 f_X12_ahead (nx := 78) (lo2 := [(0, .int z15)]) rfl rfl rfl rfl f_X12_isSmall rfl rfl rfl rfl ?_
      refine ev_loc f_X12_isSmall (nx := 1) rfl rfl rfl rfl ?_
      refine ev_bp f_X12_isSmall (nx := 3) (v := 97) rfl (by decide) rfl ?_
      refine ev_if f_X12_isSmall (t1 := 16) (t2 := 6) rfl rfl rfl (fun h17 => ?_) (fun h17 => ?_)
      · have u18 : z15.toInt ≤ 96 := t_ltu h17 (by decide : (97:Int32).toInt ≤ (97:Int)) rfl
        refine ev_ic f_X12_isSmall (nx := 17) (v := 0) rfl (by decide) rfl ?_
        refine ev_retK1 f_X12_isSmall rfl rfl rfl ?_
        refine ev_t f_X12_ahead (t1 := 116) (t2 := 81) rfl rfl rfl (by decide) ?_
        refine ev_loc f_X12_ahead (nx := 117) rfl rfl rfl rfl ?_
        refine ev_inS1 f_X12_ahead (nx := 120) (lo2 := [(0, .int z15)]) rfl rfl rfl rfl f_X12_isDigit rfl rfl rfl rfl ?_
        refine ev_loc f_X12_isDigit (nx := 1) rfl rfl rfl rfl ?_
        refine ev_bp f_X12_isDigit (nx := 3) (v := 48) rfl (by decide) rfl ?_
        refine ev_if f_X12_isDigit (t1 := 16) (t2 := 6) rfl rfl rfl (fun h19 => ?_) (fun h19 => ?_)
        · have u20 : z15.toInt ≤ 47 := t_ltu h19 (by decide : (48:Int32).toInt ≤ (48:Int)) rfl
          refine ev_ic f_X12_isDigit (nx := 17) (v := 0) rfl (by decide) rfl ?_
          refine ev_retK1 f_X12_isDigit rfl rfl rfl ?_
          refine ev_t f_X12_ahead (t1 := 208) (t2 := 123) rfl rfl rfl (by decide) ?_
          refine ev_loc f_X12_ahead (nx := 209) rfl rfl rfl rfl ?_
          refine ev_alu f_X12_ahead (nx := 210) rfl rfl rfl rfl ?_
          refine ev_gvI f_X12_ahead (nx := 213) (w := (gi1 69 14)) rfl (hI.wf.s rfl) rfl rfl ((by rw [e16]; exact x_up2_off (Or.inr (by decide)) : g16 69 14 = g3 69 14).trans ((by rw [e3]; exact x_up2_off (Or.inr (by decide)) : g3 69 14 = gi1 69 14).trans rfl)) rfl ?_
          refine ev_ic f_X12_ahead (nx := 214) (v := 1) rfl (by decide) rfl ?_
          refine ev_addC f_X12_ahead (nx := 215) (c := 1) (l := 1) (u := 900) rfl (by decide) l2 u12 rfl rfl (by decide) (by decide) rfl (fun z21 e21 l21 u21 => ?_)
          refine ev_putIT f_X12_ahead (nx := 218) rfl (hI.wf.s rfl) rfl rfl rfl (hI.putB (hI.wf.s rfl) rfl rfl l21 (by decide) u21 (by decide)) (hX.upI rfl) (fun g22 e22 hI hX => ?_)
          refine ev_loc f_X12_ahead (nx := 219) rfl rfl rfl rfl ?_
          refine ev_loc f_X12_ahead (nx := 220) rfl rfl rfl rfl ?_
          refine ev_bp f_X12_ahead (nx := 222) (v := 59) rfl (by decide) rfl ?_
          refine ev_f f_X12_ahead (t1 := 255) (t2 := 225) rfl rfl rfl (t_neT u20 (by decide : (59:Int) ≤ (59:Int32).toInt) (by decide)) ?_
          refine ev_loc f_X12_ahead (nx := 226) rfl rfl rfl rfl ?_
          refine ev_bp f_X12_ahead (nx := 228) (v := 60) rfl (by decide) rfl ?_
          refine ev_f f_X12_ahead (t1 := 255) (t2 := 231) rfl rfl rfl (t_neT u20 (by decide : (60:Int) ≤ (60:Int32).toInt) (by decide)) ?_
          refine ev_loc f_X12_ahead (nx := 232) rfl rfl rfl rfl ?_
          refine ev_bp f_X12_ahead (nx := 234) (v := 62) rfl (by decide) rfl ?_
          refine ev_f f_X12_ahead (t1 := 255) (t2 := 237) rfl rfl rfl (t_neT u20 (by decide : (62:Int) ≤ (62:Int32).toInt) (by decide)) ?_
          refine ev_loc f_X12_ahead (nx := 238) rfl rfl rfl rfl ?_
          refine ev_bp f_X12_ahead (nx := 240) (v := 61) rfl (by decide) rfl ?_
          refine ev_f f_X12_ahead (t1 := 255) (t2 := 243) rfl rfl rfl (t_neT u20 (by decide : (61:Int) ≤ (61:Int32).toInt) (by decide)) ?_
          refine ev_loc f_X12_ahead (nx := 244) rfl rfl rfl rfl ?_
          refine ev_bp f_X12_ahead (nx := 246) (v := 40) rfl (by decide) rfl ?_
          refine ev_if f_X12_ahead (t1 := 255) (t2 := 249) rfl rfl rfl (fun h23 => ?_) (fun h23 => ?_)
          · have u24 : z15.toInt ≤ 40 := t_equ h23 (by decide : (40:Int32).toInt ≤ (40:Int))
            have l25 : 40 ≤ z15.toInt := t_eql h23 (by decide : (40:Int) ≤ (40:Int32).toInt)
            refine ev_ic f_X12_ahead (nx := 256) (v := 4) rfl (by decide) rfl ?_
            refine ev_jmp f_X12_ahead (nx := 260) rfl rfl rfl ?_
            refine ev_putIT f_X12_ahead (nx := 263) rfl (hI.wf.s rfl) rfl rfl rfl (hI.putB (hI.wf.s rfl) rfl rfl (by decide : (4:Int) ≤ (4:Int32).toInt) (by decide) (by decide : (4:Int32).toInt ≤ (4:Int)) (by decide)) (hX.upI rfl) (fun g26 e26 hI hX => ?_)
            exact ev_ret f_X12_ahead rfl rfl rfl ⟨_, _, _, rfl, hI, hX, ⟨rfl, (show (gi 69 14).toInt ≤ (g26 69 14).toInt ∧ ((g26 69 12).toInt ≠ 0 → (gi 69 14).toInt < (g26 69 14).toInt) from (by have ff27 : (g26 69 14).toInt = z21.toInt := congrArg Int32.toInt ((by rw [e26]; exact x_up2_off (Or.inr (by decide)) : g26 69 14 = g22 69 14).trans (by rw [e22]; exact x_up2_at _ _ _ _ : g22 69 14 = z21)); have ff28 : (g26 69 12).toInt = 4 := (congrArg Int32.toInt (by rw [e26]; exact x_up2_at _ _ _ _ : g26 69 12 = 4)).trans (by decide); omega))⟩⟩
          · have r29 : z15.toInt ≠ 40 := fun e => h23 (Int32.toInt_inj.mp (e.trans (by decide : (40:Int) = (40 : Int32).toInt)))
            refine ev_loc f_X12_ahead (nx := 250) rfl rfl rfl rfl ?_
            refine ev_bp f_X12_ahead (nx := 252) (v := 41) rfl (by decide) rfl ?_
            refine ev_if f_X12_ahead (t1 := 255) (t2 := 259) rfl rfl rfl (fun h30 => ?_) (fun h30 => ?_)
            · have u31 : z15.toInt ≤ 41 := t_equ h30 (by decide : (41:Int32).toInt ≤ (41:Int))
              have l32 : 41 ≤ z15.toInt := t_eql h30 (by decide : (41:Int) ≤ (41:Int32).toInt)
              refine ev_ic f_X12_ahead (nx := 256) (v := 4) rfl (by decide) rfl ?_
              refine ev_jmp f_X12_ahead (nx := 260) rfl rfl rfl ?_
              refine ev_putIT f_X12_ahead (nx := 263) rfl (hI.wf.s rfl) rfl rfl rfl (hI.putB (hI.wf.s rfl) rfl rfl (by decide : (4:Int) ≤ (4:Int32).toInt) (by decide) (by decide : (4:Int32).toInt ≤ (4:Int)) (by decide)) (hX.upI rfl) (fun g33 e33 hI hX => ?_)
              exact ev_ret f_X12_ahead rfl rfl rfl ⟨_, _, _, rfl, hI, hX, ⟨rfl, (show (gi 69 14).toInt ≤ (g33 69 14).toInt ∧ ((g33 69 12).toInt ≠ 0 → (gi 69 14).toInt < (g33 69 14).toInt) from (by have ff34 : (g33 69 14).toInt = z21.toInt := congrArg Int32.toInt ((by rw [e33]; exact x_up2_off (Or.inr (by decide)) : g33 69 14 = g22 69 14).trans (by rw [e22]; exact x_up2_at _ _ _ _ : g22 69 14 = z21)); have ff35 : (g33 69 12).toInt = 4 := (congrArg Int32.toInt (by rw [e33]; exact x_up2_at _ _ _ _ : g33 69 12 = 4)).trans (by decide); omega))⟩⟩
            · have r36 : z15.toInt ≠ 41 := fun e => h30 (Int32.toInt_inj.mp (e.trans (by decide : (41:Int) = (41 : Int32).toInt)))
              refine ev_ic f_X12_ahead (nx := 260) (v := 1) rfl (by decide) rfl ?_
              refine ev_putIT f_X12_ahead (nx := 263) rfl (hI.wf.s rfl) rfl rfl rfl (hI.putB (hI.wf.s rfl) rfl rfl (by decide : (1:Int) ≤ (1:Int32).toInt) (by decide) (by decide : (1:Int32).toInt ≤ (1:Int)) (by decide)) (hX.upI rfl) (fun g37 e37 hI hX => ?_)
              exact ev_ret f_X12_ahead rfl rfl rfl ⟨_, _, _, rfl, hI, hX, ⟨rfl, (show (gi 69 14).toInt ≤ (g37 69 14).toInt ∧ ((g37 69 12).toInt ≠ 0 → (gi 69 14).toInt < (g37 69 14).toInt) from (by have ff38 : (g37 69 14).toInt = z21.toInt := congrArg Int32.toInt ((by rw [e37]; exact x_up2_off (Or.inr (by decide)) : g37 69 14 = g22 69 14).trans (by rw [e22]; exact x_up2_at _ _ _ _ : g22 69 14 = z21)); have ff39 : (g37 69 12).toInt = 1 := (congrArg Int32.toInt (by rw [e37]; exact x_up2_at _ _ _ _ : g37 69 12 = 1)).trans (by decide); omega))⟩⟩
        · have l40 : 48 ≤ z15.toInt := t_lel (t_nlt h19) (by decide : (48:Int) ≤ (48:Int32).toInt)
          refine ev_loc f_X12_isDigit (nx := 7) rfl rfl rfl rfl ?_
          refine ev_bp f_X12_isDigit (nx := 9) (v := 57) rfl (by decide) rfl ?_
          refine ev_if f_X12_isDigit (t1 := 16) (t2 := 12) rfl rfl rfl (fun h41 => ?_) (fun h41 => ?_)
          · have l42 : 58 ≤ z15.toInt := t_ltl h41 (by decide : (57:Int) ≤ (57:Int32).toInt) rfl
            refine ev_ic f_X12_isDigit (nx := 17) (v := 0) rfl (by decide) rfl ?_
            refine ev_retK1 f_X12_isDigit rfl rfl rfl ?_
            refine ev_t f_X12_ahead (t1 := 208) (t2 := 123) rfl rfl rfl (by decide) ?_
            refine ev_loc f_X12_ahead (nx := 209) rfl rfl rfl rfl ?_
            refine ev_alu f_X12_ahead (nx := 210) rfl rfl rfl rfl ?_
            refine ev_gvI f_X12_ahead (nx := 213) (w := (gi1 69 14)) rfl (hI.wf.s rfl) rfl rfl ((by rw [e16]; exact x_up2_off (Or.inr (by decide)) : g16 69 14 = g3 69 14).trans ((by rw [e3]; exact x_up2_off (Or.inr (by decide)) : g3 69 14 = gi1 69 14).trans rfl)) rfl ?_
            refine ev_ic f_X12_ahead (nx := 214) (v := 1) rfl (by decide) rfl ?_
            refine ev_addC f_X12_ahead (nx := 215) (c := 1) (l := 1) (u := 900) rfl (by decide) l2 u12 rfl rfl (by decide) (by decide) rfl (fun z43 e43 l43 u43 => ?_)
            refine ev_putIT f_X12_ahead (nx := 218) rfl (hI.wf.s rfl) rfl rfl rfl (hI.putB (hI.wf.s rfl) rfl rfl l43 (by decide) u43 (by decide)) (hX.upI rfl) (fun g44 e44 hI hX => ?_)
            refine ev_loc f_X12_ahead (nx := 219) rfl rfl rfl rfl ?_
            refine ev_loc f_X12_ahead (nx := 220) rfl rfl rfl rfl ?_
            refine ev_bp f_X12_ahead (nx := 222) (v := 59) rfl (by decide) rfl ?_
            refine ev_if f_X12_ahead (t1 := 255) (t2 := 225) rfl rfl rfl (fun h45 => ?_) (fun h45 => ?_)
            · have u46 : z15.toInt ≤ 59 := t_equ h45 (by decide : (59:Int32).toInt ≤ (59:Int))
              have l47 : 59 ≤ z15.toInt := t_eql h45 (by decide : (59:Int) ≤ (59:Int32).toInt)
              refine ev_ic f_X12_ahead (nx := 256) (v := 4) rfl (by decide) rfl ?_
              refine ev_jmp f_X12_ahead (nx := 260) rfl rfl rfl ?_
              refine ev_putIT f_X12_ahead (nx := 263) rfl (hI.wf.s rfl) rfl rfl rfl (hI.putB (hI.wf.s rfl) rfl rfl (by decide : (4:Int) ≤ (4:Int32).toInt) (by decide) (by decide : (4:Int32).toInt ≤ (4:Int)) (by decide)) (hX.upI rfl) (fun g48 e48 hI hX => ?_)
              exact ev_ret f_X12_ahead rfl rfl rfl ⟨_, _, _, rfl, hI, hX, ⟨rfl, (show (gi 69 14).toInt ≤ (g48 69 14).toInt ∧ ((g48 69 12).toInt ≠ 0 → (gi 69 14).toInt < (g48 69 14).toInt) from (by have ff49 : (g48 69 14).toInt = z43.toInt := congrArg Int32.toInt ((by rw [e48]; exact x_up2_off (Or.inr (by decide)) : g48 69 14 = g44 69 14).trans (by rw [e44]; exact x_up2_at _ _ _ _ : g44 69 14 = z43)); have ff50 : (g48 69 12).toInt = 4 := (congrArg Int32.toInt (by rw [e48]; exact x_up2_at _ _ _ _ : g48 69 12 = 4)).trans (by decide); omega))⟩⟩
            · have r51 : z15.toInt ≠ 59 := fun e => h45 (Int32.toInt_inj.mp (e.trans (by decide : (59:Int) = (59 : Int32).toInt)))
              refine ev_loc f_X12_ahead (nx := 226) rfl rfl rfl rfl ?_
              refine ev_bp f_X12_ahead (nx := 228) (v := 60) rfl (by decide) rfl ?_
              refine ev_if f_X12_ahead (t1 := 255) (t2 := 231) rfl rfl rfl (fun h52 => ?_) (fun h52 => ?_)
              · have u53 : z15.toInt ≤ 60 := t_equ h52 (by decide : (60:Int32).toInt ≤ (60:Int))
                have l54 : 60 ≤ z15.toInt := t_eql h52 (by decide : (60:Int) ≤ (60:Int32).toInt)
                refine ev_ic f_X12_ahead (nx := 256) (v := 4) rfl (by decide) rfl ?_
                refine ev_jmp f_X12_ahead (nx := 260) rfl rfl rfl ?_
                refine ev_putIT f_X12_ahead (nx := 263) rfl (hI.wf.s rfl) rfl rfl rfl (hI.putB (hI.wf.s rfl) rfl rfl (by decide : (4:Int) ≤ (4:Int32).toInt) (by decide) (by decide : (4:Int32).toInt ≤ (4:Int)) (by decide)) (hX.upI rfl) (fun g55 e55 hI hX => ?_)
                exact ev_ret f_X12_ahead rfl rfl rfl ⟨_, _, _, rfl, hI, hX, ⟨rfl, (show (gi 69 14).toInt ≤ (g55 69 14).toInt ∧ ((g55 69 12).toInt ≠ 0 → (gi 69 14).toInt < (g55 69 14).toInt) from (by have ff56 : (g55 69 14).toInt = z43.toInt := congrArg Int32.toInt ((by rw [e55]; exact x_up2_off (Or.inr (by decide)) : g55 69 14 = g44 69 14).trans (by rw [e44]; exact x_up2_at _ _ _ _ : g44 69 14 = z43)); have ff57 : (g55 69 12).toInt = 4 := (congrArg Int32.toInt (by rw [e55]; exact x_up2_at _ _ _ _ : g55 69 12 = 4)).trans (by decide); omega))⟩⟩
              · have r58 : z15.toInt ≠ 60 := fun e => h52 (Int32.toInt_inj.mp (e.trans (by decide : (60:Int) = (60 : Int32).toInt)))
                refine ev_loc f_X12_ahead (nx := 232) rfl rfl rfl rfl ?_
                refine ev_bp f_X12_ahead (nx := 234) (v := 62) rfl (by decide) rfl ?_
                refine ev_if f_X12_ahead (t1 := 255) (t2 := 237) rfl rfl rfl (fun h59 => ?_) (fun h59 => ?_)
                · have u60 : z15.toInt ≤ 62 := t_equ h59 (by decide : (62:Int32).toInt ≤ (62:Int))
                  have l61 : 62 ≤ z15.toInt := t_eql h59 (by decide : (62:Int) ≤ (62:Int32).toInt)
                  refine ev_ic f_X12_ahead (nx := 256) (v := 4) rfl (by decide) rfl ?_
                  refine ev_jmp f_X12_ahead (nx := 260) rfl rfl rfl ?_
                  refine ev_putIT f_X12_ahead (nx := 263) rfl (hI.wf.s rfl) rfl rfl rfl (hI.putB (hI.wf.s rfl) rfl rfl (by decide : (4:Int) ≤ (4:Int32).toInt) (by decide) (by decide : (4:Int32).toInt ≤ (4:Int)) (by decide)) (hX.upI rfl) (fun g62 e62 hI hX => ?_)
                  exact ev_ret f_X12_ahead rfl rfl rfl ⟨_, _, _, rfl, hI, hX, ⟨rfl, (show (gi 69 14).toInt ≤ (g62 69 14).toInt ∧ ((g62 69 12).toInt ≠ 0 → (gi 69 14).toInt < (g62 69 14).toInt) from (by have ff63 : (g62 69 14).toInt = z43.toInt := congrArg Int32.toInt ((by rw [e62]; exact x_up2_off (Or.inr (by decide)) : g62 69 14 = g44 69 14).trans (by rw [e44]; exact x_up2_at _ _ _ _ : g44 69 14 = z43)); have ff64 : (g62 69 12).toInt = 4 := (congrArg Int32.toInt (by rw [e62]; exact x_up2_at _ _ _ _ : g62 69 12 = 4)).trans (by decide); omega))⟩⟩
                · have r65 : z15.toInt ≠ 62 := fun e => h59 (Int32.toInt_inj.mp (e.trans (by decide : (62:Int) = (62 : Int32).toInt)))
                  refine ev_loc f_X12_ahead (nx := 238) rfl rfl rfl rfl ?_
                  refine ev_bp f_X12_ahead (nx := 240) (v := 61) rfl (by decide) rfl ?_
                  refine ev_if f_X12_ahead (t1 := 255) (t2 := 243) rfl rfl rfl (fun h66 => ?_) (fun h66 => ?_)
                  · have u67 : z15.toInt ≤ 61 := t_equ h66 (by decide : (61:Int32).toInt ≤ (61:Int))
                    have l68 : 61 ≤ z15.toInt := t_eql h66 (by decide : (61:Int) ≤ (61:Int32).toInt)
                    refine ev_ic f_X12_ahead (nx := 256) (v := 4) rfl (by decide) rfl ?_
                    refine ev_jmp f_X12_ahead (nx := 260) rfl rfl rfl ?_
                    refine ev_putIT f_X12_ahead (nx := 263) rfl (hI.wf.s rfl) rfl rfl rfl (hI.putB (hI.wf.s rfl) rfl rfl (by decide : (4:Int) ≤ (4:Int32).toInt) (by decide) (by decide : (4:Int32).toInt ≤ (4:Int)) (by decide)) (hX.upI rfl) (fun g69 e69 hI hX => ?_)
                    exact ev_ret f_X12_ahead rfl rfl rfl ⟨_, _, _, rfl, hI, hX, ⟨rfl, (show (gi 69 14).toInt ≤ (g69 69 14).toInt ∧ ((g69 69 12).toInt ≠ 0 → (gi 69 14).toInt < (g69 69 14).toInt) from (by have ff70 : (g69 69 14).toInt = z43.toInt := congrArg Int32.toInt ((by rw [e69]; exact x_up2_off (Or.inr (by decide)) : g69 69 14 = g44 69 14).trans (by rw [e44]; exact x_up2_at _ _ _ _ : g44 69 14 = z43)); have ff71 : (g69 69 12).toInt = 4 := (congrArg Int32.toInt (by rw [e69]; exact x_up2_at _ _ _ _ : g69 69 12 = 4)).trans (by decide); omega))⟩⟩
                  · have r72 : z15.toInt ≠ 61 := fun e => h66 (Int32.toInt_inj.mp (e.trans (by decide : (61:Int) = (61 : Int32).toInt)))
                    refine ev_loc f_X12_ahead (nx := 244) rfl rfl rfl rfl ?_
                    refine ev_bp f_X12_ahead (nx := 246) (v := 40) rfl (by decide) rfl ?_
                    refine ev_f f_X12_ahead (t1 := 255) (t2 := 249) rfl rfl rfl (t_neT' (by decide : (40:Int32).toInt ≤ (40:Int)) l42 (by decide)) ?_
                    refine ev_loc f_X12_ahead (nx := 250) rfl rfl rfl rfl ?_
                    refine ev_bp f_X12_ahead (nx := 252) (v := 41) rfl (by decide) rfl ?_
                    refine ev_f f_X12_ahead (t1 := 255) (t2 := 259) rfl rfl rfl (t_neT' (by decide : (41:Int32).toInt ≤ (41:Int)) l42 (by decide)) ?_
                    refine ev_ic f_X12_ahead (nx := 260) (v := 1) rfl (by decide) rfl ?_
                    refine ev_putIT f_X12_ahead (nx := 263) rfl (hI.wf.s rfl) rfl rfl rfl (hI.putB (hI.wf.s rfl) rfl rfl (by decide : (1:Int) ≤ (1:Int32).toInt) (by decide) (by decide : (1:Int32).toInt ≤ (1:Int)) (by decide)) (hX.upI rfl) (fun g73 e73 hI hX => ?_)
                    exact ev_ret f_X12_ahead rfl rfl rfl ⟨_, _, _, rfl, hI, hX, ⟨rfl, (show (gi 69 14).toInt ≤ (g73 69 14).toInt ∧ ((g73 69 12).toInt ≠ 0 → (gi 69 14).toInt < (g73 69 14).toInt) from (by have ff74 : (g73 69 14).toInt = z43.toInt := congrArg Int32.toInt ((by rw [e73]; exact x_up2_off (Or.inr (by decide)) : g73 69 14 = g44 69 14).trans (by rw [e44]; exact x_up2_at _ _ _ _ : g44 69 14 = z43)); have ff75 : (g73 69 12).toInt = 1 := (congrArg Int32.toInt (by rw [e73]; exact x_up2_at _ _ _ _ : g73 69 12 = 1)).trans (by decide); omega))⟩⟩
          · have u76 : z15.toInt ≤ 57 := t_leu (t_nlt h41) (by decide : (57:Int32).toInt ≤ (57:Int))
            refine ev_ic f_X12_isDigit (nx := 13) (v := 1) rfl (by decide) rfl ?_
            refine ev_jmp f_X12_isDigit (nx := 17) rfl rfl rfl ?_
            refine ev_retK1 f_X12_isDigit rfl rfl rfl ?_
            refine ev_f f_X12_ahead (t1 := 208) (t2 := 123) rfl rfl rfl (by decide) ?_
            refine ev_loc f_X12_ahead (nx := 124) rfl rfl rfl rfl ?_
            refine ev_ic f_X12_ahead (nx := 125) (v := 0) rfl (by decide) rfl ?_
            refine ev_putIT f_X12_ahead (nx := 128) rfl (hI.wf.s rfl) rfl rfl rfl (hI.put0 (hI.wf.s rfl) rfl rfl) (hX.upI rfl) (fun g77 e77 hI hX => ?_)
            refine ev_loc f_X12_ahead (nx := 129) rfl rfl rfl rfl ?_
            refine ev_loc f_X12_ahead (nx := 130) rfl rfl rfl rfl ?_
            refine ev_gvI f_X12_ahead (nx := 133) (w := (gi1 69 14)) rfl (hI.wf.s rfl) rfl rfl ((by rw [e77]; exact x_up2_off (Or.inr (by decide)) : g77 69 14 = g16 69 14).trans ((by rw [e16]; exact x_up2_off (Or.inr (by decide)) : g16 69 14 = g3 69 14).trans ((by rw [e3]; exact x_up2_off (Or.inr (by decide)) : g3 69 14 = gi1 69 14).trans rfl))) rfl ?_
            refine ev_inV2 f_X12_ahead (nx := 136) (lo2 := [(0, .ref 69), (1, .int (gi1 69 14))]) rfl rfl rfl rfl f_X12_byteAt (hI.wf.s rfl) rfl rfl rfl rfl rfl ?_
            refine ev_loc f_X12_byteAt (nx := 1) rfl rfl rfl rfl ?_
            refine ev_loc f_X12_byteAt (nx := 2) rfl rfl rfl rfl ?_
            refine ev_gvI f_X12_byteAt (nx := 5) (w := (g3 69 11)) rfl (hI.wf.s rfl) rfl rfl ((by rw [e77]; exact x_up2_off (Or.inr (by decide)) : g77 69 11 = g16 69 11).trans ((by rw [e16]; exact x_up2_off (Or.inr (by decide)) : g16 69 11 = g3 69 11).trans rfl)) rfl ?_
            refine ev_if f_X12_byteAt (t1 := 21) (t2 := 8) rfl rfl rfl (fun h78 => ?_) (fun h78 => ?_)
            · have r79 : (g3 69 11).toInt ≤ (gi1 69 14).toInt := Int32.le_iff_toInt_le.mp h78
              have u80 : (g3 69 11).toInt ≤ 899 := t_leu h78 u12
              have l81 : 1 ≤ (gi1 69 14).toInt := t_lel h78 l13
              refine ev_ic f_X12_byteAt (nx := 22) (v := -1) rfl (by decide) rfl ?_
              refine ev_retK1 f_X12_byteAt rfl rfl rfl ?_
              refine ev_inS1 f_X12_ahead (nx := 139) (lo2 := [(0, .int (-1))]) rfl rfl rfl rfl f_X12_isDigit rfl rfl rfl rfl ?_
              refine ev_loc f_X12_isDigit (nx := 1) rfl rfl rfl rfl ?_
              refine ev_bp f_X12_isDigit (nx := 3) (v := 48) rfl (by decide) rfl ?_
              refine ev_t f_X12_isDigit (t1 := 16) (t2 := 6) rfl rfl rfl (by decide) ?_
              refine ev_ic f_X12_isDigit (nx := 17) (v := 0) rfl (by decide) rfl ?_
              refine ev_retK1 f_X12_isDigit rfl rfl rfl ?_
              refine ev_t f_X12_ahead (t1 := 183) (t2 := 142) rfl rfl rfl (by decide) ?_
              refine ev_loc f_X12_ahead (nx := 184) rfl rfl rfl rfl ?_
              refine ev_loc f_X12_ahead (nx := 185) rfl rfl rfl rfl ?_
              refine ev_gvI f_X12_ahead (nx := 188) (w := (gi1 69 14)) rfl (hI.wf.s rfl) rfl rfl ((by rw [e77]; exact x_up2_off (Or.inr (by decide)) : g77 69 14 = g16 69 14).trans ((by rw [e16]; exact x_up2_off (Or.inr (by decide)) : g16 69 14 = g3 69 14).trans ((by rw [e3]; exact x_up2_off (Or.inr (by decide)) : g3 69 14 = gi1 69 14).trans rfl))) rfl ?_
              refine ev_loc f_X12_ahead (nx := 189) rfl rfl rfl rfl ?_
              refine ev_gvI f_X12_ahead (nx := 192) (w := (gi1 69 14)) rfl (hI.wf.s rfl) rfl rfl ((by rw [e77]; exact x_up2_off (Or.inr (by decide)) : g77 69 13 = g16 69 13).trans ((by rw [e16]; exact x_up2_off (Or.inr (by decide)) : g16 69 13 = g3 69 13).trans (by rw [e3]; exact x_up2_at _ _ _ _ : g3 69 13 = (gi1 69 14)))) rfl ?_
              refine ev_subR f_X12_ahead (nx := 193) (l := (-898)) (u := 898) rfl l81 u12 l81 u12 rfl rfl (by decide) (by decide) rfl (fun z82 e82 l82 u82 => ?_)
              refine ev_ic f_X12_ahead (nx := 194) (v := 4) rfl (by decide) rfl ?_
              refine ev_if f_X12_ahead (t1 := 201) (t2 := 197) rfl rfl rfl (fun h83 => ?_) (fun h83 => ?_)
              · have u84 : z82.toInt ≤ 4 := t_leu h83 (by decide : (4:Int32).toInt ≤ (4:Int))
                refine ev_ic f_X12_ahead (nx := 202) (v := 3) rfl (by decide) rfl ?_
                refine ev_putIT f_X12_ahead (nx := 205) rfl (hI.wf.s rfl) rfl rfl rfl (hI.putB (hI.wf.s rfl) rfl rfl (by decide : (3:Int) ≤ (3:Int32).toInt) (by decide) (by decide : (3:Int32).toInt ≤ (3:Int)) (by decide)) (hX.upI rfl) (fun g85 e85 hI hX => ?_)
                refine ev_jmp f_X12_ahead (nx := 263) rfl rfl rfl ?_
                exact ev_ret f_X12_ahead rfl rfl rfl ⟨_, _, _, rfl, hI, hX, ⟨rfl, (show (gi 69 14).toInt ≤ (g85 69 14).toInt ∧ ((g85 69 12).toInt ≠ 0 → (gi 69 14).toInt < (g85 69 14).toInt) from (by have ff86 : (g85 69 14).toInt = (gi1 69 14).toInt := congrArg Int32.toInt ((by rw [e85]; exact x_up2_off (Or.inr (by decide)) : g85 69 14 = g77 69 14).trans ((by rw [e77]; exact x_up2_off (Or.inr (by decide)) : g77 69 14 = g16 69 14).trans ((by rw [e16]; exact x_up2_off (Or.inr (by decide)) : g16 69 14 = g3 69 14).trans ((by rw [e3]; exact x_up2_off (Or.inr (by decide)) : g3 69 14 = gi1 69 14).trans rfl)))); have ff87 : (g85 69 12).toInt = 3 := (congrArg Int32.toInt (by rw [e85]; exact x_up2_at _ _ _ _ : g85 69 12 = 3)).trans (by decide); omega))⟩⟩
              · have l88 : 5 ≤ z82.toInt := t_ltl (t_nle h83) (by decide : (4:Int) ≤ (4:Int32).toInt) rfl
                have u89 : (gi1 69 14).toInt ≤ 894 := by have := u12; omega
                refine ev_ic f_X12_ahead (nx := 198) (v := 1) rfl (by decide) rfl ?_
                refine ev_jmp f_X12_ahead (nx := 202) rfl rfl rfl ?_
                refine ev_putIT f_X12_ahead (nx := 205) rfl (hI.wf.s rfl) rfl rfl rfl (hI.putB (hI.wf.s rfl) rfl rfl (by decide : (1:Int) ≤ (1:Int32).toInt) (by decide) (by decide : (1:Int32).toInt ≤ (1:Int)) (by decide)) (hX.upI rfl) (fun g90 e90 hI hX => ?_)
                refine ev_jmp f_X12_ahead (nx := 263) rfl rfl rfl ?_
                exact ev_ret f_X12_ahead rfl rfl rfl ⟨_, _, _, rfl, hI, hX, ⟨rfl, (show (gi 69 14).toInt ≤ (g90 69 14).toInt ∧ ((g90 69 12).toInt ≠ 0 → (gi 69 14).toInt < (g90 69 14).toInt) from (by have ff91 : (g90 69 14).toInt = (gi1 69 14).toInt := congrArg Int32.toInt ((by rw [e90]; exact x_up2_off (Or.inr (by decide)) : g90 69 14 = g77 69 14).trans ((by rw [e77]; exact x_up2_off (Or.inr (by decide)) : g77 69 14 = g16 69 14).trans ((by rw [e16]; exact x_up2_off (Or.inr (by decide)) : g16 69 14 = g3 69 14).trans ((by rw [e3]; exact x_up2_off (Or.inr (by decide)) : g3 69 14 = gi1 69 14).trans rfl)))); have ff92 : (g90 69 12).toInt = 1 := (congrArg Int32.toInt (by rw [e90]; exact x_up2_at _ _ _ _ : g90 69 12 = 1)).trans (by decide); omega))⟩⟩
            · have r93 : (gi1 69 14).toInt < (g3 69 11).toInt := Int32.lt_iff_toInt_lt.mp (t_nle h78)
              refine ev_loc f_X12_byteAt (nx := 9) rfl rfl rfl rfl ?_
              refine ev_getR f_X12_byteAt (nx := 12) rfl (hI.wf.s rfl) rfl rfl (hI.wf.r rfl) rfl rfl ?_
              refine ev_loc f_X12_byteAt (nx := 13) rfl rfl rfl rfl ?_
              refine ev_baldT f_X12_byteAt (nx := 14) rfl (hI.wf.s rfl) rfl l2 (by decide) u12 (by decide) rfl (fun w94 e94 => ?_)
              rw [e94.trans ((by rw [e77]; exact x_up2_off (Or.inl (by decide)) : g77 76 (gi1 69 14).toNatClampNeg = g16 76 (gi1 69 14).toNatClampNeg).trans ((by rw [e16]; exact x_up2_off (Or.inl (by decide)) : g16 76 (gi1 69 14).toNatClampNeg = g3 76 (gi1 69 14).toNatClampNeg).trans e14.symm))]
              refine ev_sp f_X12_byteAt (nx := 17) (v := 255) rfl (by decide) rfl ?_
              refine ev_andE f_X12_byteAt (nx := 18) (c := 255) rfl (by decide) (by decide) rfl (fun z95 e95 l95 u95 => ?_)
              rw [e95.trans e15.symm]
              refine ev_jmp f_X12_byteAt (nx := 22) rfl rfl rfl ?_
              refine ev_retK1 f_X12_byteAt rfl rfl rfl ?_
              refine ev_inS1 f_X12_ahead (nx := 139) (lo2 := [(0, .int z15)]) rfl rfl rfl rfl f_X12_isDigit rfl rfl rfl rfl ?_
              refine ev_loc f_X12_isDigit (nx := 1) rfl rfl rfl rfl ?_
              refine ev_bp f_X12_isDigit (nx := 3) (v := 48) rfl (by decide) rfl ?_
              refine ev_f f_X12_isDigit (t1 := 16) (t2 := 6) rfl rfl rfl (t_ltF (by decide : (48:Int32).toInt ≤ (48:Int)) l40 (by decide)) ?_
              refine ev_loc f_X12_isDigit (nx := 7) rfl rfl rfl rfl ?_
              refine ev_bp f_X12_isDigit (nx := 9) (v := 57) rfl (by decide) rfl ?_
              refine ev_f f_X12_isDigit (t1 := 16) (t2 := 12) rfl rfl rfl (t_ltF u76 (by decide : (57:Int) ≤ (57:Int32).toInt) (by decide)) ?_
              refine ev_ic f_X12_isDigit (nx := 13) (v := 1) rfl (by decide) rfl ?_
              refine ev_jmp f_X12_isDigit (nx := 17) rfl rfl rfl ?_
              refine ev_retK1 f_X12_isDigit rfl rfl rfl ?_
              refine ev_f f_X12_ahead (t1 := 183) (t2 := 142) rfl rfl rfl (by decide) ?_
              refine ev_loc f_X12_ahead (nx := 143) rfl rfl rfl rfl ?_
              refine ev_ldI f_X12_ahead (nx := 145) (v := 100000) rfl (by decide) rfl ?_
              refine ev_bp f_X12_ahead (nx := 147) (v := 10) rfl (by decide) rfl ?_
              refine ev_loc f_X12_ahead (nx := 148) rfl rfl rfl rfl ?_
              refine ev_gvI f_X12_ahead (nx := 151) (w := 0) rfl (hI.wf.s rfl) rfl rfl (by rw [e77]; exact x_up2_at _ _ _ _ : g77 69 15 = 0) rfl ?_
              refine ev_aluvI f_X12_ahead (nx := 152) (w := 0) rfl rfl rfl (by decide) rfl ?_
              refine ev_loc f_X12_ahead (nx := 153) rfl rfl rfl rfl ?_
              refine ev_loc f_X12_ahead (nx := 154) rfl rfl rfl rfl ?_
              refine ev_gvI f_X12_ahead (nx := 157) (w := (gi1 69 14)) rfl (hI.wf.s rfl) rfl rfl ((by rw [e77]; exact x_up2_off (Or.inr (by decide)) : g77 69 14 = g16 69 14).trans ((by rw [e16]; exact x_up2_off (Or.inr (by decide)) : g16 69 14 = g3 69 14).trans ((by rw [e3]; exact x_up2_off (Or.inr (by decide)) : g3 69 14 = gi1 69 14).trans rfl))) rfl ?_
              refine ev_inV2 f_X12_ahead (nx := 160) (lo2 := [(0, .ref 69), (1, .int (gi1 69 14))]) rfl rfl rfl rfl f_X12_byteAt (hI.wf.s rfl) rfl rfl rfl rfl rfl ?_
              refine ev_loc f_X12_byteAt (nx := 1) rfl rfl rfl rfl ?_
              refine ev_loc f_X12_byteAt (nx := 2) rfl rfl rfl rfl ?_
              refine ev_gvI f_X12_byteAt (nx := 5) (w := (g3 69 11)) rfl (hI.wf.s rfl) rfl rfl ((by rw [e77]; exact x_up2_off (Or.inr (by decide)) : g77 69 11 = g16 69 11).trans ((by rw [e16]; exact x_up2_off (Or.inr (by decide)) : g16 69 11 = g3 69 11).trans rfl)) rfl ?_
              refine ev_if f_X12_byteAt (t1 := 21) (t2 := 8) rfl rfl rfl (fun h96 => ?_) (fun h96 => ?_)
              · have r97 : (g3 69 11).toInt ≤ (gi1 69 14).toInt := Int32.le_iff_toInt_le.mp h96
                have u98 : (g3 69 11).toInt ≤ 899 := t_leu h96 u12
                have l99 : 1 ≤ (gi1 69 14).toInt := t_lel h96 l13
                refine ev_ic f_X12_byteAt (nx := 22) (v := -1) rfl (by decide) rfl ?_
                refine ev_retK1 f_X12_byteAt rfl rfl rfl ?_
                refine ev_aluvI f_X12_ahead (nx := 161) (w := -1) rfl rfl rfl (by decide) rfl ?_
                refine ev_bp f_X12_ahead (nx := 163) (v := 48) rfl (by decide) rfl ?_
                refine ev_aluvI f_X12_ahead (nx := 164) (w := -49) rfl rfl rfl (by decide) rfl ?_
                refine ev_mmR f_X12_ahead (nx := 167) (l := (-49)) (u := (-49)) rfl rfl rfl (by omega) rfl (by decide : (100000:Int) ≤ (100000:Int32).toInt) (by decide : (100000:Int32).toInt ≤ (100000:Int)) (by decide : ((-49):Int) ≤ ((-49):Int32).toInt) (by decide : ((-49):Int32).toInt ≤ ((-49):Int)) (by decide) (by decide) rfl (fun z100 l100 u100 => ?_)
                refine ev_putIT f_X12_ahead (nx := 170) rfl (hI.wf.s rfl) rfl rfl rfl (hI.put0 (hI.wf.s rfl) rfl rfl) (hX.upI rfl) (fun g101 e101 hI hX => ?_)
                refine ev_loc f_X12_ahead (nx := 171) rfl rfl rfl rfl ?_
                refine ev_alu f_X12_ahead (nx := 172) rfl rfl rfl rfl ?_
                refine ev_gvI f_X12_ahead (nx := 175) (w := (gi1 69 14)) rfl (hI.wf.s rfl) rfl rfl ((by rw [e101]; exact x_up2_off (Or.inr (by decide)) : g101 69 14 = g77 69 14).trans ((by rw [e77]; exact x_up2_off (Or.inr (by decide)) : g77 69 14 = g16 69 14).trans ((by rw [e16]; exact x_up2_off (Or.inr (by decide)) : g16 69 14 = g3 69 14).trans ((by rw [e3]; exact x_up2_off (Or.inr (by decide)) : g3 69 14 = gi1 69 14).trans rfl)))) rfl ?_
                refine ev_ic f_X12_ahead (nx := 176) (v := 1) rfl (by decide) rfl ?_
                refine ev_addC f_X12_ahead (nx := 177) (c := 1) (l := 2) (u := 900) rfl (by decide) l99 u12 rfl rfl (by decide) (by decide) rfl (fun z102 e102 l102 u102 => ?_)
                refine ev_putIT f_X12_ahead (nx := 180) rfl (hI.wf.s rfl) rfl rfl rfl (hI.putB (hI.wf.s rfl) rfl rfl l102 (by decide) u102 (by decide)) (hX.upI rfl) (fun g103 e103 hI hX => ?_)
                refine ev_jmp f_X12_ahead (nx := 128) rfl rfl rfl ?_
                have L104 : ∀ (m104 : Nat) (gi104 : Nat → Nat → Int32) (gl104 : Nat → Nat → Int64) (gr104 : Nat → Nat → Value), t_I sh gi104 gr104 → t_X wl_m_ahead sh gi gl gr gi104 gl104 gr104 → gi104 69 11 = (g3 69 11) → gi104 69 13 = (gi1 69 14) → (gi 69 14).toInt < (gi104 69 14).toInt → (900 - (gi104 69 14).toInt).toNat = m104 → x_Ev X (d + 2) n_X12_ahead 128 [(1, .int z15), (0, .ref 69)] [] (sh, gi104, gl104, gr104) (t_PN wl_m_ahead sh gi gl gr (Q_m_ahead gi gl gr)) := by
                  intro m104
                  induction m104 using Nat.strongRecOn with
                  | _ m104 ih104 =>
                  intro gi104 gl104 gr104 hI hX c104_0 c104_1 j104_0 hm104
                  refine ev_loc f_X12_ahead (nx := 129) rfl rfl rfl rfl ?_
                  refine ev_loc f_X12_ahead (nx := 130) rfl rfl rfl rfl ?_
                  refine ev_getI f_X12_ahead (nx := 133) rfl (hI.wf.s rfl) rfl rfl rfl ?_
                  obtain ⟨l105, u105⟩ := hI.b (hI.wf.s (k := 69) rfl) (rfl : t_bd 11 14 = some (0, 900))
                  refine ev_inV2 f_X12_ahead (nx := 136) (lo2 := [(0, .ref 69), (1, .int (gi104 69 14))]) rfl rfl rfl rfl f_X12_byteAt (hI.wf.s rfl) rfl rfl rfl rfl rfl ?_
                  refine ev_loc f_X12_byteAt (nx := 1) rfl rfl rfl rfl ?_
                  refine ev_loc f_X12_byteAt (nx := 2) rfl rfl rfl rfl ?_
                  refine ev_gvI f_X12_byteAt (nx := 5) (w := (g3 69 11)) rfl (hI.wf.s rfl) rfl rfl c104_0 rfl ?_
                  refine ev_if f_X12_byteAt (t1 := 21) (t2 := 8) rfl rfl rfl (fun h106 => ?_) (fun h106 => ?_)
                  · have r107 : (g3 69 11).toInt ≤ (gi104 69 14).toInt := Int32.le_iff_toInt_le.mp h106
                    have l108 : 1 ≤ (gi104 69 14).toInt := t_lel h106 l13
                    refine ev_ic f_X12_byteAt (nx := 22) (v := -1) rfl (by decide) rfl ?_
                    refine ev_retK1 f_X12_byteAt rfl rfl rfl ?_
                    refine ev_inS1 f_X12_ahead (nx := 139) (lo2 := [(0, .int (-1))]) rfl rfl rfl rfl f_X12_isDigit rfl rfl rfl rfl ?_
                    refine ev_loc f_X12_isDigit (nx := 1) rfl rfl rfl rfl ?_
                    refine ev_bp f_X12_isDigit (nx := 3) (v := 48) rfl (by decide) rfl ?_
                    refine ev_t f_X12_isDigit (t1 := 16) (t2 := 6) rfl rfl rfl (by decide) ?_
                    refine ev_ic f_X12_isDigit (nx := 17) (v := 0) rfl (by decide) rfl ?_
                    refine ev_retK1 f_X12_isDigit rfl rfl rfl ?_
                    refine ev_t f_X12_ahead (t1 := 183) (t2 := 142) rfl rfl rfl (by decide) ?_
                    refine ev_loc f_X12_ahead (nx := 184) rfl rfl rfl rfl ?_
                    refine ev_loc f_X12_ahead (nx := 185) rfl rfl rfl rfl ?_
                    refine ev_gvI f_X12_ahead (nx := 188) (w := (gi104 69 14)) rfl (hI.wf.s rfl) rfl rfl rfl rfl ?_
                    refine ev_loc f_X12_ahead (nx := 189) rfl rfl rfl rfl ?_
                    refine ev_gvI f_X12_ahead (nx := 192) (w := (gi1 69 14)) rfl (hI.wf.s rfl) rfl rfl c104_1 rfl ?_
                    refine ev_subR f_X12_ahead (nx := 193) (l := (-898)) (u := 899) rfl l108 u105 l99 u12 rfl rfl (by decide) (by decide) rfl (fun z109 e109 l109 u109 => ?_)
                    refine ev_ic f_X12_ahead (nx := 194) (v := 4) rfl (by decide) rfl ?_
                    refine ev_if f_X12_ahead (t1 := 201) (t2 := 197) rfl rfl rfl (fun h110 => ?_) (fun h110 => ?_)
                    · have u111 : z109.toInt ≤ 4 := t_leu h110 (by decide : (4:Int32).toInt ≤ (4:Int))
                      refine ev_ic f_X12_ahead (nx := 202) (v := 3) rfl (by decide) rfl ?_
                      refine ev_putIT f_X12_ahead (nx := 205) rfl (hI.wf.s rfl) rfl rfl rfl (hI.putB (hI.wf.s rfl) rfl rfl (by decide : (3:Int) ≤ (3:Int32).toInt) (by decide) (by decide : (3:Int32).toInt ≤ (3:Int)) (by decide)) (hX.upI rfl) (fun g112 e112 hI hX => ?_)
                      refine ev_jmp f_X12_ahead (nx := 263) rfl rfl rfl ?_
                      exact ev_ret f_X12_ahead rfl rfl rfl ⟨_, _, _, rfl, hI, hX, ⟨rfl, (show (gi 69 14).toInt ≤ (g112 69 14).toInt ∧ ((g112 69 12).toInt ≠ 0 → (gi 69 14).toInt < (g112 69 14).toInt) from (by have ff113 : (g112 69 14).toInt = (gi104 69 14).toInt := congrArg Int32.toInt ((by rw [e112]; exact x_up2_off (Or.inr (by decide)) : g112 69 14 = gi104 69 14).trans rfl); have ff114 : (g112 69 12).toInt = 3 := (congrArg Int32.toInt (by rw [e112]; exact x_up2_at _ _ _ _ : g112 69 12 = 3)).trans (by decide); omega))⟩⟩
                    · have l115 : 5 ≤ z109.toInt := t_ltl (t_nle h110) (by decide : (4:Int) ≤ (4:Int32).toInt) rfl
                      have u116 : (gi1 69 14).toInt ≤ 895 := by have := u105; omega
                      refine ev_ic f_X12_ahead (nx := 198) (v := 1) rfl (by decide) rfl ?_
                      refine ev_jmp f_X12_ahead (nx := 202) rfl rfl rfl ?_
                      refine ev_putIT f_X12_ahead (nx := 205) rfl (hI.wf.s rfl) rfl rfl rfl (hI.putB (hI.wf.s rfl) rfl rfl (by decide : (1:Int) ≤ (1:Int32).toInt) (by decide) (by decide : (1:Int32).toInt ≤ (1:Int)) (by decide)) (hX.upI rfl) (fun g117 e117 hI hX => ?_)
                      refine ev_jmp f_X12_ahead (nx := 263) rfl rfl rfl ?_
                      exact ev_ret f_X12_ahead rfl rfl rfl ⟨_, _, _, rfl, hI, hX, ⟨rfl, (show (gi 69 14).toInt ≤ (g117 69 14).toInt ∧ ((g117 69 12).toInt ≠ 0 → (gi 69 14).toInt < (g117 69 14).toInt) from (by have ff118 : (g117 69 14).toInt = (gi104 69 14).toInt := congrArg Int32.toInt ((by rw [e117]; exact x_up2_off (Or.inr (by decide)) : g117 69 14 = gi104 69 14).trans rfl); have ff119 : (g117 69 12).toInt = 1 := (congrArg Int32.toInt (by rw [e117]; exact x_up2_at _ _ _ _ : g117 69 12 = 1)).trans (by decide); omega))⟩⟩
                  · have r120 : (gi104 69 14).toInt < (g3 69 11).toInt := Int32.lt_iff_toInt_lt.mp (t_nle h106)
                    have u121 : (gi104 69 14).toInt ≤ 898 := t_ltu (t_nle h106) u98 rfl
                    refine ev_loc f_X12_byteAt (nx := 9) rfl rfl rfl rfl ?_
                    refine ev_getR f_X12_byteAt (nx := 12) rfl (hI.wf.s rfl) rfl rfl (hI.wf.r rfl) rfl rfl ?_
                    refine ev_loc f_X12_byteAt (nx := 13) rfl rfl rfl rfl ?_
                    refine ev_baldT f_X12_byteAt (nx := 14) rfl (hI.wf.s rfl) rfl l105 (by decide) u121 (by decide) rfl (fun w122 e122 => ?_)
                    refine ev_sp f_X12_byteAt (nx := 17) (v := 255) rfl (by decide) rfl ?_
                    refine ev_andE f_X12_byteAt (nx := 18) (c := 255) rfl (by decide) (by decide) rfl (fun z123 e123 l123 u123 => ?_)
                    refine ev_jmp f_X12_byteAt (nx := 22) rfl rfl rfl ?_
                    refine ev_retK1 f_X12_byteAt rfl rfl rfl ?_
                    refine ev_inS1 f_X12_ahead (nx := 139) (lo2 := [(0, .int z123)]) rfl rfl rfl rfl f_X12_isDigit rfl rfl rfl rfl ?_
                    refine ev_loc f_X12_isDigit (nx := 1) rfl rfl rfl rfl ?_
                    refine ev_bp f_X12_isDigit (nx := 3) (v := 48) rfl (by decide) rfl ?_
                    refine ev_if f_X12_isDigit (t1 := 16) (t2 := 6) rfl rfl rfl (fun h124 => ?_) (fun h124 => ?_)
                    · have u125 : z123.toInt ≤ 47 := t_ltu h124 (by decide : (48:Int32).toInt ≤ (48:Int)) rfl
                      refine ev_ic f_X12_isDigit (nx := 17) (v := 0) rfl (by decide) rfl ?_
                      refine ev_retK1 f_X12_isDigit rfl rfl rfl ?_
                      refine ev_t f_X12_ahead (t1 := 183) (t2 := 142) rfl rfl rfl (by decide) ?_
                      refine ev_loc f_X12_ahead (nx := 184) rfl rfl rfl rfl ?_
                      refine ev_loc f_X12_ahead (nx := 185) rfl rfl rfl rfl ?_
                      refine ev_gvI f_X12_ahead (nx := 188) (w := (gi104 69 14)) rfl (hI.wf.s rfl) rfl rfl rfl rfl ?_
                      refine ev_loc f_X12_ahead (nx := 189) rfl rfl rfl rfl ?_
                      refine ev_gvI f_X12_ahead (nx := 192) (w := (gi1 69 14)) rfl (hI.wf.s rfl) rfl rfl c104_1 rfl ?_
                      refine ev_subR f_X12_ahead (nx := 193) (l := (-899)) (u := 897) rfl l105 u121 l99 u12 rfl rfl (by decide) (by decide) rfl (fun z126 e126 l126 u126 => ?_)
                      refine ev_ic f_X12_ahead (nx := 194) (v := 4) rfl (by decide) rfl ?_
                      refine ev_if f_X12_ahead (t1 := 201) (t2 := 197) rfl rfl rfl (fun h127 => ?_) (fun h127 => ?_)
                      · have u128 : z126.toInt ≤ 4 := t_leu h127 (by decide : (4:Int32).toInt ≤ (4:Int))
                        refine ev_ic f_X12_ahead (nx := 202) (v := 3) rfl (by decide) rfl ?_
                        refine ev_putIT f_X12_ahead (nx := 205) rfl (hI.wf.s rfl) rfl rfl rfl (hI.putB (hI.wf.s rfl) rfl rfl (by decide : (3:Int) ≤ (3:Int32).toInt) (by decide) (by decide : (3:Int32).toInt ≤ (3:Int)) (by decide)) (hX.upI rfl) (fun g129 e129 hI hX => ?_)
                        refine ev_jmp f_X12_ahead (nx := 263) rfl rfl rfl ?_
                        exact ev_ret f_X12_ahead rfl rfl rfl ⟨_, _, _, rfl, hI, hX, ⟨rfl, (show (gi 69 14).toInt ≤ (g129 69 14).toInt ∧ ((g129 69 12).toInt ≠ 0 → (gi 69 14).toInt < (g129 69 14).toInt) from (by have ff130 : (g129 69 14).toInt = (gi104 69 14).toInt := congrArg Int32.toInt ((by rw [e129]; exact x_up2_off (Or.inr (by decide)) : g129 69 14 = gi104 69 14).trans rfl); have ff131 : (g129 69 12).toInt = 3 := (congrArg Int32.toInt (by rw [e129]; exact x_up2_at _ _ _ _ : g129 69 12 = 3)).trans (by decide); omega))⟩⟩
                      · have l132 : 5 ≤ z126.toInt := t_ltl (t_nle h127) (by decide : (4:Int) ≤ (4:Int32).toInt) rfl
                        have u133 : (gi1 69 14).toInt ≤ 893 := by have := u121; omega
                        refine ev_ic f_X12_ahead (nx := 198) (v := 1) rfl (by decide) rfl ?_
                        refine ev_jmp f_X12_ahead (nx := 202) rfl rfl rfl ?_
                        refine ev_putIT f_X12_ahead (nx := 205) rfl (hI.wf.s rfl) rfl rfl rfl (hI.putB (hI.wf.s rfl) rfl rfl (by decide : (1:Int) ≤ (1:Int32).toInt) (by decide) (by decide : (1:Int32).toInt ≤ (1:Int)) (by decide)) (hX.upI rfl) (fun g134 e134 hI hX => ?_)
                        refine ev_jmp f_X12_ahead (nx := 263) rfl rfl rfl ?_
                        exact ev_ret f_X12_ahead rfl rfl rfl ⟨_, _, _, rfl, hI, hX, ⟨rfl, (show (gi 69 14).toInt ≤ (g134 69 14).toInt ∧ ((g134 69 12).toInt ≠ 0 → (gi 69 14).toInt < (g134 69 14).toInt) from (by have ff135 : (g134 69 14).toInt = (gi104 69 14).toInt := congrArg Int32.toInt ((by rw [e134]; exact x_up2_off (Or.inr (by decide)) : g134 69 14 = gi104 69 14).trans rfl); have ff136 : (g134 69 12).toInt = 1 := (congrArg Int32.toInt (by rw [e134]; exact x_up2_at _ _ _ _ : g134 69 12 = 1)).trans (by decide); omega))⟩⟩
                    · have l137 : 48 ≤ z123.toInt := t_lel (t_nlt h124) (by decide : (48:Int) ≤ (48:Int32).toInt)
                      refine ev_loc f_X12_isDigit (nx := 7) rfl rfl rfl rfl ?_
                      refine ev_bp f_X12_isDigit (nx := 9) (v := 57) rfl (by decide) rfl ?_
                      refine ev_if f_X12_isDigit (t1 := 16) (t2 := 12) rfl rfl rfl (fun h138 => ?_) (fun h138 => ?_)
                      · have l139 : 58 ≤ z123.toInt := t_ltl h138 (by decide : (57:Int) ≤ (57:Int32).toInt) rfl
                        refine ev_ic f_X12_isDigit (nx := 17) (v := 0) rfl (by decide) rfl ?_
                        refine ev_retK1 f_X12_isDigit rfl rfl rfl ?_
                        refine ev_t f_X12_ahead (t1 := 183) (t2 := 142) rfl rfl rfl (by decide) ?_
                        refine ev_loc f_X12_ahead (nx := 184) rfl rfl rfl rfl ?_
                        refine ev_loc f_X12_ahead (nx := 185) rfl rfl rfl rfl ?_
                        refine ev_gvI f_X12_ahead (nx := 188) (w := (gi104 69 14)) rfl (hI.wf.s rfl) rfl rfl rfl rfl ?_
                        refine ev_loc f_X12_ahead (nx := 189) rfl rfl rfl rfl ?_
                        refine ev_gvI f_X12_ahead (nx := 192) (w := (gi1 69 14)) rfl (hI.wf.s rfl) rfl rfl c104_1 rfl ?_
                        refine ev_subR f_X12_ahead (nx := 193) (l := (-899)) (u := 897) rfl l105 u121 l99 u12 rfl rfl (by decide) (by decide) rfl (fun z140 e140 l140 u140 => ?_)
                        refine ev_ic f_X12_ahead (nx := 194) (v := 4) rfl (by decide) rfl ?_
                        refine ev_if f_X12_ahead (t1 := 201) (t2 := 197) rfl rfl rfl (fun h141 => ?_) (fun h141 => ?_)
                        · have u142 : z140.toInt ≤ 4 := t_leu h141 (by decide : (4:Int32).toInt ≤ (4:Int))
                          refine ev_ic f_X12_ahead (nx := 202) (v := 3) rfl (by decide) rfl ?_
                          refine ev_putIT f_X12_ahead (nx := 205) rfl (hI.wf.s rfl) rfl rfl rfl (hI.putB (hI.wf.s rfl) rfl rfl (by decide : (3:Int) ≤ (3:Int32).toInt) (by decide) (by decide : (3:Int32).toInt ≤ (3:Int)) (by decide)) (hX.upI rfl) (fun g143 e143 hI hX => ?_)
                          refine ev_jmp f_X12_ahead (nx := 263) rfl rfl rfl ?_
                          exact ev_ret f_X12_ahead rfl rfl rfl ⟨_, _, _, rfl, hI, hX, ⟨rfl, (show (gi 69 14).toInt ≤ (g143 69 14).toInt ∧ ((g143 69 12).toInt ≠ 0 → (gi 69 14).toInt < (g143 69 14).toInt) from (by have ff144 : (g143 69 14).toInt = (gi104 69 14).toInt := congrArg Int32.toInt ((by rw [e143]; exact x_up2_off (Or.inr (by decide)) : g143 69 14 = gi104 69 14).trans rfl); have ff145 : (g143 69 12).toInt = 3 := (congrArg Int32.toInt (by rw [e143]; exact x_up2_at _ _ _ _ : g143 69 12 = 3)).trans (by decide); omega))⟩⟩
                        · have l146 : 5 ≤ z140.toInt := t_ltl (t_nle h141) (by decide : (4:Int) ≤ (4:Int32).toInt) rfl
                          have u147 : (gi1 69 14).toInt ≤ 893 := by have := u121; omega
                          refine ev_ic f_X12_ahead (nx := 198) (v := 1) rfl (by decide) rfl ?_
                          refine ev_jmp f_X12_ahead (nx := 202) rfl rfl rfl ?_
                          refine ev_putIT f_X12_ahead (nx := 205) rfl (hI.wf.s rfl) rfl rfl rfl (hI.putB (hI.wf.s rfl) rfl rfl (by decide : (1:Int) ≤ (1:Int32).toInt) (by decide) (by decide : (1:Int32).toInt ≤ (1:Int)) (by decide)) (hX.upI rfl) (fun g148 e148 hI hX => ?_)
                          refine ev_jmp f_X12_ahead (nx := 263) rfl rfl rfl ?_
                          exact ev_ret f_X12_ahead rfl rfl rfl ⟨_, _, _, rfl, hI, hX, ⟨rfl, (show (gi 69 14).toInt ≤ (g148 69 14).toInt ∧ ((g148 69 12).toInt ≠ 0 → (gi 69 14).toInt < (g148 69 14).toInt) from (by have ff149 : (g148 69 14).toInt = (gi104 69 14).toInt := congrArg Int32.toInt ((by rw [e148]; exact x_up2_off (Or.inr (by decide)) : g148 69 14 = gi104 69 14).trans rfl); have ff150 : (g148 69 12).toInt = 1 := (congrArg Int32.toInt (by rw [e148]; exact x_up2_at _ _ _ _ : g148 69 12 = 1)).trans (by decide); omega))⟩⟩
                      · have u151 : z123.toInt ≤ 57 := t_leu (t_nlt h138) (by decide : (57:Int32).toInt ≤ (57:Int))
                        refine ev_ic f_X12_isDigit (nx := 13) (v := 1) rfl (by decide) rfl ?_
                        refine ev_jmp f_X12_isDigit (nx := 17) rfl rfl rfl ?_
                        refine ev_retK1 f_X12_isDigit rfl rfl rfl ?_
                        refine ev_f f_X12_ahead (t1 := 183) (t2 := 142) rfl rfl rfl (by decide) ?_
                        refine ev_loc f_X12_ahead (nx := 143) rfl rfl rfl rfl ?_
                        refine ev_ldI f_X12_ahead (nx := 145) (v := 100000) rfl (by decide) rfl ?_
                        refine ev_bp f_X12_ahead (nx := 147) (v := 10) rfl (by decide) rfl ?_
                        refine ev_loc f_X12_ahead (nx := 148) rfl rfl rfl rfl ?_
                        refine ev_getI f_X12_ahead (nx := 151) rfl (hI.wf.s rfl) rfl rfl rfl ?_
                        refine ev_anyI f_X12_ahead (nx := 152) rfl rfl rfl rfl (fun z152 => ?_)
                        refine ev_loc f_X12_ahead (nx := 153) rfl rfl rfl rfl ?_
                        refine ev_loc f_X12_ahead (nx := 154) rfl rfl rfl rfl ?_
                        refine ev_gvI f_X12_ahead (nx := 157) (w := (gi104 69 14)) rfl (hI.wf.s rfl) rfl rfl rfl rfl ?_
                        refine ev_inV2 f_X12_ahead (nx := 160) (lo2 := [(0, .ref 69), (1, .int (gi104 69 14))]) rfl rfl rfl rfl f_X12_byteAt (hI.wf.s rfl) rfl rfl rfl rfl rfl ?_
                        refine ev_loc f_X12_byteAt (nx := 1) rfl rfl rfl rfl ?_
                        refine ev_loc f_X12_byteAt (nx := 2) rfl rfl rfl rfl ?_
                        refine ev_gvI f_X12_byteAt (nx := 5) (w := (g3 69 11)) rfl (hI.wf.s rfl) rfl rfl c104_0 rfl ?_
                        refine ev_if f_X12_byteAt (t1 := 21) (t2 := 8) rfl rfl rfl (fun h153 => ?_) (fun h153 => ?_)
                        · have r154 : (g3 69 11).toInt ≤ (gi104 69 14).toInt := Int32.le_iff_toInt_le.mp h153
                          have u155 : (g3 69 11).toInt ≤ 898 := t_leu h153 u121
                          have l156 : 1 ≤ (gi104 69 14).toInt := t_lel h153 l13
                          refine ev_ic f_X12_byteAt (nx := 22) (v := -1) rfl (by decide) rfl ?_
                          refine ev_retK1 f_X12_byteAt rfl rfl rfl ?_
                          refine ev_anyI f_X12_ahead (nx := 161) rfl rfl rfl rfl (fun z157 => ?_)
                          refine ev_bp f_X12_ahead (nx := 163) (v := 48) rfl (by decide) rfl ?_
                          refine ev_anyI f_X12_ahead (nx := 164) rfl rfl rfl rfl (fun z158 => ?_)
                          refine ev_mmR f_X12_ahead (nx := 167) (l := (-2147483648)) (u := 100000) rfl rfl rfl (by omega) rfl (by decide : (100000:Int) ≤ (100000:Int32).toInt) (by decide : (100000:Int32).toInt ≤ (100000:Int)) (t_lo z158) (t_hi z158) (by decide) (by decide) rfl (fun z159 l159 u159 => ?_)
                          refine ev_putIT f_X12_ahead (nx := 170) rfl (hI.wf.s rfl) rfl rfl rfl (hI.put0 (hI.wf.s rfl) rfl rfl) (hX.upI rfl) (fun g160 e160 hI hX => ?_)
                          refine ev_loc f_X12_ahead (nx := 171) rfl rfl rfl rfl ?_
                          refine ev_alu f_X12_ahead (nx := 172) rfl rfl rfl rfl ?_
                          refine ev_gvI f_X12_ahead (nx := 175) (w := (gi104 69 14)) rfl (hI.wf.s rfl) rfl rfl ((by rw [e160]; exact x_up2_off (Or.inr (by decide)) : g160 69 14 = gi104 69 14).trans rfl) rfl ?_
                          refine ev_ic f_X12_ahead (nx := 176) (v := 1) rfl (by decide) rfl ?_
                          refine ev_addC f_X12_ahead (nx := 177) (c := 1) (l := 2) (u := 899) rfl (by decide) l156 u121 rfl rfl (by decide) (by decide) rfl (fun z161 e161 l161 u161 => ?_)
                          refine ev_putIT f_X12_ahead (nx := 180) rfl (hI.wf.s rfl) rfl rfl rfl (hI.putB (hI.wf.s rfl) rfl rfl l161 (by decide) u161 (by decide)) (hX.upI rfl) (fun g162 e162 hI hX => ?_)
                          refine ev_jmp f_X12_ahead (nx := 128) rfl rfl rfl ?_
                          refine ev_sub (lo := [(1, .int z15), (0, .ref 69)]) rfl (t_sc rfl (t_sc rfl t_sn)) ?_
                          exact ih104 _ (by have ff164 : (g162 69 14).toInt = z161.toInt := congrArg Int32.toInt (by rw [e162]; exact x_up2_at _ _ _ _ : g162 69 14 = z161); omega) g162 gl104 gr104  hI hX  ((by rw [e162]; exact x_up2_off (Or.inr (by decide)) : g162 69 11 = g160 69 11).trans ((by rw [e160]; exact x_up2_off (Or.inr (by decide)) : g160 69 11 = gi104 69 11).trans c104_0)) ((by rw [e162]; exact x_up2_off (Or.inr (by decide)) : g162 69 13 = g160 69 13).trans ((by rw [e160]; exact x_up2_off (Or.inr (by decide)) : g160 69 13 = gi104 69 13).trans c104_1)) (by have ff163 : (g162 69 14).toInt = z161.toInt := congrArg Int32.toInt (by rw [e162]; exact x_up2_at _ _ _ _ : g162 69 14 = z161); omega) rfl
                        · have r165 : (gi104 69 14).toInt < (g3 69 11).toInt := Int32.lt_iff_toInt_lt.mp (t_nle h153)
                          refine ev_loc f_X12_byteAt (nx := 9) rfl rfl rfl rfl ?_
                          refine ev_getR f_X12_byteAt (nx := 12) rfl (hI.wf.s rfl) rfl rfl (hI.wf.r rfl) rfl rfl ?_
                          refine ev_loc f_X12_byteAt (nx := 13) rfl rfl rfl rfl ?_
                          refine ev_baldT f_X12_byteAt (nx := 14) rfl (hI.wf.s rfl) rfl l105 (by decide) u121 (by decide) rfl (fun w166 e166 => ?_)
                          rw [e166.trans e122.symm]
                          refine ev_sp f_X12_byteAt (nx := 17) (v := 255) rfl (by decide) rfl ?_
                          refine ev_andE f_X12_byteAt (nx := 18) (c := 255) rfl (by decide) (by decide) rfl (fun z167 e167 l167 u167 => ?_)
                          rw [e167.trans e123.symm]
                          refine ev_jmp f_X12_byteAt (nx := 22) rfl rfl rfl ?_
                          refine ev_retK1 f_X12_byteAt rfl rfl rfl ?_
                          refine ev_anyI f_X12_ahead (nx := 161) rfl rfl rfl rfl (fun z168 => ?_)
                          refine ev_bp f_X12_ahead (nx := 163) (v := 48) rfl (by decide) rfl ?_
                          refine ev_anyI f_X12_ahead (nx := 164) rfl rfl rfl rfl (fun z169 => ?_)
                          refine ev_mmR f_X12_ahead (nx := 167) (l := (-2147483648)) (u := 100000) rfl rfl rfl (by omega) rfl (by decide : (100000:Int) ≤ (100000:Int32).toInt) (by decide : (100000:Int32).toInt ≤ (100000:Int)) (t_lo z169) (t_hi z169) (by decide) (by decide) rfl (fun z170 l170 u170 => ?_)
                          refine ev_putIT f_X12_ahead (nx := 170) rfl (hI.wf.s rfl) rfl rfl rfl (hI.put0 (hI.wf.s rfl) rfl rfl) (hX.upI rfl) (fun g171 e171 hI hX => ?_)
                          refine ev_loc f_X12_ahead (nx := 171) rfl rfl rfl rfl ?_
                          refine ev_alu f_X12_ahead (nx := 172) rfl rfl rfl rfl ?_
                          refine ev_gvI f_X12_ahead (nx := 175) (w := (gi104 69 14)) rfl (hI.wf.s rfl) rfl rfl ((by rw [e171]; exact x_up2_off (Or.inr (by decide)) : g171 69 14 = gi104 69 14).trans rfl) rfl ?_
                          refine ev_ic f_X12_ahead (nx := 176) (v := 1) rfl (by decide) rfl ?_
                          refine ev_addC f_X12_ahead (nx := 177) (c := 1) (l := 1) (u := 899) rfl (by decide) l105 u121 rfl rfl (by decide) (by decide) rfl (fun z172 e172 l172 u172 => ?_)
                          refine ev_putIT f_X12_ahead (nx := 180) rfl (hI.wf.s rfl) rfl rfl rfl (hI.putB (hI.wf.s rfl) rfl rfl l172 (by decide) u172 (by decide)) (hX.upI rfl) (fun g173 e173 hI hX => ?_)
                          refine ev_jmp f_X12_ahead (nx := 128) rfl rfl rfl ?_
                          refine ev_sub (lo := [(1, .int z15), (0, .ref 69)]) rfl (t_sc rfl (t_sc rfl t_sn)) ?_
                          exact ih104 _ (by have ff175 : (g173 69 14).toInt = z172.toInt := congrArg Int32.toInt (by rw [e173]; exact x_up2_at _ _ _ _ : g173 69 14 = z172); omega) g173 gl104 gr104  hI hX  ((by rw [e173]; exact x_up2_off (Or.inr (by decide)) : g173 69 11 = g171 69 11).trans ((by rw [e171]; exact x_up2_off (Or.inr (by decide)) : g171 69 11 = gi104 69 11).trans c104_0)) ((by rw [e173]; exact x_up2_off (Or.inr (by decide)) : g173 69 13 = g171 69 13).trans ((by rw [e171]; exact x_up2_off (Or.inr (by decide)) : g171 69 13 = gi104 69 13).trans c104_1)) (by have ff174 : (g173 69 14).toInt = z172.toInt := congrArg Int32.toInt (by rw [e173]; exact x_up2_at _ _ _ _ : g173 69 14 = z172); omega) rfl
                refine ev_sub (lo := [(1, .int z15), (0, .ref 69)]) rfl (t_sc rfl (t_sc rfl t_sn)) ?_
                exact L104 _ g103 gl1 gr1  hI hX  ((by rw [e103]; exact x_up2_off (Or.inr (by decide)) : g103 69 11 = g101 69 11).trans ((by rw [e101]; exact x_up2_off (Or.inr (by decide)) : g101 69 11 = g77 69 11).trans ((by rw [e77]; exact x_up2_off (Or.inr (by decide)) : g77 69 11 = g16 69 11).trans ((by rw [e16]; exact x_up2_off (Or.inr (by decide)) : g16 69 11 = g3 69 11).trans rfl)))) ((by rw [e103]; exact x_up2_off (Or.inr (by decide)) : g103 69 13 = g101 69 13).trans ((by rw [e101]; exact x_up2_off (Or.inr (by decide)) : g101 69 13 = g77 69 13).trans ((by rw [e77]; exact x_up2_off (Or.inr (by decide)) : g77 69 13 = g16 69 13).trans ((by rw [e16]; exact x_up2_off (Or.inr (by decide)) : g16 69 13 = g3 69 13).trans (by rw [e3]; exact x_up2_at _ _ _ _ : g3 69 13 = (gi1 69 14)))))) (by have ff176 : (g103 69 14).toInt = z102.toInt := congrArg Int32.toInt (by rw [e103]; exact x_up2_at _ _ _ _ : g103 69 14 = z102); omega) rfl
              · have r177 : (gi1 69 14).toInt < (g3 69 11).toInt := Int32.lt_iff_toInt_lt.mp (t_nle h96)
                refine ev_loc f_X12_byteAt (nx := 9) rfl rfl rfl rfl ?_
                refine ev_getR f_X12_byteAt (nx := 12) rfl (hI.wf.s rfl) rfl rfl (hI.wf.r rfl) rfl rfl ?_
                refine ev_loc f_X12_byteAt (nx := 13) rfl rfl rfl rfl ?_
                refine ev_baldT f_X12_byteAt (nx := 14) rfl (hI.wf.s rfl) rfl l2 (by decide) u12 (by decide) rfl (fun w178 e178 => ?_)
                rw [e178.trans ((by rw [e77]; exact x_up2_off (Or.inl (by decide)) : g77 76 (gi1 69 14).toNatClampNeg = g16 76 (gi1 69 14).toNatClampNeg).trans ((by rw [e16]; exact x_up2_off (Or.inl (by decide)) : g16 76 (gi1 69 14).toNatClampNeg = g3 76 (gi1 69 14).toNatClampNeg).trans e14.symm))]
                refine ev_sp f_X12_byteAt (nx := 17) (v := 255) rfl (by decide) rfl ?_
                refine ev_andE f_X12_byteAt (nx := 18) (c := 255) rfl (by decide) (by decide) rfl (fun z179 e179 l179 u179 => ?_)
                rw [e179.trans e15.symm]
                refine ev_jmp f_X12_byteAt (nx := 22) rfl rfl rfl ?_
                refine ev_retK1 f_X12_byteAt rfl rfl rfl ?_
                refine ev_addK f_X12_ahead (nx := 161) (c := 0) (l := 48) (u := 57) rfl (by decide) l40 u76 rfl rfl (by decide) (by decide) rfl (fun z180 e180 l180 u180 => ?_)
                refine ev_bp f_X12_ahead (nx := 163) (v := 48) rfl (by decide) rfl ?_
                refine ev_subC f_X12_ahead (nx := 164) (c := 48) (l := 0) (u := 9) rfl (by decide) l180 u180 rfl rfl (by decide) (by decide) rfl (fun z181 e181 l181 u181 => ?_)
                refine ev_mmR f_X12_ahead (nx := 167) (l := 0) (u := 9) rfl rfl rfl (by omega) rfl (by decide : (100000:Int) ≤ (100000:Int32).toInt) (by decide : (100000:Int32).toInt ≤ (100000:Int)) l181 u181 (by decide) (by decide) rfl (fun z182 l182 u182 => ?_)
                refine ev_putIT f_X12_ahead (nx := 170) rfl (hI.wf.s rfl) rfl rfl rfl (hI.put0 (hI.wf.s rfl) rfl rfl) (hX.upI rfl) (fun g183 e183 hI hX => ?_)
                refine ev_loc f_X12_ahead (nx := 171) rfl rfl rfl rfl ?_
                refine ev_alu f_X12_ahead (nx := 172) rfl rfl rfl rfl ?_
                refine ev_gvI f_X12_ahead (nx := 175) (w := (gi1 69 14)) rfl (hI.wf.s rfl) rfl rfl ((by rw [e183]; exact x_up2_off (Or.inr (by decide)) : g183 69 14 = g77 69 14).trans ((by rw [e77]; exact x_up2_off (Or.inr (by decide)) : g77 69 14 = g16 69 14).trans ((by rw [e16]; exact x_up2_off (Or.inr (by decide)) : g16 69 14 = g3 69 14).trans ((by rw [e3]; exact x_up2_off (Or.inr (by decide)) : g3 69 14 = gi1 69 14).trans rfl)))) rfl ?_
                refine ev_ic f_X12_ahead (nx := 176) (v := 1) rfl (by decide) rfl ?_
                refine ev_addC f_X12_ahead (nx := 177) (c := 1) (l := 1) (u := 900) rfl (by decide) l2 u12 rfl rfl (by decide) (by decide) rfl (fun z184 e184 l184 u184 => ?_)
                refine ev_putIT f_X12_ahead (nx := 180) rfl (hI.wf.s rfl) rfl rfl rfl (hI.putB (hI.wf.s rfl) rfl rfl l184 (by decide) u184 (by decide)) (hX.upI rfl) (fun g185 e185 hI hX => ?_)
                refine ev_jmp f_X12_ahead (nx := 128) rfl rfl rfl ?_
                have L186 : ∀ (m186 : Nat) (gi186 : Nat → Nat → Int32) (gl186 : Nat → Nat → Int64) (gr186 : Nat → Nat → Value), t_I sh gi186 gr186 → t_X wl_m_ahead sh gi gl gr gi186 gl186 gr186 → gi186 69 11 = (g3 69 11) → gi186 69 13 = (gi1 69 14) → (gi 69 14).toInt < (gi186 69 14).toInt → (900 - (gi186 69 14).toInt).toNat = m186 → x_Ev X (d + 2) n_X12_ahead 128 [(1, .int z15), (0, .ref 69)] [] (sh, gi186, gl186, gr186) (t_PN wl_m_ahead sh gi gl gr (Q_m_ahead gi gl gr)) := by
                  intro m186
                  induction m186 using Nat.strongRecOn with
                  | _ m186 ih186 =>
                  intro gi186 gl186 gr186 hI hX c186_0 c186_1 j186_0 hm186
                  refine ev_loc f_X12_ahead (nx := 129) rfl rfl rfl rfl ?_
                  refine ev_loc f_X12_ahead (nx := 130) rfl rfl rfl rfl ?_
                  refine ev_getI f_X12_ahead (nx := 133) rfl (hI.wf.s rfl) rfl rfl rfl ?_
                  obtain ⟨l187, u187⟩ := hI.b (hI.wf.s (k := 69) rfl) (rfl : t_bd 11 14 = some (0, 900))
                  refine ev_inV2 f_X12_ahead (nx := 136) (lo2 := [(0, .ref 69), (1, .int (gi186 69 14))]) rfl rfl rfl rfl f_X12_byteAt (hI.wf.s rfl) rfl rfl rfl rfl rfl ?_
                  refine ev_loc f_X12_byteAt (nx := 1) rfl rfl rfl rfl ?_
                  refine ev_loc f_X12_byteAt (nx := 2) rfl rfl rfl rfl ?_
                  refine ev_gvI f_X12_byteAt (nx := 5) (w := (g3 69 11)) rfl (hI.wf.s rfl) rfl rfl c186_0 rfl ?_
                  refine ev_if f_X12_byteAt (t1 := 21) (t2 := 8) rfl rfl rfl (fun h188 => ?_) (fun h188 => ?_)
                  · have r189 : (g3 69 11).toInt ≤ (gi186 69 14).toInt := Int32.le_iff_toInt_le.mp h188
                    have l190 : 1 ≤ (gi186 69 14).toInt := t_lel h188 l13
                    refine ev_ic f_X12_byteAt (nx := 22) (v := -1) rfl (by decide) rfl ?_
                    refine ev_retK1 f_X12_byteAt rfl rfl rfl ?_
                    refine ev_inS1 f_X12_ahead (nx := 139) (lo2 := [(0, .int (-1))]) rfl rfl rfl rfl f_X12_isDigit rfl rfl rfl rfl ?_
                    refine ev_loc f_X12_isDigit (nx := 1) rfl rfl rfl rfl ?_
                    refine ev_bp f_X12_isDigit (nx := 3) (v := 48) rfl (by decide) rfl ?_
                    refine ev_t f_X12_isDigit (t1 := 16) (t2 := 6) rfl rfl rfl (by decide) ?_
                    refine ev_ic f_X12_isDigit (nx := 17) (v := 0) rfl (by decide) rfl ?_
                    refine ev_retK1 f_X12_isDigit rfl rfl rfl ?_
                    refine ev_t f_X12_ahead (t1 := 183) (t2 := 142) rfl rfl rfl (by decide) ?_
                    refine ev_loc f_X12_ahead (nx := 184) rfl rfl rfl rfl ?_
                    refine ev_loc f_X12_ahead (nx := 185) rfl rfl rfl rfl ?_
                    refine ev_gvI f_X12_ahead (nx := 188) (w := (gi186 69 14)) rfl (hI.wf.s rfl) rfl rfl rfl rfl ?_
                    refine ev_loc f_X12_ahead (nx := 189) rfl rfl rfl rfl ?_
                    refine ev_gvI f_X12_ahead (nx := 192) (w := (gi1 69 14)) rfl (hI.wf.s rfl) rfl rfl c186_1 rfl ?_
                    refine ev_subR f_X12_ahead (nx := 193) (l := (-898)) (u := 900) rfl l190 u187 l2 u12 rfl rfl (by decide) (by decide) rfl (fun z191 e191 l191 u191 => ?_)
                    refine ev_ic f_X12_ahead (nx := 194) (v := 4) rfl (by decide) rfl ?_
                    refine ev_if f_X12_ahead (t1 := 201) (t2 := 197) rfl rfl rfl (fun h192 => ?_) (fun h192 => ?_)
                    · have u193 : z191.toInt ≤ 4 := t_leu h192 (by decide : (4:Int32).toInt ≤ (4:Int))
                      refine ev_ic f_X12_ahead (nx := 202) (v := 3) rfl (by decide) rfl ?_
                      refine ev_putIT f_X12_ahead (nx := 205) rfl (hI.wf.s rfl) rfl rfl rfl (hI.putB (hI.wf.s rfl) rfl rfl (by decide : (3:Int) ≤ (3:Int32).toInt) (by decide) (by decide : (3:Int32).toInt ≤ (3:Int)) (by decide)) (hX.upI rfl) (fun g194 e194 hI hX => ?_)
                      refine ev_jmp f_X12_ahead (nx := 263) rfl rfl rfl ?_
                      exact ev_ret f_X12_ahead rfl rfl rfl ⟨_, _, _, rfl, hI, hX, ⟨rfl, (show (gi 69 14).toInt ≤ (g194 69 14).toInt ∧ ((g194 69 12).toInt ≠ 0 → (gi 69 14).toInt < (g194 69 14).toInt) from (by have ff195 : (g194 69 14).toInt = (gi186 69 14).toInt := congrArg Int32.toInt ((by rw [e194]; exact x_up2_off (Or.inr (by decide)) : g194 69 14 = gi186 69 14).trans rfl); have ff196 : (g194 69 12).toInt = 3 := (congrArg Int32.toInt (by rw [e194]; exact x_up2_at _ _ _ _ : g194 69 12 = 3)).trans (by decide); omega))⟩⟩
                    · have l197 : 5 ≤ z191.toInt := t_ltl (t_nle h192) (by decide : (4:Int) ≤ (4:Int32).toInt) rfl
                      have u198 : (gi1 69 14).toInt ≤ 895 := by have := u187; omega
                      refine ev_ic f_X12_ahead (nx := 198) (v := 1) rfl (by decide) rfl ?_
                      refine ev_jmp f_X12_ahead (nx := 202) rfl rfl rfl ?_
                      refine ev_putIT f_X12_ahead (nx := 205) rfl (hI.wf.s rfl) rfl rfl rfl (hI.putB (hI.wf.s rfl) rfl rfl (by decide : (1:Int) ≤ (1:Int32).toInt) (by decide) (by decide : (1:Int32).toInt ≤ (1:Int)) (by decide)) (hX.upI rfl) (fun g199 e199 hI hX => ?_)
                      refine ev_jmp f_X12_ahead (nx := 263) rfl rfl rfl ?_
                      exact ev_ret f_X12_ahead rfl rfl rfl ⟨_, _, _, rfl, hI, hX, ⟨rfl, (show (gi 69 14).toInt ≤ (g199 69 14).toInt ∧ ((g199 69 12).toInt ≠ 0 → (gi 69 14).toInt < (g199 69 14).toInt) from (by have ff200 : (g199 69 14).toInt = (gi186 69 14).toInt := congrArg Int32.toInt ((by rw [e199]; exact x_up2_off (Or.inr (by decide)) : g199 69 14 = gi186 69 14).trans rfl); have ff201 : (g199 69 12).toInt = 1 := (congrArg Int32.toInt (by rw [e199]; exact x_up2_at _ _ _ _ : g199 69 12 = 1)).trans (by decide); omega))⟩⟩
                  · have r202 : (gi186 69 14).toInt < (g3 69 11).toInt := Int32.lt_iff_toInt_lt.mp (t_nle h188)
                    have u203 : (gi186 69 14).toInt ≤ 899 := t_ltu (t_nle h188) u4 rfl
                    refine ev_loc f_X12_byteAt (nx := 9) rfl rfl rfl rfl ?_
                    refine ev_getR f_X12_byteAt (nx := 12) rfl (hI.wf.s rfl) rfl rfl (hI.wf.r rfl) rfl rfl ?_
                    refine ev_loc f_X12_byteAt (nx := 13) rfl rfl rfl rfl ?_
                    refine ev_baldT f_X12_byteAt (nx := 14) rfl (hI.wf.s rfl) rfl l187 (by decide) u203 (by decide) rfl (fun w204 e204 => ?_)
                    refine ev_sp f_X12_byteAt (nx := 17) (v := 255) rfl (by decide) rfl ?_
                    refine ev_andE f_X12_byteAt (nx := 18) (c := 255) rfl (by decide) (by decide) rfl (fun z205 e205 l205 u205 => ?_)
                    refine ev_jmp f_X12_byteAt (nx := 22) rfl rfl rfl ?_
                    refine ev_retK1 f_X12_byteAt rfl rfl rfl ?_
                    refine ev_inS1 f_X12_ahead (nx := 139) (lo2 := [(0, .int z205)]) rfl rfl rfl rfl f_X12_isDigit rfl rfl rfl rfl ?_
                    refine ev_loc f_X12_isDigit (nx := 1) rfl rfl rfl rfl ?_
                    refine ev_bp f_X12_isDigit (nx := 3) (v := 48) rfl (by decide) rfl ?_
                    refine ev_if f_X12_isDigit (t1 := 16) (t2 := 6) rfl rfl rfl (fun h206 => ?_) (fun h206 => ?_)
                    · have u207 : z205.toInt ≤ 47 := t_ltu h206 (by decide : (48:Int32).toInt ≤ (48:Int)) rfl
                      refine ev_ic f_X12_isDigit (nx := 17) (v := 0) rfl (by decide) rfl ?_
                      refine ev_retK1 f_X12_isDigit rfl rfl rfl ?_
                      refine ev_t f_X12_ahead (t1 := 183) (t2 := 142) rfl rfl rfl (by decide) ?_
                      refine ev_loc f_X12_ahead (nx := 184) rfl rfl rfl rfl ?_
                      refine ev_loc f_X12_ahead (nx := 185) rfl rfl rfl rfl ?_
                      refine ev_gvI f_X12_ahead (nx := 188) (w := (gi186 69 14)) rfl (hI.wf.s rfl) rfl rfl rfl rfl ?_
                      refine ev_loc f_X12_ahead (nx := 189) rfl rfl rfl rfl ?_
                      refine ev_gvI f_X12_ahead (nx := 192) (w := (gi1 69 14)) rfl (hI.wf.s rfl) rfl rfl c186_1 rfl ?_
                      refine ev_subR f_X12_ahead (nx := 193) (l := (-899)) (u := 899) rfl l187 u203 l2 u12 rfl rfl (by decide) (by decide) rfl (fun z208 e208 l208 u208 => ?_)
                      refine ev_ic f_X12_ahead (nx := 194) (v := 4) rfl (by decide) rfl ?_
                      refine ev_if f_X12_ahead (t1 := 201) (t2 := 197) rfl rfl rfl (fun h209 => ?_) (fun h209 => ?_)
                      · have u210 : z208.toInt ≤ 4 := t_leu h209 (by decide : (4:Int32).toInt ≤ (4:Int))
                        refine ev_ic f_X12_ahead (nx := 202) (v := 3) rfl (by decide) rfl ?_
                        refine ev_putIT f_X12_ahead (nx := 205) rfl (hI.wf.s rfl) rfl rfl rfl (hI.putB (hI.wf.s rfl) rfl rfl (by decide : (3:Int) ≤ (3:Int32).toInt) (by decide) (by decide : (3:Int32).toInt ≤ (3:Int)) (by decide)) (hX.upI rfl) (fun g211 e211 hI hX => ?_)
                        refine ev_jmp f_X12_ahead (nx := 263) rfl rfl rfl ?_
                        exact ev_ret f_X12_ahead rfl rfl rfl ⟨_, _, _, rfl, hI, hX, ⟨rfl, (show (gi 69 14).toInt ≤ (g211 69 14).toInt ∧ ((g211 69 12).toInt ≠ 0 → (gi 69 14).toInt < (g211 69 14).toInt) from (by have ff212 : (g211 69 14).toInt = (gi186 69 14).toInt := congrArg Int32.toInt ((by rw [e211]; exact x_up2_off (Or.inr (by decide)) : g211 69 14 = gi186 69 14).trans rfl); have ff213 : (g211 69 12).toInt = 3 := (congrArg Int32.toInt (by rw [e211]; exact x_up2_at _ _ _ _ : g211 69 12 = 3)).trans (by decide); omega))⟩⟩
                      · have l214 : 5 ≤ z208.toInt := t_ltl (t_nle h209) (by decide : (4:Int) ≤ (4:Int32).toInt) rfl
                        have u215 : (gi1 69 14).toInt ≤ 894 := by have := u203; omega
                        refine ev_ic f_X12_ahead (nx := 198) (v := 1) rfl (by decide) rfl ?_
                        refine ev_jmp f_X12_ahead (nx := 202) rfl rfl rfl ?_
                        refine ev_putIT f_X12_ahead (nx := 205) rfl (hI.wf.s rfl) rfl rfl rfl (hI.putB (hI.wf.s rfl) rfl rfl (by decide : (1:Int) ≤ (1:Int32).toInt) (by decide) (by decide : (1:Int32).toInt ≤ (1:Int)) (by decide)) (hX.upI rfl) (fun g216 e216 hI hX => ?_)
                        refine ev_jmp f_X12_ahead (nx := 263) rfl rfl rfl ?_
                        exact ev_ret f_X12_ahead rfl rfl rfl ⟨_, _, _, rfl, hI, hX, ⟨rfl, (show (gi 69 14).toInt ≤ (g216 69 14).toInt ∧ ((g216 69 12).toInt ≠ 0 → (gi 69 14).toInt < (g216 69 14).toInt) from (by have ff217 : (g216 69 14).toInt = (gi186 69 14).toInt := congrArg Int32.toInt ((by rw [e216]; exact x_up2_off (Or.inr (by decide)) : g216 69 14 = gi186 69 14).trans rfl); have ff218 : (g216 69 12).toInt = 1 := (congrArg Int32.toInt (by rw [e216]; exact x_up2_at _ _ _ _ : g216 69 12 = 1)).trans (by decide); omega))⟩⟩
                    · have l219 : 48 ≤ z205.toInt := t_lel (t_nlt h206) (by decide : (48:Int) ≤ (48:Int32).toInt)
                      refine ev_loc f_X12_isDigit (nx := 7) rfl rfl rfl rfl ?_
                      refine ev_bp f_X12_isDigit (nx := 9) (v := 57) rfl (by decide) rfl ?_
                      refine ev_if f_X12_isDigit (t1 := 16) (t2 := 12) rfl rfl rfl (fun h220 => ?_) (fun h220 => ?_)
                      · have l221 : 58 ≤ z205.toInt := t_ltl h220 (by decide : (57:Int) ≤ (57:Int32).toInt) rfl
                        refine ev_ic f_X12_isDigit (nx := 17) (v := 0) rfl (by decide) rfl ?_
                        refine ev_retK1 f_X12_isDigit rfl rfl rfl ?_
                        refine ev_t f_X12_ahead (t1 := 183) (t2 := 142) rfl rfl rfl (by decide) ?_
                        refine ev_loc f_X12_ahead (nx := 184) rfl rfl rfl rfl ?_
                        refine ev_loc f_X12_ahead (nx := 185) rfl rfl rfl rfl ?_
                        refine ev_gvI f_X12_ahead (nx := 188) (w := (gi186 69 14)) rfl (hI.wf.s rfl) rfl rfl rfl rfl ?_
                        refine ev_loc f_X12_ahead (nx := 189) rfl rfl rfl rfl ?_
                        refine ev_gvI f_X12_ahead (nx := 192) (w := (gi1 69 14)) rfl (hI.wf.s rfl) rfl rfl c186_1 rfl ?_
                        refine ev_subR f_X12_ahead (nx := 193) (l := (-899)) (u := 899) rfl l187 u203 l2 u12 rfl rfl (by decide) (by decide) rfl (fun z222 e222 l222 u222 => ?_)
                        refine ev_ic f_X12_ahead (nx := 194) (v := 4) rfl (by decide) rfl ?_
                        refine ev_if f_X12_ahead (t1 := 201) (t2 := 197) rfl rfl rfl (fun h223 => ?_) (fun h223 => ?_)
                        · have u224 : z222.toInt ≤ 4 := t_leu h223 (by decide : (4:Int32).toInt ≤ (4:Int))
                          refine ev_ic f_X12_ahead (nx := 202) (v := 3) rfl (by decide) rfl ?_
                          refine ev_putIT f_X12_ahead (nx := 205) rfl (hI.wf.s rfl) rfl rfl rfl (hI.putB (hI.wf.s rfl) rfl rfl (by decide : (3:Int) ≤ (3:Int32).toInt) (by decide) (by decide : (3:Int32).toInt ≤ (3:Int)) (by decide)) (hX.upI rfl) (fun g225 e225 hI hX => ?_)
                          refine ev_jmp f_X12_ahead (nx := 263) rfl rfl rfl ?_
                          exact ev_ret f_X12_ahead rfl rfl rfl ⟨_, _, _, rfl, hI, hX, ⟨rfl, (show (gi 69 14).toInt ≤ (g225 69 14).toInt ∧ ((g225 69 12).toInt ≠ 0 → (gi 69 14).toInt < (g225 69 14).toInt) from (by have ff226 : (g225 69 14).toInt = (gi186 69 14).toInt := congrArg Int32.toInt ((by rw [e225]; exact x_up2_off (Or.inr (by decide)) : g225 69 14 = gi186 69 14).trans rfl); have ff227 : (g225 69 12).toInt = 3 := (congrArg Int32.toInt (by rw [e225]; exact x_up2_at _ _ _ _ : g225 69 12 = 3)).trans (by decide); omega))⟩⟩
                        · have l228 : 5 ≤ z222.toInt := t_ltl (t_nle h223) (by decide : (4:Int) ≤ (4:Int32).toInt) rfl
                          have u229 : (gi1 69 14).toInt ≤ 894 := by have := u203; omega
                          refine ev_ic f_X12_ahead (nx := 198) (v := 1) rfl (by decide) rfl ?_
                          refine ev_jmp f_X12_ahead (nx := 202) rfl rfl rfl ?_
                          refine ev_putIT f_X12_ahead (nx := 205) rfl (hI.wf.s rfl) rfl rfl rfl (hI.putB (hI.wf.s rfl) rfl rfl (by decide : (1:Int) ≤ (1:Int32).toInt) (by decide) (by decide : (1:Int32).toInt ≤ (1:Int)) (by decide)) (hX.upI rfl) (fun g230 e230 hI hX => ?_)
                          refine ev_jmp f_X12_ahead (nx := 263) rfl rfl rfl ?_
                          exact ev_ret f_X12_ahead rfl rfl rfl ⟨_, _, _, rfl, hI, hX, ⟨rfl, (show (gi 69 14).toInt ≤ (g230 69 14).toInt ∧ ((g230 69 12).toInt ≠ 0 → (gi 69 14).toInt < (g230 69 14).toInt) from (by have ff231 : (g230 69 14).toInt = (gi186 69 14).toInt := congrArg Int32.toInt ((by rw [e230]; exact x_up2_off (Or.inr (by decide)) : g230 69 14 = gi186 69 14).trans rfl); have ff232 : (g230 69 12).toInt = 1 := (congrArg Int32.toInt (by rw [e230]; exact x_up2_at _ _ _ _ : g230 69 12 = 1)).trans (by decide); omega))⟩⟩
                      · have u233 : z205.toInt ≤ 57 := t_leu (t_nlt h220) (by decide : (57:Int32).toInt ≤ (57:Int))
                        refine ev_ic f_X12_isDigit (nx := 13) (v := 1) rfl (by decide) rfl ?_
                        refine ev_jmp f_X12_isDigit (nx := 17) rfl rfl rfl ?_
                        refine ev_retK1 f_X12_isDigit rfl rfl rfl ?_
                        refine ev_f f_X12_ahead (t1 := 183) (t2 := 142) rfl rfl rfl (by decide) ?_
                        refine ev_loc f_X12_ahead (nx := 143) rfl rfl rfl rfl ?_
                        refine ev_ldI f_X12_ahead (nx := 145) (v := 100000) rfl (by decide) rfl ?_
                        refine ev_bp f_X12_ahead (nx := 147) (v := 10) rfl (by decide) rfl ?_
                        refine ev_loc f_X12_ahead (nx := 148) rfl rfl rfl rfl ?_
                        refine ev_getI f_X12_ahead (nx := 151) rfl (hI.wf.s rfl) rfl rfl rfl ?_
                        refine ev_anyI f_X12_ahead (nx := 152) rfl rfl rfl rfl (fun z234 => ?_)
                        refine ev_loc f_X12_ahead (nx := 153) rfl rfl rfl rfl ?_
                        refine ev_loc f_X12_ahead (nx := 154) rfl rfl rfl rfl ?_
                        refine ev_gvI f_X12_ahead (nx := 157) (w := (gi186 69 14)) rfl (hI.wf.s rfl) rfl rfl rfl rfl ?_
                        refine ev_inV2 f_X12_ahead (nx := 160) (lo2 := [(0, .ref 69), (1, .int (gi186 69 14))]) rfl rfl rfl rfl f_X12_byteAt (hI.wf.s rfl) rfl rfl rfl rfl rfl ?_
                        refine ev_loc f_X12_byteAt (nx := 1) rfl rfl rfl rfl ?_
                        refine ev_loc f_X12_byteAt (nx := 2) rfl rfl rfl rfl ?_
                        refine ev_gvI f_X12_byteAt (nx := 5) (w := (g3 69 11)) rfl (hI.wf.s rfl) rfl rfl c186_0 rfl ?_
                        refine ev_if f_X12_byteAt (t1 := 21) (t2 := 8) rfl rfl rfl (fun h235 => ?_) (fun h235 => ?_)
                        · have r236 : (g3 69 11).toInt ≤ (gi186 69 14).toInt := Int32.le_iff_toInt_le.mp h235
                          have u237 : (g3 69 11).toInt ≤ 899 := t_leu h235 u203
                          have l238 : 1 ≤ (gi186 69 14).toInt := t_lel h235 l13
                          refine ev_ic f_X12_byteAt (nx := 22) (v := -1) rfl (by decide) rfl ?_
                          refine ev_retK1 f_X12_byteAt rfl rfl rfl ?_
                          refine ev_anyI f_X12_ahead (nx := 161) rfl rfl rfl rfl (fun z239 => ?_)
                          refine ev_bp f_X12_ahead (nx := 163) (v := 48) rfl (by decide) rfl ?_
                          refine ev_anyI f_X12_ahead (nx := 164) rfl rfl rfl rfl (fun z240 => ?_)
                          refine ev_mmR f_X12_ahead (nx := 167) (l := (-2147483648)) (u := 100000) rfl rfl rfl (by omega) rfl (by decide : (100000:Int) ≤ (100000:Int32).toInt) (by decide : (100000:Int32).toInt ≤ (100000:Int)) (t_lo z240) (t_hi z240) (by decide) (by decide) rfl (fun z241 l241 u241 => ?_)
                          refine ev_putIT f_X12_ahead (nx := 170) rfl (hI.wf.s rfl) rfl rfl rfl (hI.put0 (hI.wf.s rfl) rfl rfl) (hX.upI rfl) (fun g242 e242 hI hX => ?_)
                          refine ev_loc f_X12_ahead (nx := 171) rfl rfl rfl rfl ?_
                          refine ev_alu f_X12_ahead (nx := 172) rfl rfl rfl rfl ?_
                          refine ev_gvI f_X12_ahead (nx := 175) (w := (gi186 69 14)) rfl (hI.wf.s rfl) rfl rfl ((by rw [e242]; exact x_up2_off (Or.inr (by decide)) : g242 69 14 = gi186 69 14).trans rfl) rfl ?_
                          refine ev_ic f_X12_ahead (nx := 176) (v := 1) rfl (by decide) rfl ?_
                          refine ev_addC f_X12_ahead (nx := 177) (c := 1) (l := 2) (u := 900) rfl (by decide) l238 u203 rfl rfl (by decide) (by decide) rfl (fun z243 e243 l243 u243 => ?_)
                          refine ev_putIT f_X12_ahead (nx := 180) rfl (hI.wf.s rfl) rfl rfl rfl (hI.putB (hI.wf.s rfl) rfl rfl l243 (by decide) u243 (by decide)) (hX.upI rfl) (fun g244 e244 hI hX => ?_)
                          refine ev_jmp f_X12_ahead (nx := 128) rfl rfl rfl ?_
                          refine ev_sub (lo := [(1, .int z15), (0, .ref 69)]) rfl (t_sc rfl (t_sc rfl t_sn)) ?_
                          exact ih186 _ (by have ff246 : (g244 69 14).toInt = z243.toInt := congrArg Int32.toInt (by rw [e244]; exact x_up2_at _ _ _ _ : g244 69 14 = z243); omega) g244 gl186 gr186  hI hX  ((by rw [e244]; exact x_up2_off (Or.inr (by decide)) : g244 69 11 = g242 69 11).trans ((by rw [e242]; exact x_up2_off (Or.inr (by decide)) : g242 69 11 = gi186 69 11).trans c186_0)) ((by rw [e244]; exact x_up2_off (Or.inr (by decide)) : g244 69 13 = g242 69 13).trans ((by rw [e242]; exact x_up2_off (Or.inr (by decide)) : g242 69 13 = gi186 69 13).trans c186_1)) (by have ff245 : (g244 69 14).toInt = z243.toInt := congrArg Int32.toInt (by rw [e244]; exact x_up2_at _ _ _ _ : g244 69 14 = z243); omega) rfl
                        · have r247 : (gi186 69 14).toInt < (g3 69 11).toInt := Int32.lt_iff_toInt_lt.mp (t_nle h235)
                          refine ev_loc f_X12_byteAt (nx := 9) rfl rfl rfl rfl ?_
                          refine ev_getR f_X12_byteAt (nx := 12) rfl (hI.wf.s rfl) rfl rfl (hI.wf.r rfl) rfl rfl ?_
                          refine ev_loc f_X12_byteAt (nx := 13) rfl rfl rfl rfl ?_
                          refine ev_baldT f_X12_byteAt (nx := 14) rfl (hI.wf.s rfl) rfl l187 (by decide) u203 (by decide) rfl (fun w248 e248 => ?_)
                          rw [e248.trans e204.symm]
                          refine ev_sp f_X12_byteAt (nx := 17) (v := 255) rfl (by decide) rfl ?_
                          refine ev_andE f_X12_byteAt (nx := 18) (c := 255) rfl (by decide) (by decide) rfl (fun z249 e249 l249 u249 => ?_)
                          rw [e249.trans e205.symm]
                          refine ev_jmp f_X12_byteAt (nx := 22) rfl rfl rfl ?_
                          refine ev_retK1 f_X12_byteAt rfl rfl rfl ?_
                          refine ev_anyI f_X12_ahead (nx := 161) rfl rfl rfl rfl (fun z250 => ?_)
                          refine ev_bp f_X12_ahead (nx := 163) (v := 48) rfl (by decide) rfl ?_
                          refine ev_anyI f_X12_ahead (nx := 164) rfl rfl rfl rfl (fun z251 => ?_)
                          refine ev_mmR f_X12_ahead (nx := 167) (l := (-2147483648)) (u := 100000) rfl rfl rfl (by omega) rfl (by decide : (100000:Int) ≤ (100000:Int32).toInt) (by decide : (100000:Int32).toInt ≤ (100000:Int)) (t_lo z251) (t_hi z251) (by decide) (by decide) rfl (fun z252 l252 u252 => ?_)
                          refine ev_putIT f_X12_ahead (nx := 170) rfl (hI.wf.s rfl) rfl rfl rfl (hI.put0 (hI.wf.s rfl) rfl rfl) (hX.upI rfl) (fun g253 e253 hI hX => ?_)
                          refine ev_loc f_X12_ahead (nx := 171) rfl rfl rfl rfl ?_
                          refine ev_alu f_X12_ahead (nx := 172) rfl rfl rfl rfl ?_
                          refine ev_gvI f_X12_ahead (nx := 175) (w := (gi186 69 14)) rfl (hI.wf.s rfl) rfl rfl ((by rw [e253]; exact x_up2_off (Or.inr (by decide)) : g253 69 14 = gi186 69 14).trans rfl) rfl ?_
                          refine ev_ic f_X12_ahead (nx := 176) (v := 1) rfl (by decide) rfl ?_
                          refine ev_addC f_X12_ahead (nx := 177) (c := 1) (l := 1) (u := 900) rfl (by decide) l187 u203 rfl rfl (by decide) (by decide) rfl (fun z254 e254 l254 u254 => ?_)
                          refine ev_putIT f_X12_ahead (nx := 180) rfl (hI.wf.s rfl) rfl rfl rfl (hI.putB (hI.wf.s rfl) rfl rfl l254 (by decide) u254 (by decide)) (hX.upI rfl) (fun g255 e255 hI hX => ?_)
                          refine ev_jmp f_X12_ahead (nx := 128) rfl rfl rfl ?_
                          refine ev_sub (lo := [(1, .int z15), (0, .ref 69)]) rfl (t_sc rfl (t_sc rfl t_sn)) ?_
                          exact ih186 _ (by have ff257 : (g255 69 14).toInt = z254.toInt := congrArg Int32.toInt (by rw [e255]; exact x_up2_at _ _ _ _ : g255 69 14 = z254); omega) g255 gl186 gr186  hI hX  ((by rw [e255]; exact x_up2_off (Or.inr (by decide)) : g255 69 11 = g253 69 11).trans ((by rw [e253]; exact x_up2_off (Or.inr (by decide)) : g253 69 11 = gi186 69 11).trans c186_0)) ((by rw [e255]; exact x_up2_off (Or.inr (by decide)) : g255 69 13 = g253 69 13).trans ((by rw [e253]; exact x_up2_off (Or.inr (by decide)) : g253 69 13 = gi186 69 13).trans c186_1)) (by have ff256 : (g255 69 14).toInt = z254.toInt := congrArg Int32.toInt (by rw [e255]; exact x_up2_at _ _ _ _ : g255 69 14 = z254); omega) rfl
                refine ev_sub (lo := [(1, .int z15), (0, .ref 69)]) rfl (t_sc rfl (t_sc rfl t_sn)) ?_
                exact L186 _ g185 gl1 gr1  hI hX  ((by rw [e185]; exact x_up2_off (Or.inr (by decide)) : g185 69 11 = g183 69 11).trans ((by rw [e183]; exact x_up2_off (Or.inr (by decide)) : g183 69 11 = g77 69 11).trans ((by rw [e77]; exact x_up2_off (Or.inr (by decide)) : g77 69 11 = g16 69 11).trans ((by rw [e16]; exact x_up2_off (Or.inr (by decide)) : g16 69 11 = g3 69 11).trans rfl)))) ((by rw [e185]; exact x_up2_off (Or.inr (by decide)) : g185 69 13 = g183 69 13).trans ((by rw [e183]; exact x_up2_off (Or.inr (by decide)) : g183 69 13 = g77 69 13).trans ((by rw [e77]; exact x_up2_off (Or.inr (by decide)) : g77 69 13 = g16 69 13).trans ((by rw [e16]; exact x_up2_off (Or.inr (by decide)) : g16 69 13 = g3 69 13).trans (by rw [e3]; exact x_up2_at _ _ _ _ : g3 69 13 = (gi1 69 14)))))) (by have ff258 : (g185 69 14).toInt = z184.toInt := congrArg Int32.toInt (by rw [e185]; exact x_up2_at _ _ _ _ : g185 69 14 = z184); omega) rfl
      · have l259 : 97 ≤ z15.toInt := t_lel (t_nlt h17) (by decide : (97:Int) ≤ (97:Int32).toInt)
        refine ev_loc f_X12_isSmall (nx := 7) rfl rfl rfl rfl ?_
        refine ev_bp f_X12_isSmall (nx := 9) (v := 122) rfl (by decide) rfl ?_
        refine ev_if f_X12_isSmall (t1 := 16) (t2 := 12) rfl rfl rfl (fun h260 => ?_) (fun h260 => ?_)
        · have l261 : 123 ≤ z15.toInt := t_ltl h260 (by decide : (122:Int) ≤ (122:Int32).toInt) rfl
          refine ev_ic f_X12_isSmall (nx := 17) (v := 0) rfl (by decide) rfl ?_
          refine ev_retK1 f_X12_isSmall rfl rfl rfl ?_
          refine ev_t f_X12_ahead (t1 := 116) (t2 := 81) rfl rfl rfl (by decide) ?_
          refine ev_loc f_X12_ahead (nx := 117) rfl rfl rfl rfl ?_
          refine ev_inS1 f_X12_ahead (nx := 120) (lo2 := [(0, .int z15)]) rfl rfl rfl rfl f_X12_isDigit rfl rfl rfl rfl ?_
          refine ev_loc f_X12_isDigit (nx := 1) rfl rfl rfl rfl ?_
          refine ev_bp f_X12_isDigit (nx := 3) (v := 48) rfl (by decide) rfl ?_
          refine ev_f f_X12_isDigit (t1 := 16) (t2 := 6) rfl rfl rfl (t_ltF (by decide : (48:Int32).toInt ≤ (48:Int)) l261 (by decide)) ?_
          refine ev_loc f_X12_isDigit (nx := 7) rfl rfl rfl rfl ?_
          refine ev_bp f_X12_isDigit (nx := 9) (v := 57) rfl (by decide) rfl ?_
          refine ev_t f_X12_isDigit (t1 := 16) (t2 := 12) rfl rfl rfl (t_ltT (by decide : (57:Int32).toInt ≤ (57:Int)) l261 (by decide)) ?_
          refine ev_ic f_X12_isDigit (nx := 17) (v := 0) rfl (by decide) rfl ?_
          refine ev_retK1 f_X12_isDigit rfl rfl rfl ?_
          refine ev_t f_X12_ahead (t1 := 208) (t2 := 123) rfl rfl rfl (by decide) ?_
          refine ev_loc f_X12_ahead (nx := 209) rfl rfl rfl rfl ?_
          refine ev_alu f_X12_ahead (nx := 210) rfl rfl rfl rfl ?_
          refine ev_gvI f_X12_ahead (nx := 213) (w := (gi1 69 14)) rfl (hI.wf.s rfl) rfl rfl ((by rw [e16]; exact x_up2_off (Or.inr (by decide)) : g16 69 14 = g3 69 14).trans ((by rw [e3]; exact x_up2_off (Or.inr (by decide)) : g3 69 14 = gi1 69 14).trans rfl)) rfl ?_
          refine ev_ic f_X12_ahead (nx := 214) (v := 1) rfl (by decide) rfl ?_
          refine ev_addC f_X12_ahead (nx := 215) (c := 1) (l := 1) (u := 900) rfl (by decide) l2 u12 rfl rfl (by decide) (by decide) rfl (fun z262 e262 l262 u262 => ?_)
          refine ev_putIT f_X12_ahead (nx := 218) rfl (hI.wf.s rfl) rfl rfl rfl (hI.putB (hI.wf.s rfl) rfl rfl l262 (by decide) u262 (by decide)) (hX.upI rfl) (fun g263 e263 hI hX => ?_)
          refine ev_loc f_X12_ahead (nx := 219) rfl rfl rfl rfl ?_
          refine ev_loc f_X12_ahead (nx := 220) rfl rfl rfl rfl ?_
          refine ev_bp f_X12_ahead (nx := 222) (v := 59) rfl (by decide) rfl ?_
          refine ev_f f_X12_ahead (t1 := 255) (t2 := 225) rfl rfl rfl (t_neT' (by decide : (59:Int32).toInt ≤ (59:Int)) l261 (by decide)) ?_
          refine ev_loc f_X12_ahead (nx := 226) rfl rfl rfl rfl ?_
          refine ev_bp f_X12_ahead (nx := 228) (v := 60) rfl (by decide) rfl ?_
          refine ev_f f_X12_ahead (t1 := 255) (t2 := 231) rfl rfl rfl (t_neT' (by decide : (60:Int32).toInt ≤ (60:Int)) l261 (by decide)) ?_
          refine ev_loc f_X12_ahead (nx := 232) rfl rfl rfl rfl ?_
          refine ev_bp f_X12_ahead (nx := 234) (v := 62) rfl (by decide) rfl ?_
          refine ev_f f_X12_ahead (t1 := 255) (t2 := 237) rfl rfl rfl (t_neT' (by decide : (62:Int32).toInt ≤ (62:Int)) l261 (by decide)) ?_
          refine ev_loc f_X12_ahead (nx := 238) rfl rfl rfl rfl ?_
          refine ev_bp f_X12_ahead (nx := 240) (v := 61) rfl (by decide) rfl ?_
          refine ev_f f_X12_ahead (t1 := 255) (t2 := 243) rfl rfl rfl (t_neT' (by decide : (61:Int32).toInt ≤ (61:Int)) l261 (by decide)) ?_
          refine ev_loc f_X12_ahead (nx := 244) rfl rfl rfl rfl ?_
          refine ev_bp f_X12_ahead (nx := 246) (v := 40) rfl (by decide) rfl ?_
          refine ev_f f_X12_ahead (t1 := 255) (t2 := 249) rfl rfl rfl (t_neT' (by decide : (40:Int32).toInt ≤ (40:Int)) l261 (by decide)) ?_
          refine ev_loc f_X12_ahead (nx := 250) rfl rfl rfl rfl ?_
          refine ev_bp f_X12_ahead (nx := 252) (v := 41) rfl (by decide) rfl ?_
          refine ev_f f_X12_ahead (t1 := 255) (t2 := 259) rfl rfl rfl (t_neT' (by decide : (41:Int32).toInt ≤ (41:Int)) l261 (by decide)) ?_
          refine ev_ic f_X12_ahead (nx := 260) (v := 1) rfl (by decide) rfl ?_
          refine ev_putIT f_X12_ahead (nx := 263) rfl (hI.wf.s rfl) rfl rfl rfl (hI.putB (hI.wf.s rfl) rfl rfl (by decide : (1:Int) ≤ (1:Int32).toInt) (by decide) (by decide : (1:Int32).toInt ≤ (1:Int)) (by decide)) (hX.upI rfl) (fun g264 e264 hI hX => ?_)
          exact ev_ret f_X12_ahead rfl rfl rfl ⟨_, _, _, rfl, hI, hX, ⟨rfl, (show (gi 69 14).toInt ≤ (g264 69 14).toInt ∧ ((g264 69 12).toInt ≠ 0 → (gi 69 14).toInt < (g264 69 14).toInt) from (by have ff265 : (g264 69 14).toInt = z262.toInt := congrArg Int32.toInt ((by rw [e264]; exact x_up2_off (Or.inr (by decide)) : g264 69 14 = g263 69 14).trans (by rw [e263]; exact x_up2_at _ _ _ _ : g263 69 14 = z262)); have ff266 : (g264 69 12).toInt = 1 := (congrArg Int32.toInt (by rw [e264]; exact x_up2_at _ _ _ _ : g264 69 12 = 1)).trans (by decide); omega))⟩⟩
        · have u267 : z15.toInt ≤ 122 := t_leu (t_nlt h260) (by decide : (122:Int32).toInt ≤ (122:Int))
          refine ev_ic f_X12_isSmall (nx := 13) (v := 1) rfl (by decide) rfl ?_
          refine ev_jmp f_X12_isSmall (nx := 17) rfl rfl rfl ?_
          refine ev_retK1 f_X12_isSmall rfl rfl rfl ?_
          refine ev_f f_X12_ahead (t1 := 116) (t2 := 81) rfl rfl rfl (by decide) ?_
          refine ev_loc f_X12_ahead (nx := 82) rfl rfl rfl rfl ?_
          refine ev_loc f_X12_ahead (nx := 83) rfl rfl rfl rfl ?_
          refine ev_gvI f_X12_ahead (nx := 86) (w := (gi1 69 14)) rfl (hI.wf.s rfl) rfl rfl ((by rw [e16]; exact x_up2_off (Or.inr (by decide)) : g16 69 14 = g3 69 14).trans ((by rw [e3]; exact x_up2_off (Or.inr (by decide)) : g3 69 14 = gi1 69 14).trans rfl)) rfl ?_
          refine ev_inV2 f_X12_ahead (nx := 89) (lo2 := [(0, .ref 69), (1, .int (gi1 69 14))]) rfl rfl rfl rfl f_X12_byteAt (hI.wf.s rfl) rfl rfl rfl rfl rfl ?_
          refine ev_loc f_X12_byteAt (nx := 1) rfl rfl rfl rfl ?_
          refine ev_loc f_X12_byteAt (nx := 2) rfl rfl rfl rfl ?_
          refine ev_gvI f_X12_byteAt (nx := 5) (w := (g3 69 11)) rfl (hI.wf.s rfl) rfl rfl ((by rw [e16]; exact x_up2_off (Or.inr (by decide)) : g16 69 11 = g3 69 11).trans rfl) rfl ?_
          refine ev_if f_X12_byteAt (t1 := 21) (t2 := 8) rfl rfl rfl (fun h268 => ?_) (fun h268 => ?_)
          · have r269 : (g3 69 11).toInt ≤ (gi1 69 14).toInt := Int32.le_iff_toInt_le.mp h268
            have u270 : (g3 69 11).toInt ≤ 899 := t_leu h268 u12
            have l271 : 1 ≤ (gi1 69 14).toInt := t_lel h268 l13
            refine ev_ic f_X12_byteAt (nx := 22) (v := -1) rfl (by decide) rfl ?_
            refine ev_retK1 f_X12_byteAt rfl rfl rfl ?_
            refine ev_inS1 f_X12_ahead (nx := 92) (lo2 := [(0, .int (-1))]) rfl rfl rfl rfl f_X12_isSmall rfl rfl rfl rfl ?_
            refine ev_loc f_X12_isSmall (nx := 1) rfl rfl rfl rfl ?_
            refine ev_bp f_X12_isSmall (nx := 3) (v := 97) rfl (by decide) rfl ?_
            refine ev_t f_X12_isSmall (t1 := 16) (t2 := 6) rfl rfl rfl (by decide) ?_
            refine ev_ic f_X12_isSmall (nx := 17) (v := 0) rfl (by decide) rfl ?_
            refine ev_retK1 f_X12_isSmall rfl rfl rfl ?_
            refine ev_t f_X12_ahead (t1 := 108) (t2 := 95) rfl rfl rfl (by decide) ?_
            refine ev_loc f_X12_ahead (nx := 109) rfl rfl rfl rfl ?_
            refine ev_ic f_X12_ahead (nx := 110) (v := 2) rfl (by decide) rfl ?_
            refine ev_putIT f_X12_ahead (nx := 113) rfl (hI.wf.s rfl) rfl rfl rfl (hI.putB (hI.wf.s rfl) rfl rfl (by decide : (2:Int) ≤ (2:Int32).toInt) (by decide) (by decide : (2:Int32).toInt ≤ (2:Int)) (by decide)) (hX.upI rfl) (fun g272 e272 hI hX => ?_)
            refine ev_jmp f_X12_ahead (nx := 263) rfl rfl rfl ?_
            exact ev_ret f_X12_ahead rfl rfl rfl ⟨_, _, _, rfl, hI, hX, ⟨rfl, (show (gi 69 14).toInt ≤ (g272 69 14).toInt ∧ ((g272 69 12).toInt ≠ 0 → (gi 69 14).toInt < (g272 69 14).toInt) from (by have ff273 : (g272 69 14).toInt = (gi1 69 14).toInt := congrArg Int32.toInt ((by rw [e272]; exact x_up2_off (Or.inr (by decide)) : g272 69 14 = g16 69 14).trans ((by rw [e16]; exact x_up2_off (Or.inr (by decide)) : g16 69 14 = g3 69 14).trans ((by rw [e3]; exact x_up2_off (Or.inr (by decide)) : g3 69 14 = gi1 69 14).trans rfl))); have ff274 : (g272 69 12).toInt = 2 := (congrArg Int32.toInt (by rw [e272]; exact x_up2_at _ _ _ _ : g272 69 12 = 2)).trans (by decide); omega))⟩⟩
          · have r275 : (gi1 69 14).toInt < (g3 69 11).toInt := Int32.lt_iff_toInt_lt.mp (t_nle h268)
            refine ev_loc f_X12_byteAt (nx := 9) rfl rfl rfl rfl ?_
            refine ev_getR f_X12_byteAt (nx := 12) rfl (hI.wf.s rfl) rfl rfl (hI.wf.r rfl) rfl rfl ?_
            refine ev_loc f_X12_byteAt (nx := 13) rfl rfl rfl rfl ?_
            refine ev_baldT f_X12_byteAt (nx := 14) rfl (hI.wf.s rfl) rfl l2 (by decide) u12 (by decide) rfl (fun w276 e276 => ?_)
            rw [e276.trans ((by rw [e16]; exact x_up2_off (Or.inl (by decide)) : g16 76 (gi1 69 14).toNatClampNeg = g3 76 (gi1 69 14).toNatClampNeg).trans e14.symm)]
            refine ev_sp f_X12_byteAt (nx := 17) (v := 255) rfl (by decide) rfl ?_
            refine ev_andE f_X12_byteAt (nx := 18) (c := 255) rfl (by decide) (by decide) rfl (fun z277 e277 l277 u277 => ?_)
            rw [e277.trans e15.symm]
            refine ev_jmp f_X12_byteAt (nx := 22) rfl rfl rfl ?_
            refine ev_retK1 f_X12_byteAt rfl rfl rfl ?_
            refine ev_inS1 f_X12_ahead (nx := 92) (lo2 := [(0, .int z15)]) rfl rfl rfl rfl f_X12_isSmall rfl rfl rfl rfl ?_
            refine ev_loc f_X12_isSmall (nx := 1) rfl rfl rfl rfl ?_
            refine ev_bp f_X12_isSmall (nx := 3) (v := 97) rfl (by decide) rfl ?_
            refine ev_f f_X12_isSmall (t1 := 16) (t2 := 6) rfl rfl rfl (t_ltF (by decide : (97:Int32).toInt ≤ (97:Int)) l259 (by decide)) ?_
            refine ev_loc f_X12_isSmall (nx := 7) rfl rfl rfl rfl ?_
            refine ev_bp f_X12_isSmall (nx := 9) (v := 122) rfl (by decide) rfl ?_
            refine ev_f f_X12_isSmall (t1 := 16) (t2 := 12) rfl rfl rfl (t_ltF u267 (by decide : (122:Int) ≤ (122:Int32).toInt) (by decide)) ?_
            refine ev_ic f_X12_isSmall (nx := 13) (v := 1) rfl (by decide) rfl ?_
            refine ev_jmp f_X12_isSmall (nx := 17) rfl rfl rfl ?_
            refine ev_retK1 f_X12_isSmall rfl rfl rfl ?_
            refine ev_f f_X12_ahead (t1 := 108) (t2 := 95) rfl rfl rfl (by decide) ?_
            refine ev_loc f_X12_ahead (nx := 96) rfl rfl rfl rfl ?_
            refine ev_alu f_X12_ahead (nx := 97) rfl rfl rfl rfl ?_
            refine ev_gvI f_X12_ahead (nx := 100) (w := (gi1 69 14)) rfl (hI.wf.s rfl) rfl rfl ((by rw [e16]; exact x_up2_off (Or.inr (by decide)) : g16 69 14 = g3 69 14).trans ((by rw [e3]; exact x_up2_off (Or.inr (by decide)) : g3 69 14 = gi1 69 14).trans rfl)) rfl ?_
            refine ev_ic f_X12_ahead (nx := 101) (v := 1) rfl (by decide) rfl ?_
            refine ev_addC f_X12_ahead (nx := 102) (c := 1) (l := 1) (u := 900) rfl (by decide) l2 u12 rfl rfl (by decide) (by decide) rfl (fun z278 e278 l278 u278 => ?_)
            refine ev_putIT f_X12_ahead (nx := 105) rfl (hI.wf.s rfl) rfl rfl rfl (hI.putB (hI.wf.s rfl) rfl rfl l278 (by decide) u278 (by decide)) (hX.upI rfl) (fun g279 e279 hI hX => ?_)
            refine ev_jmp f_X12_ahead (nx := 81) rfl rfl rfl ?_
            have L280 : ∀ (m280 : Nat) (gi280 : Nat → Nat → Int32) (gl280 : Nat → Nat → Int64) (gr280 : Nat → Nat → Value), t_I sh gi280 gr280 → t_X wl_m_ahead sh gi gl gr gi280 gl280 gr280 → gi280 69 11 = (g3 69 11) → gi280 69 13 = (gi1 69 14) → gi280 69 15 = z15 → (gi 69 14).toInt < (gi280 69 14).toInt → (900 - (gi280 69 14).toInt).toNat = m280 → x_Ev X (d + 2) n_X12_ahead 81 [(1, .int z15), (0, .ref 69)] [] (sh, gi280, gl280, gr280) (t_PN wl_m_ahead sh gi gl gr (Q_m_ahead gi gl gr)) := by
              intro m280
              induction m280 using Nat.strongRecOn with
              | _ m280 ih280 =>
              intro gi280 gl280 gr280 hI hX c280_0 c280_1 c280_2 j280_0 hm280
              refine ev_loc f_X12_ahead (nx := 82) rfl rfl rfl rfl ?_
              refine ev_loc f_X12_ahead (nx := 83) rfl rfl rfl rfl ?_
              refine ev_getI f_X12_ahead (nx := 86) rfl (hI.wf.s rfl) rfl rfl rfl ?_
              obtain ⟨l281, u281⟩ := hI.b (hI.wf.s (k := 69) rfl) (rfl : t_bd 11 14 = some (0, 900))
              refine ev_inV2 f_X12_ahead (nx := 89) (lo2 := [(0, .ref 69), (1, .int (gi280 69 14))]) rfl rfl rfl rfl f_X12_byteAt (hI.wf.s rfl) rfl rfl rfl rfl rfl ?_
              refine ev_loc f_X12_byteAt (nx := 1) rfl rfl rfl rfl ?_
              refine ev_loc f_X12_byteAt (nx := 2) rfl rfl rfl rfl ?_
              refine ev_gvI f_X12_byteAt (nx := 5) (w := (g3 69 11)) rfl (hI.wf.s rfl) rfl rfl c280_0 rfl ?_
              refine ev_if f_X12_byteAt (t1 := 21) (t2 := 8) rfl rfl rfl (fun h282 => ?_) (fun h282 => ?_)
              · have r283 : (g3 69 11).toInt ≤ (gi280 69 14).toInt := Int32.le_iff_toInt_le.mp h282
                have l284 : 1 ≤ (gi280 69 14).toInt := t_lel h282 l13
                refine ev_ic f_X12_byteAt (nx := 22) (v := -1) rfl (by decide) rfl ?_
                refine ev_retK1 f_X12_byteAt rfl rfl rfl ?_
                refine ev_inS1 f_X12_ahead (nx := 92) (lo2 := [(0, .int (-1))]) rfl rfl rfl rfl f_X12_isSmall rfl rfl rfl rfl ?_
                refine ev_loc f_X12_isSmall (nx := 1) rfl rfl rfl rfl ?_
                refine ev_bp f_X12_isSmall (nx := 3) (v := 97) rfl (by decide) rfl ?_
                refine ev_t f_X12_isSmall (t1 := 16) (t2 := 6) rfl rfl rfl (by decide) ?_
                refine ev_ic f_X12_isSmall (nx := 17) (v := 0) rfl (by decide) rfl ?_
                refine ev_retK1 f_X12_isSmall rfl rfl rfl ?_
                refine ev_t f_X12_ahead (t1 := 108) (t2 := 95) rfl rfl rfl (by decide) ?_
                refine ev_loc f_X12_ahead (nx := 109) rfl rfl rfl rfl ?_
                refine ev_ic f_X12_ahead (nx := 110) (v := 2) rfl (by decide) rfl ?_
                refine ev_putIT f_X12_ahead (nx := 113) rfl (hI.wf.s rfl) rfl rfl rfl (hI.putB (hI.wf.s rfl) rfl rfl (by decide : (2:Int) ≤ (2:Int32).toInt) (by decide) (by decide : (2:Int32).toInt ≤ (2:Int)) (by decide)) (hX.upI rfl) (fun g285 e285 hI hX => ?_)
                refine ev_jmp f_X12_ahead (nx := 263) rfl rfl rfl ?_
                exact ev_ret f_X12_ahead rfl rfl rfl ⟨_, _, _, rfl, hI, hX, ⟨rfl, (show (gi 69 14).toInt ≤ (g285 69 14).toInt ∧ ((g285 69 12).toInt ≠ 0 → (gi 69 14).toInt < (g285 69 14).toInt) from (by have ff286 : (g285 69 14).toInt = (gi280 69 14).toInt := congrArg Int32.toInt ((by rw [e285]; exact x_up2_off (Or.inr (by decide)) : g285 69 14 = gi280 69 14).trans rfl); have ff287 : (g285 69 12).toInt = 2 := (congrArg Int32.toInt (by rw [e285]; exact x_up2_at _ _ _ _ : g285 69 12 = 2)).trans (by decide); omega))⟩⟩
              · have r288 : (gi280 69 14).toInt < (g3 69 11).toInt := Int32.lt_iff_toInt_lt.mp (t_nle h282)
                have u289 : (gi280 69 14).toInt ≤ 899 := t_ltu (t_nle h282) u4 rfl
                refine ev_loc f_X12_byteAt (nx := 9) rfl rfl rfl rfl ?_
                refine ev_getR f_X12_byteAt (nx := 12) rfl (hI.wf.s rfl) rfl rfl (hI.wf.r rfl) rfl rfl ?_
                refine ev_loc f_X12_byteAt (nx := 13) rfl rfl rfl rfl ?_
                refine ev_baldT f_X12_byteAt (nx := 14) rfl (hI.wf.s rfl) rfl l281 (by decide) u289 (by decide) rfl (fun w290 e290 => ?_)
                refine ev_sp f_X12_byteAt (nx := 17) (v := 255) rfl (by decide) rfl ?_
                refine ev_andE f_X12_byteAt (nx := 18) (c := 255) rfl (by decide) (by decide) rfl (fun z291 e291 l291 u291 => ?_)
                refine ev_jmp f_X12_byteAt (nx := 22) rfl rfl rfl ?_
                refine ev_retK1 f_X12_byteAt rfl rfl rfl ?_
                refine ev_inS1 f_X12_ahead (nx := 92) (lo2 := [(0, .int z291)]) rfl rfl rfl rfl f_X12_isSmall rfl rfl rfl rfl ?_
                refine ev_loc f_X12_isSmall (nx := 1) rfl rfl rfl rfl ?_
                refine ev_bp f_X12_isSmall (nx := 3) (v := 97) rfl (by decide) rfl ?_
                refine ev_if f_X12_isSmall (t1 := 16) (t2 := 6) rfl rfl rfl (fun h292 => ?_) (fun h292 => ?_)
                · have u293 : z291.toInt ≤ 96 := t_ltu h292 (by decide : (97:Int32).toInt ≤ (97:Int)) rfl
                  refine ev_ic f_X12_isSmall (nx := 17) (v := 0) rfl (by decide) rfl ?_
                  refine ev_retK1 f_X12_isSmall rfl rfl rfl ?_
                  refine ev_t f_X12_ahead (t1 := 108) (t2 := 95) rfl rfl rfl (by decide) ?_
                  refine ev_loc f_X12_ahead (nx := 109) rfl rfl rfl rfl ?_
                  refine ev_ic f_X12_ahead (nx := 110) (v := 2) rfl (by decide) rfl ?_
                  refine ev_putIT f_X12_ahead (nx := 113) rfl (hI.wf.s rfl) rfl rfl rfl (hI.putB (hI.wf.s rfl) rfl rfl (by decide : (2:Int) ≤ (2:Int32).toInt) (by decide) (by decide : (2:Int32).toInt ≤ (2:Int)) (by decide)) (hX.upI rfl) (fun g294 e294 hI hX => ?_)
                  refine ev_jmp f_X12_ahead (nx := 263) rfl rfl rfl ?_
                  exact ev_ret f_X12_ahead rfl rfl rfl ⟨_, _, _, rfl, hI, hX, ⟨rfl, (show (gi 69 14).toInt ≤ (g294 69 14).toInt ∧ ((g294 69 12).toInt ≠ 0 → (gi 69 14).toInt < (g294 69 14).toInt) from (by have ff295 : (g294 69 14).toInt = (gi280 69 14).toInt := congrArg Int32.toInt ((by rw [e294]; exact x_up2_off (Or.inr (by decide)) : g294 69 14 = gi280 69 14).trans rfl); have ff296 : (g294 69 12).toInt = 2 := (congrArg Int32.toInt (by rw [e294]; exact x_up2_at _ _ _ _ : g294 69 12 = 2)).trans (by decide); omega))⟩⟩
                · have l297 : 97 ≤ z291.toInt := t_lel (t_nlt h292) (by decide : (97:Int) ≤ (97:Int32).toInt)
                  refine ev_loc f_X12_isSmall (nx := 7) rfl rfl rfl rfl ?_
                  refine ev_bp f_X12_isSmall (nx := 9) (v := 122) rfl (by decide) rfl ?_
                  refine ev_if f_X12_isSmall (t1 := 16) (t2 := 12) rfl rfl rfl (fun h298 => ?_) (fun h298 => ?_)
                  · have l299 : 123 ≤ z291.toInt := t_ltl h298 (by decide : (122:Int) ≤ (122:Int32).toInt) rfl
                    refine ev_ic f_X12_isSmall (nx := 17) (v := 0) rfl (by decide) rfl ?_
                    refine ev_retK1 f_X12_isSmall rfl rfl rfl ?_
                    refine ev_t f_X12_ahead (t1 := 108) (t2 := 95) rfl rfl rfl (by decide) ?_
                    refine ev_loc f_X12_ahead (nx := 109) rfl rfl rfl rfl ?_
                    refine ev_ic f_X12_ahead (nx := 110) (v := 2) rfl (by decide) rfl ?_
                    refine ev_putIT f_X12_ahead (nx := 113) rfl (hI.wf.s rfl) rfl rfl rfl (hI.putB (hI.wf.s rfl) rfl rfl (by decide : (2:Int) ≤ (2:Int32).toInt) (by decide) (by decide : (2:Int32).toInt ≤ (2:Int)) (by decide)) (hX.upI rfl) (fun g300 e300 hI hX => ?_)
                    refine ev_jmp f_X12_ahead (nx := 263) rfl rfl rfl ?_
                    exact ev_ret f_X12_ahead rfl rfl rfl ⟨_, _, _, rfl, hI, hX, ⟨rfl, (show (gi 69 14).toInt ≤ (g300 69 14).toInt ∧ ((g300 69 12).toInt ≠ 0 → (gi 69 14).toInt < (g300 69 14).toInt) from (by have ff301 : (g300 69 14).toInt = (gi280 69 14).toInt := congrArg Int32.toInt ((by rw [e300]; exact x_up2_off (Or.inr (by decide)) : g300 69 14 = gi280 69 14).trans rfl); have ff302 : (g300 69 12).toInt = 2 := (congrArg Int32.toInt (by rw [e300]; exact x_up2_at _ _ _ _ : g300 69 12 = 2)).trans (by decide); omega))⟩⟩
                  · have u303 : z291.toInt ≤ 122 := t_leu (t_nlt h298) (by decide : (122:Int32).toInt ≤ (122:Int))
                    refine ev_ic f_X12_isSmall (nx := 13) (v := 1) rfl (by decide) rfl ?_
                    refine ev_jmp f_X12_isSmall (nx := 17) rfl rfl rfl ?_
                    refine ev_retK1 f_X12_isSmall rfl rfl rfl ?_
                    refine ev_f f_X12_ahead (t1 := 108) (t2 := 95) rfl rfl rfl (by decide) ?_
                    refine ev_loc f_X12_ahead (nx := 96) rfl rfl rfl rfl ?_
                    refine ev_alu f_X12_ahead (nx := 97) rfl rfl rfl rfl ?_
                    refine ev_gvI f_X12_ahead (nx := 100) (w := (gi280 69 14)) rfl (hI.wf.s rfl) rfl rfl rfl rfl ?_
                    refine ev_ic f_X12_ahead (nx := 101) (v := 1) rfl (by decide) rfl ?_
                    refine ev_addC f_X12_ahead (nx := 102) (c := 1) (l := 1) (u := 900) rfl (by decide) l281 u289 rfl rfl (by decide) (by decide) rfl (fun z304 e304 l304 u304 => ?_)
                    refine ev_putIT f_X12_ahead (nx := 105) rfl (hI.wf.s rfl) rfl rfl rfl (hI.putB (hI.wf.s rfl) rfl rfl l304 (by decide) u304 (by decide)) (hX.upI rfl) (fun g305 e305 hI hX => ?_)
                    refine ev_jmp f_X12_ahead (nx := 81) rfl rfl rfl ?_
                    refine ev_sub (lo := [(1, .int z15), (0, .ref 69)]) rfl (t_sc rfl (t_sc rfl t_sn)) ?_
                    exact ih280 _ (by have ff307 : (g305 69 14).toInt = z304.toInt := congrArg Int32.toInt (by rw [e305]; exact x_up2_at _ _ _ _ : g305 69 14 = z304); omega) g305 gl280 gr280  hI hX  ((by rw [e305]; exact x_up2_off (Or.inr (by decide)) : g305 69 11 = gi280 69 11).trans c280_0) ((by rw [e305]; exact x_up2_off (Or.inr (by decide)) : g305 69 13 = gi280 69 13).trans c280_1) ((by rw [e305]; exact x_up2_off (Or.inr (by decide)) : g305 69 15 = gi280 69 15).trans c280_2) (by have ff306 : (g305 69 14).toInt = z304.toInt := congrArg Int32.toInt (by rw [e305]; exact x_up2_at _ _ _ _ : g305 69 14 = z304); omega) rfl
            refine ev_sub (lo := [(1, .int z15), (0, .ref 69)]) rfl (t_sc rfl (t_sc rfl t_sn)) ?_
            exact L280 _ g279 gl1 gr1  hI hX  ((by rw [e279]; exact x_up2_off (Or.inr (by decide)) : g279 69 11 = g16 69 11).trans ((by rw [e16]; exact x_up2_off (Or.inr (by decide)) : g16 69 11 = g3 69 11).trans rfl)) ((by rw [e279]; exact x_up2_off (Or.inr (by decide)) : g279 69 13 = g16 69 13).trans ((by rw [e16]; exact x_up2_off (Or.inr (by decide)) : g16 69 13 = g3 69 13).trans (by rw [e3]; exact x_up2_at _ _ _ _ : g3 69 13 = (gi1 69 14)))) ((by rw [e279]; exact x_up2_off (Or.inr (by decide)) : g279 69 15 = g16 69 15).trans (by rw [e16]; exact x_up2_at _ _ _ _ : g16 69 15 = z15)) (by have ff308 : (g279 69 14).toInt = z278.toInt := congrArg Int32.toInt (by rw [e279]; exact x_up2_at _ _ _ _ : g279 69 14 = z278); omega) rfl
  have L309 : ∀ (m309 : Nat) (gi309 : Nat → Nat → Int32) (gl309 : Nat → Nat → Int64) (gr309 : Nat → Nat → Value), t_I sh gi309 gr309 → t_X wl_m_ahead sh gi gl gr gi309 gl309 gr309 → (gi 69 14).toInt ≤ (gi309 69 14).toInt → (900 - (gi309 69 14).toInt).toNat = m309 → x_Ev X (d + 2) n_X12_ahead 0 [(0, .ref 69)] [] (sh, gi309, gl309, gr309) (t_PN wl_m_ahead sh gi gl gr (Q_m_ahead gi gl gr)) := by
    intro m309
    induction m309 using Nat.strongRecOn with
    | _ m309 ih309 =>
    intro gi309 gl309 gr309 hI hX j309_0 hm309
    refine ev_loc f_X12_ahead (nx := 1) rfl rfl rfl rfl ?_
    refine ev_loc f_X12_ahead (nx := 2) rfl rfl rfl rfl ?_
    refine ev_getI f_X12_ahead (nx := 5) rfl (hI.wf.s rfl) rfl rfl rfl ?_
    obtain ⟨l310, u310⟩ := hI.b (hI.wf.s (k := 69) rfl) (rfl : t_bd 11 14 = some (0, 900))
    refine ev_inV2 f_X12_ahead (nx := 8) (lo2 := [(0, .ref 69), (1, .int (gi309 69 14))]) rfl rfl rfl rfl f_X12_byteAt (hI.wf.s rfl) rfl rfl rfl rfl rfl ?_
    refine ev_loc f_X12_byteAt (nx := 1) rfl rfl rfl rfl ?_
    refine ev_loc f_X12_byteAt (nx := 2) rfl rfl rfl rfl ?_
    refine ev_getI f_X12_byteAt (nx := 5) rfl (hI.wf.s rfl) rfl rfl rfl ?_
    obtain ⟨l311, u311⟩ := hI.b (hI.wf.s (k := 69) rfl) (rfl : t_bd 11 11 = some (0, 900))
    refine ev_if f_X12_byteAt (t1 := 21) (t2 := 8) rfl rfl rfl (fun h312 => ?_) (fun h312 => ?_)
    · have r313 : (gi309 69 11).toInt ≤ (gi309 69 14).toInt := Int32.le_iff_toInt_le.mp h312
      refine ev_ic f_X12_byteAt (nx := 22) (v := -1) rfl (by decide) rfl ?_
      refine ev_retK1 f_X12_byteAt rfl rfl rfl ?_
      refine ev_bp f_X12_ahead (nx := 10) (v := 32) rfl (by decide) rfl ?_
      refine ev_f f_X12_ahead (t1 := 26) (t2 := 13) rfl rfl rfl (by decide) ?_
      refine ev_loc f_X12_ahead (nx := 14) rfl rfl rfl rfl ?_
      refine ev_loc f_X12_ahead (nx := 15) rfl rfl rfl rfl ?_
      refine ev_gvI f_X12_ahead (nx := 18) (w := (gi309 69 14)) rfl (hI.wf.s rfl) rfl rfl rfl rfl ?_
      refine ev_inV2 f_X12_ahead (nx := 21) (lo2 := [(0, .ref 69), (1, .int (gi309 69 14))]) rfl rfl rfl rfl f_X12_byteAt (hI.wf.s rfl) rfl rfl rfl rfl rfl ?_
      refine ev_loc f_X12_byteAt (nx := 1) rfl rfl rfl rfl ?_
      refine ev_loc f_X12_byteAt (nx := 2) rfl rfl rfl rfl ?_
      refine ev_gvI f_X12_byteAt (nx := 5) (w := (gi309 69 11)) rfl (hI.wf.s rfl) rfl rfl rfl rfl ?_
      refine ev_if f_X12_byteAt (t1 := 21) (t2 := 8) rfl rfl rfl (fun h314 => ?_) (fun h314 => ?_)
      · have r315 : (gi309 69 11).toInt ≤ (gi309 69 14).toInt := Int32.le_iff_toInt_le.mp h314
        refine ev_ic f_X12_byteAt (nx := 22) (v := -1) rfl (by decide) rfl ?_
        refine ev_retK1 f_X12_byteAt rfl rfl rfl ?_
        refine ev_bp f_X12_ahead (nx := 23) (v := 10) rfl (by decide) rfl ?_
        refine ev_f f_X12_ahead (t1 := 26) (t2 := 39) rfl rfl rfl (by decide) ?_
        refine ev_sub (lo := [(0, .ref 69)]) rfl (t_sc rfl t_sn) ?_
        exact L1 gi309 gl309 gr309  hI hX  (by omega)
      · have r316 : (gi309 69 14).toInt < (gi309 69 11).toInt := Int32.lt_iff_toInt_lt.mp (t_nle h314)
        have u317 : (gi309 69 14).toInt ≤ 899 := t_ltu (t_nle h314) u311 rfl
        have l318 : 1 ≤ (gi309 69 11).toInt := t_ltl (t_nle h314) l310 rfl
        refine ev_loc f_X12_byteAt (nx := 9) rfl rfl rfl rfl ?_
        refine ev_getR f_X12_byteAt (nx := 12) rfl (hI.wf.s rfl) rfl rfl (hI.wf.r rfl) rfl rfl ?_
        refine ev_loc f_X12_byteAt (nx := 13) rfl rfl rfl rfl ?_
        refine ev_baldT f_X12_byteAt (nx := 14) rfl (hI.wf.s rfl) rfl l310 (by decide) u317 (by decide) rfl (fun w319 e319 => ?_)
        refine ev_sp f_X12_byteAt (nx := 17) (v := 255) rfl (by decide) rfl ?_
        refine ev_andE f_X12_byteAt (nx := 18) (c := 255) rfl (by decide) (by decide) rfl (fun z320 e320 l320 u320 => ?_)
        refine ev_jmp f_X12_byteAt (nx := 22) rfl rfl rfl ?_
        refine ev_retK1 f_X12_byteAt rfl rfl rfl ?_
        refine ev_bp f_X12_ahead (nx := 23) (v := 10) rfl (by decide) rfl ?_
        refine ev_if f_X12_ahead (t1 := 26) (t2 := 39) rfl rfl rfl (fun h321 => ?_) (fun h321 => ?_)
        · have u322 : z320.toInt ≤ 10 := t_equ h321 (by decide : (10:Int32).toInt ≤ (10:Int))
          have l323 : 10 ≤ z320.toInt := t_eql h321 (by decide : (10:Int) ≤ (10:Int32).toInt)
          refine ev_loc f_X12_ahead (nx := 27) rfl rfl rfl rfl ?_
          refine ev_alu f_X12_ahead (nx := 28) rfl rfl rfl rfl ?_
          refine ev_gvI f_X12_ahead (nx := 31) (w := (gi309 69 14)) rfl (hI.wf.s rfl) rfl rfl rfl rfl ?_
          refine ev_ic f_X12_ahead (nx := 32) (v := 1) rfl (by decide) rfl ?_
          refine ev_addC f_X12_ahead (nx := 33) (c := 1) (l := 1) (u := 900) rfl (by decide) l310 u317 rfl rfl (by decide) (by decide) rfl (fun z324 e324 l324 u324 => ?_)
          refine ev_putIT f_X12_ahead (nx := 36) rfl (hI.wf.s rfl) rfl rfl rfl (hI.putB (hI.wf.s rfl) rfl rfl l324 (by decide) u324 (by decide)) (hX.upI rfl) (fun g325 e325 hI hX => ?_)
          refine ev_jmp f_X12_ahead (nx := 0) rfl rfl rfl ?_
          refine ev_sub (lo := [(0, .ref 69)]) rfl (t_sc rfl t_sn) ?_
          exact ih309 _ (by have ff327 : (g325 69 14).toInt = z324.toInt := congrArg Int32.toInt (by rw [e325]; exact x_up2_at _ _ _ _ : g325 69 14 = z324); omega) g325 gl309 gr309  hI hX  (by have ff326 : (g325 69 14).toInt = z324.toInt := congrArg Int32.toInt (by rw [e325]; exact x_up2_at _ _ _ _ : g325 69 14 = z324); omega) rfl
        · have r328 : z320.toInt ≠ 10 := fun e => h321 (Int32.toInt_inj.mp (e.trans (by decide : (10:Int) = (10 : Int32).toInt)))
          refine ev_sub (lo := [(0, .ref 69)]) rfl (t_sc rfl t_sn) ?_
          exact L1 gi309 gl309 gr309  hI hX  (by omega)
    · have r329 : (gi309 69 14).toInt < (gi309 69 11).toInt := Int32.lt_iff_toInt_lt.mp (t_nle h312)
      have u330 : (gi309 69 14).toInt ≤ 899 := t_ltu (t_nle h312) u311 rfl
      have l331 : 1 ≤ (gi309 69 11).toInt := t_ltl (t_nle h312) l310 rfl
      refine ev_loc f_X12_byteAt (nx := 9) rfl rfl rfl rfl ?_
      refine ev_getR f_X12_byteAt (nx := 12) rfl (hI.wf.s rfl) rfl rfl (hI.wf.r rfl) rfl rfl ?_
      refine ev_loc f_X12_byteAt (nx := 13) rfl rfl rfl rfl ?_
      refine ev_baldT f_X12_byteAt (nx := 14) rfl (hI.wf.s rfl) rfl l310 (by decide) u330 (by decide) rfl (fun w332 e332 => ?_)
      refine ev_sp f_X12_byteAt (nx := 17) (v := 255) rfl (by decide) rfl ?_
      refine ev_andE f_X12_byteAt (nx := 18) (c := 255) rfl (by decide) (by decide) rfl (fun z333 e333 l333 u333 => ?_)
      refine ev_jmp f_X12_byteAt (nx := 22) rfl rfl rfl ?_
      refine ev_retK1 f_X12_byteAt rfl rfl rfl ?_
      refine ev_bp f_X12_ahead (nx := 10) (v := 32) rfl (by decide) rfl ?_
      refine ev_if f_X12_ahead (t1 := 26) (t2 := 13) rfl rfl rfl (fun h334 => ?_) (fun h334 => ?_)
      · have u335 : z333.toInt ≤ 32 := t_equ h334 (by decide : (32:Int32).toInt ≤ (32:Int))
        have l336 : 32 ≤ z333.toInt := t_eql h334 (by decide : (32:Int) ≤ (32:Int32).toInt)
        refine ev_loc f_X12_ahead (nx := 27) rfl rfl rfl rfl ?_
        refine ev_alu f_X12_ahead (nx := 28) rfl rfl rfl rfl ?_
        refine ev_gvI f_X12_ahead (nx := 31) (w := (gi309 69 14)) rfl (hI.wf.s rfl) rfl rfl rfl rfl ?_
        refine ev_ic f_X12_ahead (nx := 32) (v := 1) rfl (by decide) rfl ?_
        refine ev_addC f_X12_ahead (nx := 33) (c := 1) (l := 1) (u := 900) rfl (by decide) l310 u330 rfl rfl (by decide) (by decide) rfl (fun z337 e337 l337 u337 => ?_)
        refine ev_putIT f_X12_ahead (nx := 36) rfl (hI.wf.s rfl) rfl rfl rfl (hI.putB (hI.wf.s rfl) rfl rfl l337 (by decide) u337 (by decide)) (hX.upI rfl) (fun g338 e338 hI hX => ?_)
        refine ev_jmp f_X12_ahead (nx := 0) rfl rfl rfl ?_
        refine ev_sub (lo := [(0, .ref 69)]) rfl (t_sc rfl t_sn) ?_
        exact ih309 _ (by have ff340 : (g338 69 14).toInt = z337.toInt := congrArg Int32.toInt (by rw [e338]; exact x_up2_at _ _ _ _ : g338 69 14 = z337); omega) g338 gl309 gr309  hI hX  (by have ff339 : (g338 69 14).toInt = z337.toInt := congrArg Int32.toInt (by rw [e338]; exact x_up2_at _ _ _ _ : g338 69 14 = z337); omega) rfl
      · have r341 : z333.toInt ≠ 32 := fun e => h334 (Int32.toInt_inj.mp (e.trans (by decide : (32:Int) = (32 : Int32).toInt)))
        refine ev_loc f_X12_ahead (nx := 14) rfl rfl rfl rfl ?_
        refine ev_loc f_X12_ahead (nx := 15) rfl rfl rfl rfl ?_
        refine ev_gvI f_X12_ahead (nx := 18) (w := (gi309 69 14)) rfl (hI.wf.s rfl) rfl rfl rfl rfl ?_
        refine ev_inV2 f_X12_ahead (nx := 21) (lo2 := [(0, .ref 69), (1, .int (gi309 69 14))]) rfl rfl rfl rfl f_X12_byteAt (hI.wf.s rfl) rfl rfl rfl rfl rfl ?_
        refine ev_loc f_X12_byteAt (nx := 1) rfl rfl rfl rfl ?_
        refine ev_loc f_X12_byteAt (nx := 2) rfl rfl rfl rfl ?_
        refine ev_gvI f_X12_byteAt (nx := 5) (w := (gi309 69 11)) rfl (hI.wf.s rfl) rfl rfl rfl rfl ?_
        refine ev_if f_X12_byteAt (t1 := 21) (t2 := 8) rfl rfl rfl (fun h342 => ?_) (fun h342 => ?_)
        · have r343 : (gi309 69 11).toInt ≤ (gi309 69 14).toInt := Int32.le_iff_toInt_le.mp h342
          have u344 : (gi309 69 11).toInt ≤ 899 := t_leu h342 u330
          have l345 : 1 ≤ (gi309 69 14).toInt := t_lel h342 l331
          refine ev_ic f_X12_byteAt (nx := 22) (v := -1) rfl (by decide) rfl ?_
          refine ev_retK1 f_X12_byteAt rfl rfl rfl ?_
          refine ev_bp f_X12_ahead (nx := 23) (v := 10) rfl (by decide) rfl ?_
          refine ev_f f_X12_ahead (t1 := 26) (t2 := 39) rfl rfl rfl (by decide) ?_
          refine ev_sub (lo := [(0, .ref 69)]) rfl (t_sc rfl t_sn) ?_
          exact L1 gi309 gl309 gr309  hI hX  (by omega)
        · have r346 : (gi309 69 14).toInt < (gi309 69 11).toInt := Int32.lt_iff_toInt_lt.mp (t_nle h342)
          refine ev_loc f_X12_byteAt (nx := 9) rfl rfl rfl rfl ?_
          refine ev_getR f_X12_byteAt (nx := 12) rfl (hI.wf.s rfl) rfl rfl (hI.wf.r rfl) rfl rfl ?_
          refine ev_loc f_X12_byteAt (nx := 13) rfl rfl rfl rfl ?_
          refine ev_baldT f_X12_byteAt (nx := 14) rfl (hI.wf.s rfl) rfl l310 (by decide) u330 (by decide) rfl (fun w347 e347 => ?_)
          rw [e347.trans e332.symm]
          refine ev_sp f_X12_byteAt (nx := 17) (v := 255) rfl (by decide) rfl ?_
          refine ev_andE f_X12_byteAt (nx := 18) (c := 255) rfl (by decide) (by decide) rfl (fun z348 e348 l348 u348 => ?_)
          rw [e348.trans e333.symm]
          refine ev_jmp f_X12_byteAt (nx := 22) rfl rfl rfl ?_
          refine ev_retK1 f_X12_byteAt rfl rfl rfl ?_
          refine ev_bp f_X12_ahead (nx := 23) (v := 10) rfl (by decide) rfl ?_
          refine ev_if f_X12_ahead (t1 := 26) (t2 := 39) rfl rfl rfl (fun h349 => ?_) (fun h349 => ?_)
          · have u350 : z333.toInt ≤ 10 := t_equ h349 (by decide : (10:Int32).toInt ≤ (10:Int))
            have l351 : 10 ≤ z333.toInt := t_eql h349 (by decide : (10:Int) ≤ (10:Int32).toInt)
            refine ev_loc f_X12_ahead (nx := 27) rfl rfl rfl rfl ?_
            refine ev_alu f_X12_ahead (nx := 28) rfl rfl rfl rfl ?_
            refine ev_gvI f_X12_ahead (nx := 31) (w := (gi309 69 14)) rfl (hI.wf.s rfl) rfl rfl rfl rfl ?_
            refine ev_ic f_X12_ahead (nx := 32) (v := 1) rfl (by decide) rfl ?_
            refine ev_addC f_X12_ahead (nx := 33) (c := 1) (l := 1) (u := 900) rfl (by decide) l310 u330 rfl rfl (by decide) (by decide) rfl (fun z352 e352 l352 u352 => ?_)
            refine ev_putIT f_X12_ahead (nx := 36) rfl (hI.wf.s rfl) rfl rfl rfl (hI.putB (hI.wf.s rfl) rfl rfl l352 (by decide) u352 (by decide)) (hX.upI rfl) (fun g353 e353 hI hX => ?_)
            refine ev_jmp f_X12_ahead (nx := 0) rfl rfl rfl ?_
            refine ev_sub (lo := [(0, .ref 69)]) rfl (t_sc rfl t_sn) ?_
            exact ih309 _ (by have ff355 : (g353 69 14).toInt = z352.toInt := congrArg Int32.toInt (by rw [e353]; exact x_up2_at _ _ _ _ : g353 69 14 = z352); omega) g353 gl309 gr309  hI hX  (by have ff354 : (g353 69 14).toInt = z352.toInt := congrArg Int32.toInt (by rw [e353]; exact x_up2_at _ _ _ _ : g353 69 14 = z352); omega) rfl
          · have r356 : z333.toInt ≠ 10 := fun e => h349 (Int32.toInt_inj.mp (e.trans (by decide : (10:Int) = (10 : Int32).toInt)))
            refine ev_sub (lo := [(0, .ref 69)]) rfl (t_sc rfl t_sn) ?_
            exact L1 gi309 gl309 gr309  hI hX  (by omega)
  refine ev_sub (lo := [(0, .ref 69)]) rfl (t_sc rfl t_sn) ?_
  exact L309 _ gi gl gr  hI hX  (by omega) rfl
