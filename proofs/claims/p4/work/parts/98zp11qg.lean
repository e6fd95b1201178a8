/-! ===== printed by riv.py: fractions ===== -/
noncomputable def wl_q_commonDivisor : List (Nat × Nat) := []
noncomputable def Q_q_commonDivisor (gi : Nat → Nat → Int32) (gl : Nat → Nat → Int64) (gr : Nat → Nat → Value) (ar0 : Int32) (ar1 : Int32) : Int32 → (Nat → Nat → Int32) → (Nat → Nat → Int64) → (Nat → Nat → Value) → Prop := fun (v : Int32) (gi2 : Nat → Nat → Int32) (gl2 : Nat → Nat → Int64) (gr2 : Nat → Nat → Value) => (0 ≤ ar0.toInt → ar0.toInt ≤ ar1.toInt → ar1.toInt ≤ 500 → v.toInt = s_gc ar1.toInt ar0.toInt)
theorem c_q_commonDivisor {X : x_Ext} {d : Nat} {sh : List (Nat ⊕ (Nat × Nat))} {gi : Nat → Nat → Int32} {gl : Nat → Nat → Int64} {gr : Nat → Nat → Value} (hI : t_I sh gi gr) (ar0 : Int32) (ar1 : Int32) : x_Me X (d + 1) n_X11_commonDivisor [.int ar0, .int ar1] (sh, gi, gl, gr) (t_PI wl_q_commonDivisor sh gi gl gr (-2147483648) 2147483647 (Q_q_commonDivisor gi gl gr ar0 ar1)) := by
  have hX : t_X wl_q_commonDivisor sh gi gl gr gi gl gr := t_X.rf
  refine me_s f_X11_commonDivisor rfl rfl ?_
  refine ev_loc f_X11_commonDivisor (nx := 1) rfl rfl rfl rfl ?_
  refine ev_loc f_X11_commonDivisor (nx := 2) (lo' := [(2, .int ar1), (0, .int ar0), (1, .int ar1)]) rfl rfl rfl rfl ?_
  refine ev_loc f_X11_commonDivisor (nx := 3) rfl rfl rfl rfl ?_
  refine ev_loc f_X11_commonDivisor (nx := 4) (lo' := [(3, .int ar0), (2, .int ar1), (0, .int ar0), (1, .int ar1)]) rfl rfl rfl rfl ?_
  refine ev_ic f_X11_commonDivisor (nx := 5) (v := 0) rfl (by decide) rfl ?_
  refine ev_loc f_X11_commonDivisor (nx := 7) (lo' := [(4, .int 0), (3, .int ar0), (2, .int ar1), (0, .int ar0), (1, .int ar1)]) rfl rfl rfl rfl ?_
  have L1 : ∀ (m1 : Nat) (gi1 : Nat → Nat → Int32) (gl1 : Nat → Nat → Int64) (gr1 : Nat → Nat → Value) (y1_4 : Int32) (y1_3 : Int32) (y1_2 : Int32), t_I sh gi1 gr1 → t_X wl_q_commonDivisor sh gi gl gr gi1 gl1 gr1 → 0 ≤ y1_4.toInt → y1_4.toInt ≤ 64 → (0 ≤ ar0.toInt → ar0.toInt ≤ ar1.toInt → ar1.toInt ≤ 500 → s_eu (64 - y1_4.toNatClampNeg) y1_2.toInt.toNat y1_3.toInt.toNat = s_eu 64 ar1.toInt.toNat ar0.toInt.toNat ∧ 0 ≤ y1_3.toInt ∧ y1_3.toInt ≤ y1_2.toInt) → (64 - y1_4.toInt).toNat = m1 → x_Ev X (d + 1) n_X11_commonDivisor 7 [(4, .int y1_4), (3, .int y1_3), (2, .int y1_2), (0, .int ar0), (1, .int ar1)] [] (sh, gi1, gl1, gr1) (t_PI wl_q_commonDivisor sh gi gl gr (-2147483648) 2147483647 (Q_q_commonDivisor gi gl gr ar0 ar1)) := by
    intro m1
    induction m1 using Nat.strongRecOn with
    | _ m1 ih1 =>
    intro gi1 gl1 gr1 y1_4 y1_3 y1_2 hI hX l1_4 u1_4 j1_0 hm1
    refine ev_loc f_X11_commonDivisor (nx := 9) rfl rfl rfl rfl ?_
    refine ev_bp f_X11_commonDivisor (nx := 11) (v := 64) rfl (by decide) rfl ?_
    refine ev_if f_X11_commonDivisor (t1 := 34) (t2 := 14) rfl rfl rfl (fun h2 => ?_) (fun h2 => ?_)
    · have l3 : 64 ≤ y1_4.toInt := t_lel h2 (by decide : (64:Int) ≤ (64:Int32).toInt)
      refine ev_loc f_X11_commonDivisor (nx := 35) rfl rfl rfl rfl ?_
      exact ev_ret f_X11_commonDivisor rfl rfl rfl ⟨_, _, _, rfl, hI, hX, ⟨_, rfl, (t_lo y1_2), (t_hi y1_2), (show (0 ≤ ar0.toInt → ar0.toInt ≤ ar1.toInt → ar1.toInt ≤ 500 → y1_2.toInt = s_gc ar1.toInt ar0.toInt) from (fun h0 h1 h2 => (by
                                                            obtain ⟨g1, g2, g3⟩ := j1_0 h0 h1 h2
                                                            have cy := t_clamp (i := y1_4) (by omega)
                                                            exact s_eu_e h0 h1 h2 g1 (by omega) (Or.inl (by omega)))))⟩⟩
    · have u4 : y1_4.toInt ≤ 63 := t_ltu (t_nle h2) (by decide : (64:Int32).toInt ≤ (64:Int)) rfl
      refine ev_loc f_X11_commonDivisor (nx := 15) rfl rfl rfl rfl ?_
      refine ev_if f_X11_commonDivisor (t1 := 34) (t2 := 18) rfl rfl rfl (fun h5 => ?_) (fun h5 => ?_)
      · have u6 : y1_3.toInt ≤ 0 := t_equ h5 (by decide : (0:Int32).toInt ≤ (0:Int))
        have l7 : 0 ≤ y1_3.toInt := t_eql h5 (by decide : (0:Int) ≤ (0:Int32).toInt)
        refine ev_loc f_X11_commonDivisor (nx := 35) rfl rfl rfl rfl ?_
        exact ev_ret f_X11_commonDivisor rfl rfl rfl ⟨_, _, _, rfl, hI, hX, ⟨_, rfl, (t_lo y1_2), (t_hi y1_2), (show (0 ≤ ar0.toInt → ar0.toInt ≤ ar1.toInt → ar1.toInt ≤ 500 → y1_2.toInt = s_gc ar1.toInt ar0.toInt) from (fun h0 h1 h2 => (by
                                                            obtain ⟨g1, g2, g3⟩ := j1_0 h0 h1 h2
                                                            have cy := t_clamp (i := y1_4) (by omega)
                                                            exact s_eu_e h0 h1 h2 g1 (by omega) (Or.inr (by omega)))))⟩⟩
      · have r8 : y1_3.toInt ≠ 0 := fun e => h5 (Int32.toInt_inj.mp (e.trans (by decide : (0:Int) = (0 : Int32).toInt)))
        refine ev_loc f_X11_commonDivisor (nx := 19) rfl rfl rfl rfl ?_
        refine ev_loc f_X11_commonDivisor (nx := 20) rfl rfl rfl rfl ?_
        refine ev_remN f_X11_commonDivisor (nx := 21) rfl h5 rfl (fun z9 e9 => ?_)
        refine ev_loc f_X11_commonDivisor (nx := 23) (lo' := [(5, .int z9), (4, .int y1_4), (3, .int y1_3), (2, .int y1_2), (0, .int ar0), (1, .int ar1)]) rfl rfl rfl rfl ?_
        refine ev_loc f_X11_commonDivisor (nx := 24) rfl rfl rfl rfl ?_
        refine ev_loc f_X11_commonDivisor (nx := 25) (lo' := [(2, .int y1_3), (5, .int z9), (4, .int y1_4), (3, .int y1_3), (0, .int ar0), (1, .int ar1)]) rfl rfl rfl rfl ?_
        refine ev_loc f_X11_commonDivisor (nx := 27) rfl rfl rfl rfl ?_
        refine ev_loc f_X11_commonDivisor (nx := 28) (lo' := [(3, .int z9), (2, .int y1_3), (5, .int z9), (4, .int y1_4), (0, .int ar0), (1, .int ar1)]) rfl rfl rfl rfl ?_
        refine ev_incR f_X11_commonDivisor (nx := 31) (c := 1) (l := 1) (u := 64) rfl rfl (by decide) (by decide) l1_4 u4 rfl rfl (by decide) (by decide) rfl (fun z10 e10 l10 u10 => ?_)
        refine ev_jmp f_X11_commonDivisor (nx := 7) rfl rfl rfl ?_
        refine ev_sub (lo := [(4, .int z10), (3, .int z9), (2, .int y1_3), (0, .int ar0), (1, .int ar1)]) rfl (t_sc rfl (t_sc rfl (t_sc rfl (t_sc rfl (t_sc rfl t_sn))))) ?_
        exact ih1 _ (by omega) gi1 gl1 gr1 (z10) (z9) (y1_3) hI hX  (Int.le_trans (by decide : (0:Int) ≤ 1) l10) u10 (fun h0 h1 h2 => (by
                                                            obtain ⟨g1, g2, g3⟩ := j1_0 h0 h1 h2
                                                            have cy := t_clamp (i := y1_4) (by omega)
                                                            have cx := t_clamp (i := z10) (by omega)
                                                            have hz : z9.toInt = y1_2.toInt % y1_3.toInt := t_rm e9 rfl (by omega) rfl (by omega)
                                                            obtain ⟨k1, k2, k3⟩ := s_eu_n (d := y1_2.toInt) (r := y1_3.toInt) (v := 0) (w := 0) (by omega) g3 (by omega) g1
                                                            rw [← hz] at k1 k2 k3
                                                            rw [show z10.toNatClampNeg = y1_4.toNatClampNeg + 1 by omega]
                                                            exact ⟨k1, k2, k3⟩)) rfl
  refine ev_sub (lo := [(4, .int 0), (3, .int ar0), (2, .int ar1), (0, .int ar0), (1, .int ar1)]) rfl (t_sc rfl (t_sc rfl (t_sc rfl (t_sc rfl (t_sc rfl t_sn))))) ?_
  exact L1 _ gi gl gr (0) (ar0) (ar1) hI hX  (by decide : (0:Int) ≤ (0:Int32).toInt) (Int.le_trans (by decide : (0:Int32).toInt ≤ (0:Int)) (by decide : (0:Int) ≤ 64)) (fun h0 h1 h2 => (by
                                                            have z0 : (0 : Int32).toInt = 0 := rfl
                                                            exact ⟨rfl, by omega, by omega⟩)) rfl
noncomputable def wl_q_tellFraction : List (Nat × Nat) := [(0, 1), (0, 2)]
noncomputable def Q_q_tellFraction (gi : Nat → Nat → Int32) (gl : Nat → Nat → Int64) (gr : Nat → Nat → Value) (ar1 : Int32) (ar2 : Int32) : (Nat → Nat → Int32) → (Nat → Nat → Int64) → (Nat → Nat → Value) → Prop := fun (gi2 : Nat → Nat → Int32) (gl2 : Nat → Nat → Int64) (gr2 : Nat → Nat → Value) => (0 ≤ ar1.toInt → ar1.toInt ≤ ar2.toInt → 1 ≤ ar2.toInt → ar2.toInt ≤ 500 → (gl2 0 1).toInt = ar1.toInt / s_gc ar2.toInt ar1.toInt ∧ (gl2 0 2).toInt = ar2.toInt / s_gc ar2.toInt ar1.toInt)
theorem c_q_tellFraction {X : x_Ext} {d : Nat} {sh : List (Nat ⊕ (Nat × Nat))} {gi : Nat → Nat → Int32} {gl : Nat → Nat → Int64} {gr : Nat → Nat → Value} (hI : t_I sh gi gr) (ar1 : Int32) (ar2 : Int32) : x_Me X (d + 2) n_X11_tellFraction [.ref 0, .int ar1, .int ar2] (sh, gi, gl, gr) (t_PN wl_q_tellFraction sh gi gl gr (Q_q_tellFraction gi gl gr ar1 ar2)) := by
  have hX : t_X wl_q_tellFraction sh gi gl gr gi gl gr := t_X.rf
  refine me_i f_X11_tellFraction (hI.wf.s rfl) rfl rfl rfl ?_
  refine ev_loc f_X11_tellFraction (nx := 1) rfl rfl rfl rfl ?_
  refine ev_loc f_X11_tellFraction (nx := 2) rfl rfl rfl rfl ?_
  refine ev_qI0 f_X11_tellFraction (nx := 5) (r := []) rfl rfl rfl rfl rfl rfl rfl (c_q_commonDivisor hI (ar1) (ar2)) rfl (fun w1 l1 u1 q1 => ?_)
  have q1 : (0 ≤ ar1.toInt → ar1.toInt ≤ ar2.toInt → ar2.toInt ≤ 500 → w1.toInt = s_gc ar2.toInt ar1.toInt) := q1
  refine ev_loc f_X11_tellFraction (nx := 6) (lo' := [(3, .int w1), (0, .ref 0), (1, .int ar1), (2, .int ar2)]) rfl rfl rfl rfl ?_
  refine ev_loc f_X11_tellFraction (nx := 7) rfl rfl rfl rfl ?_
  refine ev_if f_X11_tellFraction (t1 := 26) (t2 := 10) rfl rfl rfl (fun h2 => ?_) (fun h2 => ?_)
  · have u3 : w1.toInt ≤ 0 := t_leu h2 (by decide : (0:Int32).toInt ≤ (0:Int))
    exact ev_ret f_X11_tellFraction rfl rfl rfl ⟨_, _, _, rfl, hI, hX, ⟨rfl, (show (0 ≤ ar1.toInt → ar1.toInt ≤ ar2.toInt → 1 ≤ ar2.toInt → ar2.toInt ≤ 500 → (gl 0 1).toInt = ar1.toInt / s_gc ar2.toInt ar1.toInt ∧ (gl 0 2).toInt = ar2.toInt / s_gc ar2.toInt ar1.toInt) from (fun h0 h1 h2 h3 => (by
                                                            have hq := q1 h0 h1 h3
                                                            have hg : 1 ≤ s_gc ar2.toInt ar1.toInt := s_gc_pos1 h2
                                                            exfalso; omega)))⟩⟩
  · have l4 : 1 ≤ w1.toInt := t_ltl (t_nle h2) (by decide : (0:Int) ≤ (0:Int32).toInt) rfl
    refine ev_loc f_X11_tellFraction (nx := 11) rfl rfl rfl rfl ?_
    refine ev_loc f_X11_tellFraction (nx := 12) rfl rfl rfl rfl ?_
    refine ev_loc f_X11_tellFraction (nx := 13) rfl rfl rfl rfl ?_
    refine ev_divN f_X11_tellFraction (nx := 14) rfl (t_neT' (by decide : (0:Int32).toInt ≤ 0) l4 (by decide)) rfl (fun z5 e5 => ?_)
    refine ev_anyLE f_X11_tellFraction (nx := 15) rfl rfl rfl rfl (fun z6 e6 => ?_)
    have i6 : z6.toInt = z5.toInt := by rw [e6]; exact Int32.toInt_toInt64 _
    refine ev_putLT f_X11_tellFraction (nx := 18) rfl (hI.wf.s rfl) rfl rfl rfl (hX.upL rfl) (fun g7 e7 hX => ?_)
    refine ev_loc f_X11_tellFraction (nx := 19) rfl rfl rfl rfl ?_
    refine ev_loc f_X11_tellFraction (nx := 20) rfl rfl rfl rfl ?_
    refine ev_loc f_X11_tellFraction (nx := 21) rfl rfl rfl rfl ?_
    refine ev_divN f_X11_tellFraction (nx := 22) rfl (t_neT' (by decide : (0:Int32).toInt ≤ 0) l4 (by decide)) rfl (fun z8 e8 => ?_)
    refine ev_anyLE f_X11_tellFraction (nx := 23) rfl rfl rfl rfl (fun z9 e9 => ?_)
    have i9 : z9.toInt = z8.toInt := by rw [e9]; exact Int32.toInt_toInt64 _
    refine ev_putLT f_X11_tellFraction (nx := 26) rfl (hI.wf.s rfl) rfl rfl rfl (hX.upL rfl) (fun g10 e10 hX => ?_)
    exact ev_ret f_X11_tellFraction rfl rfl rfl ⟨_, _, _, rfl, hI, hX, ⟨rfl, (show (0 ≤ ar1.toInt → ar1.toInt ≤ ar2.toInt → 1 ≤ ar2.toInt → ar2.toInt ≤ 500 → (g10 0 1).toInt = ar1.toInt / s_gc ar2.toInt ar1.toInt ∧ (g10 0 2).toInt = ar2.toInt / s_gc ar2.toInt ar1.toInt) from (fun h0 h1 h2 h3 => (by
                                                            have hq := q1 h0 h1 h3
                                                            have hg : 1 ≤ s_gc ar2.toInt ar1.toInt := s_gc_pos1 h2
                                                            have k1 : z5.toInt = ar1.toInt / s_gc ar2.toInt ar1.toInt := t_dv e5 rfl h0 hq hg
                                                            have k2 : z8.toInt = ar2.toInt / s_gc ar2.toInt ar1.toInt := t_dv e8 rfl (by omega) hq hg
                                                            refine ⟨?_, ?_⟩
                                                            · rw [e10, x_up2_off (Or.inr (by decide)), e7, x_up2_at, i6]; exact k1
                                                            · rw [e10, x_up2_at, i9]; exact k2)))⟩⟩
noncomputable def wl_r_tellsBy : List (Nat × Nat) := [(69, 2), (69, 3), (69, 4)]
noncomputable def Q_r_tellsBy (gi : Nat → Nat → Int32) (gl : Nat → Nat → Int64) (gr : Nat → Nat → Value) (ar1 : Int64) (ar2 : Int64) : Int32 → (Nat → Nat → Int32) → (Nat → Nat → Int64) → (Nat → Nat → Value) → Prop := fun (v : Int32) (gi2 : Nat → Nat → Int32) (gl2 : Nat → Nat → Int64) (gr2 : Nat → Nat → Value) => (0 ≤ ar1.toInt → ar1.toInt ≤ ar2.toInt → 1 ≤ ar2.toInt → (gl2 69 3).toInt = ar1.toInt / s_gc ar2.toInt ar1.toInt ∧ (gl2 69 4).toInt = ar2.toInt / s_gc ar2.toInt ar1.toInt)
theorem c_r_tellsBy {X : x_Ext} {d : Nat} {sh : List (Nat ⊕ (Nat × Nat))} {gi : Nat → Nat → Int32} {gl : Nat → Nat → Int64} {gr : Nat → Nat → Value} (hI : t_I sh gi gr) (ar1 : Int64) (ar2 : Int64) (e_p0 : 0 ≤ ar1.toInt) (e_p1 : 0 < ar2.toInt) : x_Me X (d + 2) n_X12_tellsBy [.ref 69, .long ar1, .long ar2] (sh, gi, gl, gr) (t_PI wl_r_tellsBy sh gi gl gr 1 1 (Q_r_tellsBy gi gl gr ar1 ar2)) := by
  have hX : t_X wl_r_tellsBy sh gi gl gr gi gl gr := t_X.rf
  refine me_i f_X12_tellsBy (hI.wf.s rfl) rfl rfl rfl ?_
  refine ev_loc f_X12_tellsBy (nx := 1) rfl rfl rfl rfl ?_
  refine ev_loc f_X12_tellsBy (nx := 3) (lo' := [(5, .long ar1), (0, .ref 69), (1, .long ar1), (3, .long ar2)]) rfl rfl rfl rfl ?_
  refine ev_loc f_X12_tellsBy (nx := 4) rfl rfl rfl rfl ?_
  refine ev_loc f_X12_tellsBy (nx := 6) (lo' := [(7, .long ar2), (5, .long ar1), (0, .ref 69), (1, .long ar1), (3, .long ar2)]) rfl rfl rfl rfl ?_
  have L1 : ∀ (m1 : Nat) (gi1 : Nat → Nat → Int32) (gl1 : Nat → Nat → Int64) (gr1 : Nat → Nat → Value) (y1_7 : Int64) (y1_5 : Int64), t_I sh gi1 gr1 → t_X wl_r_tellsBy sh gi gl gr gi1 gl1 gr1 → 0 ≤ y1_5.toInt → 0 ≤ y1_7.toInt → (0 < y1_5.toInt ∨ 0 < y1_7.toInt) → (0 ≤ ar1.toInt → ar1.toInt ≤ ar2.toInt → 1 ≤ ar2.toInt → Nat.gcd y1_5.toInt.toNat y1_7.toInt.toNat = Nat.gcd ar1.toInt.toNat ar2.toInt.toNat) → y1_7.toInt.toNat = m1 → x_Ev X (d + 2) n_X12_tellsBy 6 [(7, .long y1_7), (5, .long y1_5), (0, .ref 69), (1, .long ar1), (3, .long ar2)] [] (sh, gi1, gl1, gr1) (t_PI wl_r_tellsBy sh gi gl gr 1 1 (Q_r_tellsBy gi gl gr ar1 ar2)) := by
    intro m1
    induction m1 using Nat.strongRecOn with
    | _ m1 ih1 =>
    intro gi1 gl1 gr1 y1_7 y1_5 hI hX j1_0 j1_1 j1_2 j1_3 hm1
    refine ev_loc f_X12_tellsBy (nx := 8) rfl rfl rfl rfl ?_
    refine ev_lc f_X12_tellsBy (nx := 9) (v := 0) rfl (by decide) rfl ?_
    refine ev_anyIE f_X12_tellsBy (nx := 10) rfl rfl rfl rfl (fun z2 e2 => ?_)
    refine ev_if f_X12_tellsBy (t1 := 31) (t2 := 13) rfl rfl rfl (fun h3 => ?_) (fun h3 => ?_)
    · have u4 : z2.toInt ≤ 0 := t_equ h3 (by decide : (0:Int32).toInt ≤ (0:Int))
      have l5 : 0 ≤ z2.toInt := t_eql h3 (by decide : (0:Int) ≤ (0:Int32).toInt)
      refine ev_loc f_X12_tellsBy (nx := 32) rfl rfl rfl rfl ?_
      refine ev_loc f_X12_tellsBy (nx := 33) rfl rfl rfl rfl ?_
      refine ev_loc f_X12_tellsBy (nx := 35) rfl rfl rfl rfl ?_
      refine ev_ldivN f_X12_tellsBy (nx := 36) rfl (t_lne (by have := t_lz e2 h3; omega)) rfl (fun z6 e6 => ?_)
      refine ev_putLT f_X12_tellsBy (nx := 39) rfl (hI.wf.s rfl) rfl rfl rfl (hX.upL rfl) (fun g7 e7 hX => ?_)
      refine ev_loc f_X12_tellsBy (nx := 40) rfl rfl rfl rfl ?_
      refine ev_loc f_X12_tellsBy (nx := 41) rfl rfl rfl rfl ?_
      refine ev_loc f_X12_tellsBy (nx := 43) rfl rfl rfl rfl ?_
      refine ev_ldivN f_X12_tellsBy (nx := 44) rfl (t_lne (by have := t_lz e2 h3; omega)) rfl (fun z8 e8 => ?_)
      refine ev_putLT f_X12_tellsBy (nx := 47) rfl (hI.wf.s rfl) rfl rfl rfl (hX.upL rfl) (fun g9 e9 hX => ?_)
      refine ev_loc f_X12_tellsBy (nx := 48) rfl rfl rfl rfl ?_
      refine ev_ic f_X12_tellsBy (nx := 49) (v := 0) rfl (by decide) rfl ?_
      refine ev_inV2 f_X12_tellsBy (nx := 52) (lo2 := [(0, .ref 69), (1, .int 0)]) rfl rfl rfl rfl f_X12_is (hI.wf.s rfl) rfl rfl rfl rfl rfl ?_
      refine ev_loc f_X12_is (nx := 1) rfl rfl rfl rfl ?_
      refine ev_loc f_X12_is (nx := 2) rfl rfl rfl rfl ?_
      refine ev_putIT f_X12_is (nx := 5) rfl (hI.wf.s rfl) rfl rfl rfl (hI.put0 (hI.wf.s rfl) rfl rfl) (hX.upI rfl) (fun g10 e10 hI hX => ?_)
      refine ev_loc f_X12_is (nx := 6) rfl rfl rfl rfl ?_
      refine ev_t f_X12_is (t1 := 9) (t2 := 13) rfl rfl rfl (by decide) ?_
      refine ev_ic f_X12_is (nx := 10) (v := 1) rfl (by decide) rfl ?_
      refine ev_jmp f_X12_is (nx := 14) rfl rfl rfl ?_
      refine ev_retK1 f_X12_is rfl rfl rfl ?_
      exact ev_ret f_X12_tellsBy rfl rfl rfl ⟨_, _, _, rfl, hI, hX, ⟨_, rfl, (by decide : (1:Int) ≤ (1:Int32).toInt), (by decide : (1:Int32).toInt ≤ (1:Int)), (show (0 ≤ ar1.toInt → ar1.toInt ≤ ar2.toInt → 1 ≤ ar2.toInt → (g9 69 3).toInt = ar1.toInt / s_gc ar2.toInt ar1.toInt ∧ (g9 69 4).toInt = ar2.toInt / s_gc ar2.toInt ar1.toInt) from (fun h0 h1 h2 => (by
                                                            have hb0 := t_lz e2 h3
                                                            have hq : y1_5.toInt = s_gc ar2.toInt ar1.toInt := s_gcd_e (j1_3 h0 h1 h2) (by omega) (by omega)
                                                            have hg : 1 ≤ s_gc ar2.toInt ar1.toInt := s_gc_pos1 h2
                                                            have k1 : z6.toInt = ar1.toInt / s_gc ar2.toInt ar1.toInt := t_dvL e6 rfl h0 hq hg
                                                            have k2 : z8.toInt = ar2.toInt / s_gc ar2.toInt ar1.toInt := t_dvL e8 rfl (by omega) hq hg
                                                            refine ⟨?_, ?_⟩
                                                            · rw [e9, x_up2_off (Or.inr (by decide)), e7, x_up2_at]; exact k1
                                                            · rw [e9, x_up2_at]; exact k2)))⟩⟩
    · have r11 : z2.toInt ≠ 0 := fun e => h3 (Int32.toInt_inj.mp (e.trans (by decide : (0:Int) = (0 : Int32).toInt)))
      refine ev_loc f_X12_tellsBy (nx := 15) rfl rfl rfl rfl ?_
      refine ev_loc f_X12_tellsBy (nx := 17) rfl rfl rfl rfl ?_
      refine ev_lremN f_X12_tellsBy (nx := 18) rfl (t_lne (t_lnz e2 h3 (by omega))) rfl (fun z12 e12 => ?_)
      refine ev_loc f_X12_tellsBy (nx := 20) (lo' := [(9, .long z12), (7, .long y1_7), (5, .long y1_5), (0, .ref 69), (1, .long ar1), (3, .long ar2)]) rfl rfl rfl rfl ?_
      refine ev_loc f_X12_tellsBy (nx := 22) rfl rfl rfl rfl ?_
      refine ev_loc f_X12_tellsBy (nx := 24) (lo' := [(5, .long y1_7), (9, .long z12), (7, .long y1_7), (0, .ref 69), (1, .long ar1), (3, .long ar2)]) rfl rfl rfl rfl ?_
      refine ev_loc f_X12_tellsBy (nx := 26) rfl rfl rfl rfl ?_
      refine ev_loc f_X12_tellsBy (nx := 28) (lo' := [(7, .long z12), (5, .long y1_7), (9, .long z12), (0, .ref 69), (1, .long ar1), (3, .long ar2)]) rfl rfl rfl rfl ?_
      refine ev_jmp f_X12_tellsBy (nx := 6) rfl rfl rfl ?_
      refine ev_sub (lo := [(7, .long z12), (5, .long y1_7), (0, .ref 69), (1, .long ar1), (3, .long ar2)]) rfl (t_sc rfl (t_sc rfl (t_sc rfl (t_sc rfl (t_sc rfl t_sn))))) ?_
      exact ih1 _ (by have hb := t_lnz e2 h3 (by omega); have hr := t_lrem e12 (by omega) hb; omega) gi1 gl1 gr1 (z12) (y1_7) hI hX  (by have hb := t_lnz e2 h3 (by omega); have hr := t_lrem e12 (by omega) hb; omega) (by have hb := t_lnz e2 h3 (by omega); have hr := t_lrem e12 (by omega) hb; omega) (by have hb := t_lnz e2 h3 (by omega); have hr := t_lrem e12 (by omega) hb; omega) (fun h0 h1 h2 => (by
                                                            have hb := t_lnz e2 h3 (by omega)
                                                            have hz : z12.toInt = y1_5.toInt % y1_7.toInt := t_rmL e12 rfl (by omega) rfl (by omega)
                                                            rw [hz]
                                                            exact s_gcd_n (by omega) (by omega) (j1_3 h0 h1 h2))) rfl
  refine ev_sub (lo := [(7, .long ar2), (5, .long ar1), (0, .ref 69), (1, .long ar1), (3, .long ar2)]) rfl (t_sc rfl (t_sc rfl (t_sc rfl (t_sc rfl (t_sc rfl t_sn))))) ?_
  exact L1 _ gi gl gr (ar2) (ar1) hI hX  (by omega) (by omega) (by omega) (fun h0 h1 h2 => rfl) rfl
