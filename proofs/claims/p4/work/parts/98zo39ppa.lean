/-! ===== printed by riv.py: who comes when ===== -/
noncomputable def wl_k_comeLater : List (Nat × Nat) := [(45, 4), (46, 0), (47, 9999), (48, 9999), (49, 9999), (50, 9999), (51, 9999), (52, 0), (53, 9999), (54, 9999), (55, 9999), (56, 9999), (57, 9999), (58, 9999)]
noncomputable def Q_k_comeLater (gi : Nat → Nat → Int32) (gl : Nat → Nat → Int64) (gr : Nat → Nat → Value) (ar1 : Nat) (ar2 : Int32) : (Nat → Nat → Int32) → (Nat → Nat → Int64) → (Nat → Nat → Value) → Prop := fun (gi2 : Nat → Nat → Int32) (gl2 : Nat → Nat → Int64) (gr2 : Nat → Nat → Value) => (∀ D : s_D, t_VL gr ar1 → t_CV gi gl ar1 D → (ar1 = 3 ∨ 102 ≤ ar1) → t_Cb D → (∀ s : Nat, (s : Int) < D 1 → 0 ≤ D (56 + 5 * s) ∧ D (56 + 5 * s) ≤ 1) → s_DB D → (-1 ≤ ar2.toInt ∧ ar2.toInt ≤ 9999) → t_KL (s_PY D ar2.toInt) gi2 ∧ (∀ k : Nat, (k : Int) < D 1 → (gi2 58 k).toInt = 0))
theorem c_k_comeLater {X : x_Ext} {d : Nat} {sh : List (Nat ⊕ (Nat × Nat))} {gi : Nat → Nat → Int32} {gl : Nat → Nat → Int64} {gr : Nat → Nat → Value} (hI : t_I sh gi gr) (ar1 : Nat) (p_a1 : t_Rv sh gr ar1) (ar2 : Int32) : x_Me X (d + 3) n_X2_comeLater [.ref 45, .ref ar1, .int ar2] (sh, gi, gl, gr) (t_PN wl_k_comeLater sh gi gl gr (Q_k_comeLater gi gl gr ar1 ar2)) := by
  have hX : t_X wl_k_comeLater sh gi gl gr gi gl gr := t_X.rf
  refine me_i f_X2_comeLater (hI.wf.s rfl) rfl rfl rfl ?_
  obtain ⟨l2, u2⟩ := hI.b (hI.wf.s (k := 46) rfl) (t_bdK rfl : t_bd 3 0 = some (0, 6))
  obtain ⟨l3, u3⟩ := hI.b (hI.wf.s (k := 52) rfl) (t_bdK rfl : t_bd 3 0 = some (0, 6))
  refine ev_loc f_X2_comeLater (nx := 1) rfl rfl rfl rfl ?_
  refine ev_loc f_X2_comeLater (nx := 2) rfl rfl rfl rfl ?_
  refine ev_putIT f_X2_comeLater (nx := 5) rfl (hI.wf.s rfl) rfl rfl rfl (hI.put0 (hI.wf.s rfl) rfl rfl) (hX.upI rfl) (fun g4 e4 hI hX => ?_)
  refine ev_loc f_X2_comeLater (nx := 6) rfl rfl rfl rfl ?_
  refine ev_getR f_X2_comeLater (nx := 9) rfl (hI.wf.s rfl) rfl rfl (hI.wf.r rfl) rfl rfl ?_
  refine ev_inV1 f_X2_comeLater (nx := 12) (lo2 := [(0, .ref 46)]) rfl rfl rfl rfl f_X4_clear (hI.wf.s rfl) rfl rfl rfl rfl rfl ?_
  refine ev_loc f_X4_clear (nx := 1) rfl rfl rfl rfl ?_
  refine ev_ic f_X4_clear (nx := 2) (v := 0) rfl (by decide) rfl ?_
  refine ev_putIT f_X4_clear (nx := 5) rfl (hI.wf.s rfl) rfl rfl rfl (hI.putB (hI.wf.s rfl) rfl rfl (by decide : (0:Int) ≤ (0:Int32).toInt) (by decide) (by decide : (0:Int32).toInt ≤ (0:Int)) (by decide)) (hX.upI rfl) (fun g5 e5 hI hX => ?_)
  refine ev_retK0 f_X4_clear rfl rfl rfl ?_
  refine ev_loc f_X2_comeLater (nx := 13) rfl rfl rfl rfl ?_
  refine ev_getR f_X2_comeLater (nx := 16) rfl (hI.wf.s rfl) rfl rfl (hI.wf.r rfl) rfl rfl ?_
  refine ev_inV1 f_X2_comeLater (nx := 19) (lo2 := [(0, .ref 52)]) rfl rfl rfl rfl f_X4_clear (hI.wf.s rfl) rfl rfl rfl rfl rfl ?_
  refine ev_loc f_X4_clear (nx := 1) rfl rfl rfl rfl ?_
  refine ev_ic f_X4_clear (nx := 2) (v := 0) rfl (by decide) rfl ?_
  refine ev_putIT f_X4_clear (nx := 5) rfl (hI.wf.s rfl) rfl rfl rfl (hI.putB (hI.wf.s rfl) rfl rfl (by decide : (0:Int) ≤ (0:Int32).toInt) (by decide) (by decide : (0:Int32).toInt ≤ (0:Int)) (by decide)) (hX.upI rfl) (fun g6 e6 hI hX => ?_)
  refine ev_retK0 f_X4_clear rfl rfl rfl ?_
  refine ev_ic f_X2_comeLater (nx := 20) (v := 0) rfl (by decide) rfl ?_
  refine ev_loc f_X2_comeLater (nx := 21) (lo' := [(3, .int 0), (0, .ref 45), (1, .ref ar1), (2, .int ar2)]) rfl rfl rfl rfl ?_
  have L7 : ∀ (m7 : Nat) (gi7 : Nat → Nat → Int32) (gl7 : Nat → Nat → Int64) (gr7 : Nat → Nat → Value) (y7_3 : Int32), t_I sh gi7 gr7 → t_X wl_k_comeLater sh gi gl gr gi7 gl7 gr7 → t_Rv sh gr7 ar1 → 0 ≤ y7_3.toInt → y7_3.toInt ≤ 6 → gi7 52 0 = 0 → (∀ D : s_D, t_VL gr ar1 → t_CV gi gl ar1 D → (ar1 = 3 ∨ 102 ≤ ar1) → t_Cb D → (∀ s : Nat, (s : Int) < D 1 → 0 ≤ D (56 + 5 * s) ∧ D (56 + 5 * s) ≤ 1) → s_DB D → (-1 ≤ ar2.toInt ∧ ar2.toInt ≤ 9999) → y7_3.toInt ≤ D 1 ∧ ((gi7 46 0).toInt = y7_3.toInt ∧ s_RO (s_Ay D ar2.toInt) (gi7 47) y7_3.toNatClampNeg ∧ s_RM (s_Ay D ar2.toInt) (gi7 48) y7_3.toNatClampNeg ∧ s_RX (s_Ay D ar2.toInt) (fun k => D (54 + 5 * k)) (gi7 49) y7_3.toNatClampNeg ∧ s_RX (s_Ay D ar2.toInt) (fun k => D (55 + 5 * k)) (gi7 50) y7_3.toNatClampNeg ∧ s_RX (s_Ay D ar2.toInt) (fun k => D (56 + 5 * k)) (gi7 51) y7_3.toNatClampNeg) ∧ (∀ k : Nat, (k : Int) < y7_3.toInt → (gi7 58 k).toInt = 0) ∧ (ar2.toInt = -1 ∨ (gi7 45 4).toInt = s_drw ar2.toInt y7_3.toNatClampNeg) ∧ (gi7 52 0).toInt = 0) → (6 - y7_3.toInt).toNat = m7 → x_Ev X (d + 3) n_X2_comeLater 21 [(3, .int y7_3), (0, .ref 45), (1, .ref ar1), (2, .int ar2)] [] (sh, gi7, gl7, gr7) (t_PN wl_k_comeLater sh gi gl gr (Q_k_comeLater gi gl gr ar1 ar2)) := by
    intro m7
    induction m7 using Nat.strongRecOn with
    | _ m7 ih7 =>
    intro gi7 gl7 gr7 y7_3 hI hX p_a1 l7_3 u7_3 c7_0 j7_0 hm7
    obtain ⟨l9, u9⟩ := hI.b (hI.wf.s (k := 46) rfl) (t_bdK rfl : t_bd 3 0 = some (0, 6))
    refine ev_loc f_X2_comeLater (nx := 22) rfl rfl rfl rfl ?_
    refine ev_loc f_X2_comeLater (nx := 23) rfl rfl rfl rfl ?_
    obtain ⟨a10, e10, p10⟩ := p_a1.2.2.2.2.1
    refine ev_getR f_X2_comeLater (nx := 26) rfl p_a1.1 rfl rfl e10 rfl rfl ?_
    refine ev_getI f_X2_comeLater (nx := 29) rfl p10.1 rfl rfl rfl ?_
    obtain ⟨l11, u11⟩ := hI.b p10.1 (t_bdK rfl : t_bd 3 0 = some (0, 6))
    refine ev_if f_X2_comeLater (t1 := 72) (t2 := 32) rfl rfl rfl (fun h12 => ?_) (fun h12 => ?_)
    · have r13 : (gi7 a10 0).toInt ≤ y7_3.toInt := Int32.le_iff_toInt_le.mp h12
      have hXe := hX
      refine ev_ic f_X2_comeLater (nx := 73) (v := 0) rfl (by decide) rfl ?_
      refine ev_loc f_X2_comeLater (nx := 74) (lo' := [(3, .int 0), (0, .ref 45), (1, .ref ar1), (2, .int ar2)]) rfl rfl rfl rfl ?_
      have L14 : ∀ (m14 : Nat) (gi14 : Nat → Nat → Int32) (gl14 : Nat → Nat → Int64) (gr14 : Nat → Nat → Value) (y14_3 : Int32), t_I sh gi14 gr14 → t_X wl_k_comeLater sh gi gl gr gi14 gl14 gr14 → t_Rv sh gr14 ar1 → t_Ln sh gr14 a10 → 0 ≤ y14_3.toInt → y14_3.toInt ≤ 6 → (∀ D : s_D, t_VL gr ar1 → t_CV gi gl ar1 D → (ar1 = 3 ∨ 102 ≤ ar1) → t_Cb D → (∀ s : Nat, (s : Int) < D 1 → 0 ≤ D (56 + 5 * s) ∧ D (56 + 5 * s) ≤ 1) → s_DB D → (-1 ≤ ar2.toInt ∧ ar2.toInt ≤ 9999) → y14_3.toInt ≤ D 2 ∧ ((gi14 46 0).toInt = D 1 ∧ s_RO (s_Ay D ar2.toInt) (gi14 47) (D 1).toNat ∧ s_RM (s_Ay D ar2.toInt) (gi14 48) (D 1).toNat ∧ s_RX (s_Ay D ar2.toInt) (fun k => D (54 + 5 * k)) (gi14 49) (D 1).toNat ∧ s_RX (s_Ay D ar2.toInt) (fun k => D (55 + 5 * k)) (gi14 50) (D 1).toNat ∧ s_RX (s_Ay D ar2.toInt) (fun k => D (56 + 5 * k)) (gi14 51) (D 1).toNat) ∧ (∀ k : Nat, (k : Int) < D 1 → (gi14 58 k).toInt = 0) ∧ (ar2.toInt = -1 ∨ (gi14 45 4).toInt = s_drw ar2.toInt ((D 1).toNat + y14_3.toNatClampNeg)) ∧ ((gi14 52 0).toInt = y14_3.toInt ∧ s_RO (s_By D ar2.toInt) (gi14 53) y14_3.toNatClampNeg ∧ s_RM (s_By D ar2.toInt) (gi14 54) y14_3.toNatClampNeg ∧ s_RX (s_By D ar2.toInt) (fun k => D (83 + 3 * k)) (gi14 55) y14_3.toNatClampNeg ∧ s_RX (s_By D ar2.toInt) (fun k => D (84 + 3 * k)) (gi14 56) y14_3.toNatClampNeg ∧ s_RX (s_By D ar2.toInt) (fun _ => 0) (gi14 57) y14_3.toNatClampNeg)) → (6 - y14_3.toInt).toNat = m14 → x_Ev X (d + 3) n_X2_comeLater 74 [(3, .int y14_3), (0, .ref 45), (1, .ref ar1), (2, .int ar2)] [] (sh, gi14, gl14, gr14) (t_PN wl_k_comeLater sh gi gl gr (Q_k_comeLater gi gl gr ar1 ar2)) := by
        intro m14
        induction m14 using Nat.strongRecOn with
        | _ m14 ih14 =>
        intro gi14 gl14 gr14 y14_3 hI hX p_a1 p10 l14_3 u14_3 j14_0 hm14
        obtain ⟨l16, u16⟩ := hI.b (hI.wf.s (k := 46) rfl) (t_bdK rfl : t_bd 3 0 = some (0, 6))
        obtain ⟨l17, u17⟩ := hI.b (hI.wf.s (k := 52) rfl) (t_bdK rfl : t_bd 3 0 = some (0, 6))
        refine ev_loc f_X2_comeLater (nx := 75) rfl rfl rfl rfl ?_
        refine ev_loc f_X2_comeLater (nx := 76) rfl rfl rfl rfl ?_
        obtain ⟨a18, e18, p18⟩ := p_a1.2.2.2.2.2
        refine ev_getR f_X2_comeLater (nx := 79) rfl p_a1.1 rfl rfl e18 rfl rfl ?_
        refine ev_getI f_X2_comeLater (nx := 82) rfl p18.1 rfl rfl rfl ?_
        obtain ⟨l19, u19⟩ := hI.b p18.1 (t_bdK rfl : t_bd 3 0 = some (0, 6))
        refine ev_if f_X2_comeLater (t1 := 118) (t2 := 85) rfl rfl rfl (fun h20 => ?_) (fun h20 => ?_)
        · have r21 : (gi14 a18 0).toInt ≤ y14_3.toInt := Int32.le_iff_toInt_le.mp h20
          exact ev_ret f_X2_comeLater rfl rfl rfl ⟨_, _, _, rfl, hI, hX, ⟨rfl, (show (∀ D : s_D, t_VL gr ar1 → t_CV gi gl ar1 D → (ar1 = 3 ∨ 102 ≤ ar1) → t_Cb D → (∀ s : Nat, (s : Int) < D 1 → 0 ≤ D (56 + 5 * s) ∧ D (56 + 5 * s) ≤ 1) → s_DB D → (-1 ≤ ar2.toInt ∧ ar2.toInt ≤ 9999) → t_KL (s_PY D ar2.toInt) gi14 ∧ (∀ k : Nat, (k : Int) < D 1 → (gi14 58 k).toInt = 0)) from (fun D hl hc hv hb hsl hd hsd => (by
                                                            obtain ⟨g0, ⟨f1, f2, f3, f4, f5, f6⟩, gs, gd, g1, g2, g3, g4, g5, g6⟩ := j14_0 D hl hc hv hb hsl hd hsd
                                                            have hK := t_nd_fr hX rfl
                                                            have hl2 := hl.fr (fun K k1 k2 => hK K (by omega))
                                                            have hc2 := hc.fr (fun K k1 k2 => hK K (by omega))
                                                            have hb0 : a18 = (ar1 + 10) := (Value.ref.inj ((hl2.1.2.2.2.2).symm.trans e18)).symm
                                                            subst hb0
                                                            have hL := hc2.2.2.2.1
                                                            have b1 := hb.2.1
                                                            have b2 := hb.2.2
                                                            have cy := t_clamp (i := y14_3) (by omega)
                                                            have ey : y14_3.toNatClampNeg = (D 2).toNat := by omega
                                                            rw [ey] at g2 g3 g4 g5 g6
                                                            refine ⟨⟨⟨⟨?_, ?_⟩, ⟨?_, ?_⟩, ?_, ?_⟩, fun k hk => ?_, fun c hc9 => ?_⟩, fun k hk => gs k hk⟩
                                                            · show _ = (((D 1).toNat : Nat) : Int); omega
                                                            · show _ = (((D 2).toNat : Nat) : Int); omega
                                                            · show 0 ≤ (((D 1).toNat : Nat) : Int); omega
                                                            · show (((D 1).toNat : Nat) : Int) ≤ 6; omega
                                                            · show 0 ≤ (((D 2).toNat : Nat) : Int); omega
                                                            · show (((D 2).toNat : Nat) : Int) ≤ 6; omega
                                                            · have h9 : k < (D 1).toNat := Int.ofNat_lt.mp (show (k : Int) < (((D 1).toNat : Nat) : Int) from hk)
                                                              exact ⟨f3 k h9, f4 k h9, f5 k h9, f6 k h9⟩
                                                            · have h9 : c < (D 2).toNat := Int.ofNat_lt.mp (show (c : Int) < (((D 2).toNat : Nat) : Int) from hc9)
                                                              exact ⟨g3 c h9, g4 c h9, g5 c h9⟩)))⟩⟩
        · have r22 : y14_3.toInt < (gi14 a18 0).toInt := Int32.lt_iff_toInt_lt.mp (t_nle h20)
          have u23 : y14_3.toInt ≤ 5 := t_ltu (t_nle h20) u19 rfl
          have l24 : 1 ≤ (gi14 a18 0).toInt := t_ltl (t_nle h20) l14_3 rfl
          have hXh := hX
          refine ev_loc f_X2_comeLater (nx := 86) rfl rfl rfl rfl ?_
          refine ev_getR f_X2_comeLater (nx := 89) rfl (hI.wf.s rfl) rfl rfl (hI.wf.r rfl) rfl rfl ?_
          refine ev_loc f_X2_comeLater (nx := 90) rfl rfl rfl rfl ?_
          refine ev_getR f_X2_comeLater (nx := 93) (v := .ref a18) rfl p_a1.1 rfl rfl e18 rfl rfl ?_
          refine ev_loc f_X2_comeLater (nx := 94) rfl rfl rfl rfl ?_
          refine ev_loc f_X2_comeLater (nx := 95) rfl rfl rfl rfl ?_
          refine ev_getR f_X2_comeLater (nx := 98) (v := .ref a18) rfl p_a1.1 rfl rfl e18 rfl rfl ?_
          obtain ⟨a25, e25, s25, o25⟩ := p18.2.2.1
          refine ev_getR f_X2_comeLater (nx := 101) rfl p18.1 rfl rfl e25 rfl rfl ?_
          refine ev_loc f_X2_comeLater (nx := 102) rfl rfl rfl rfl ?_
          refine ev_ialdT f_X2_comeLater (nx := 103) rfl s25 l14_3 (by decide) u23 (by decide) rfl (fun w26 e26 => ?_)
          refine ev_loc f_X2_comeLater (nx := 104) rfl rfl rfl rfl ?_
          refine ev_loc f_X2_comeLater (nx := 105) rfl rfl rfl rfl ?_
          refine ev_inV2 f_X2_comeLater (nx := 108) (lo2 := [(0, .ref 45), (1, .int ar2)]) rfl rfl rfl rfl f_X2_delay (hI.wf.s rfl) rfl rfl rfl rfl rfl ?_
          refine ev_loc f_X2_delay (nx := 1) rfl rfl rfl rfl ?_
          refine ev_ic f_X2_delay (nx := 2) (v := -1) rfl (by decide) rfl ?_
          refine ev_if f_X2_delay (t1 := 5) (t2 := 7) rfl rfl rfl (fun h27 => ?_) (fun h27 => ?_)
          · have u28 : ar2.toInt ≤ (-1) := t_equ h27 (by decide : ((-1):Int32).toInt ≤ ((-1):Int))
            have l29 : (-1) ≤ ar2.toInt := t_eql h27 (by decide : ((-1):Int) ≤ ((-1):Int32).toInt)
            refine ev_ic f_X2_delay (nx := 6) (v := 0) rfl (by decide) rfl ?_
            refine ev_retK1 f_X2_delay rfl rfl rfl ?_
            refine ev_addC f_X2_comeLater (nx := 109) (c := 0) (l := (-2147483648)) (u := 2147483647) rfl (by decide) (t_lo w26) (t_hi w26) rfl rfl (by decide) (by decide) rfl (fun z30 e30 l30 u30 => ?_)
            refine ev_qN f_X2_comeLater (nx := 112) (r := []) rfl rfl rfl rfl rfl rfl rfl (c_d_join_52 hI (a18) p18 (y14_3) (z30)) rfl hX rfl (fun gi31 gl31 gr31 hI hX hC31 q31 => ?_)
            have q31 : (∀ n t w l : Nat, (gi14 52 0).toInt = n → n ≤ 5 → 0 ≤ y14_3.toInt → y14_3.toInt < (gi14 a18 0).toInt → s_LR a18 → s_LR t → s_LR w → s_LR l → gr14 a18 3 = .ref t → gr14 a18 4 = .ref w → gr14 a18 5 = .ref l → (∀ j : Nat, j < n → gi14 57 j &&& 1 = gi14 57 j) → (gi31 52 0).toInt = n + 1 ∧ ∀ j, j ≤ n → gi31 53 j = s_is (gi14 53) (y14_3) (s_pk (fun j => (gi14 54 j).toInt) z30.toInt n) j ∧ gi31 54 j = s_is (gi14 54) (z30) (s_pk (fun j => (gi14 54 j).toInt) z30.toInt n) j ∧ gi31 55 j = s_is (gi14 55) (gi14 t y14_3.toNatClampNeg) (s_pk (fun j => (gi14 54 j).toInt) z30.toInt n) j ∧ gi31 56 j = s_is (gi14 56) (gi14 w y14_3.toNatClampNeg) (s_pk (fun j => (gi14 54 j).toInt) z30.toInt n) j ∧ gi31 57 j = s_is (gi14 57) (gi14 l y14_3.toNatClampNeg &&& 1) (s_pk (fun j => (gi14 54 j).toInt) z30.toInt n) j) := q31
            replace p_a1 := p_a1.ext hC31.2
            replace p18 := p18.ext hC31.2
            obtain ⟨l32, u32⟩ := hI.b (hI.wf.s (k := 52) rfl) (t_bdK rfl : t_bd 3 0 = some (0, 6))
            refine ev_incR f_X2_comeLater (nx := 115) (c := 1) (l := 1) (u := 6) rfl rfl (by decide) (by decide) l14_3 u23 rfl rfl (by decide) (by decide) rfl (fun z33 e33 l33 u33 => ?_)
            refine ev_jmp f_X2_comeLater (nx := 74) rfl rfl rfl ?_
            replace p10 := p10.ext hC31.2
            refine ev_sub (lo := [(3, .int z33), (0, .ref 45), (1, .ref ar1), (2, .int ar2)]) rfl (t_sc rfl (t_sc rfl (t_sc rfl (t_sc rfl t_sn)))) ?_
            exact ih14 _ (by omega) gi31 gl31 gr31 (z33) hI hX p_a1 p10 (Int.le_trans (by decide : (0:Int) ≤ 1) l33) u33 (fun D hl hc hv hb hsl hd hsd => (by
                                                            obtain ⟨g0, ⟨f1, f2, f3, f4, f5, f6⟩, gs, gd, g1, g2, g3, g4, g5, g6⟩ := j14_0 D hl hc hv hb hsl hd hsd
                                                            have hK := t_nd_fr hXh rfl
                                                            have hl2 := hl.fr (fun K k1 k2 => hK K (by omega))
                                                            have hc2 := hc.fr (fun K k1 k2 => hK K (by omega))
                                                            have hb0 : a18 = (ar1 + 10) := (Value.ref.inj ((hl2.1.2.2.2.2).symm.trans e18)).symm
                                                            subst hb0
                                                            have hb1 : a25 = (ar1 + 10 + 2) := (Value.ref.inj ((hl2.2.2.2.1).symm.trans e25)).symm
                                                            subst hb1
                                                            have hL := hc2.2.2.2.1
                                                            have b1 := hb.2.1
                                                            have b2 := hb.2.2
                                                            have cy := t_clamp (i := y14_3) (by omega)
                                                            have hyl : y14_3.toInt < D 2 := by omega
                                                            have hs1 : ar2.toInt = -1 := by omega
                                                            have z0 : (0 : Int32).toInt = 0 := rfl
                                                            have hdl : (0 : Int32).toInt = s_dl ar2.toInt ((D 1).toNat + y14_3.toNatClampNeg) := by rw [s_dl_n hs1]; rfl
                                                            have eW : ∀ k j : Nat, k ≠ 45 → gi14 k j = gi14 k j := fun k j hk => rfl
                                                            have hdlb := s_dl_b (seed := ar2.toInt) (n := (D 1).toNat + y14_3.toNatClampNeg)
                                                            have eW2 : ∀ k : Nat, k ≠ 45 → gi14 k = gi14 k := fun k hk => funext fun j => eW k j hk
                                                            have hzz : ∀ j : Nat, j < y14_3.toNatClampNeg → gi14 57 j &&& 1 = gi14 57 j := fun j hj => s_and1 (by rw [eW 57 j (by decide), g6 j hj]; exact ⟨Int.le_refl 0, (by decide : (0 : Int) ≤ 1)⟩)
                                                            have hq := q31 y14_3.toNatClampNeg (ar1 + 10 + 3) (ar1 + 10 + 4) (ar1 + 10 + 5) (by rw [eW 52 0 (by decide)]; omega) (by omega) (by omega) (by rw [eW (ar1 + 10) 0 (by omega)]; omega) (by unfold s_LR; omega) (by unfold s_LR; omega) (by unfold s_LR; omega) (by unfold s_LR; omega) hl2.2.2.2.2.1 hl2.2.2.2.2.2.1 hl2.2.2.2.2.2.2 hzz
                                                            have hs := hc2.2.2.2.2 y14_3.toNatClampNeg (by omega)
                                                            have hw : w26.toInt = s_B D y14_3.toNatClampNeg := by rw [e26]; exact hs.1
                                                            have hAb := hd.2.1 y14_3.toNatClampNeg (by omega)
                                                            have hA5 : 0 ≤ s_B D y14_3.toNatClampNeg ∧ s_B D y14_3.toNatClampNeg ≤ 500 := hAb.1
                                                            have hz : z30.toInt = s_By D ar2.toInt y14_3.toNatClampNeg := by show _ = s_B D y14_3.toNatClampNeg + s_dl ar2.toInt ((D 1).toNat + y14_3.toNatClampNeg); rw [← hdl, ← hw]; omega
                                                            have hsl2 : (gi14 (ar1 + 10 + 5) y14_3.toNatClampNeg &&& 1).toInt = 0 := by rw [s_and1 (by rw [hs.2.2.2]; decide)]; exact hs.2.2.2
                                                            have hq2 := hq.2
                                                            rw [eW2 53 (by decide), eW2 54 (by decide), eW2 55 (by decide), eW2 56 (by decide), eW2 57 (by decide), eW2 (ar1 + 10 + 3) (by omega), eW2 (ar1 + 10 + 4) (by omega), eW2 (ar1 + 10 + 5) (by omega)] at hq2
                                                            have eE : ∀ k : Nat, k ≠ 58 → gi31 k = gi31 k := fun k hk => rfl
                                                            have fm := t_F_X hC31
                                                            rw [s_cp (by omega) e33]
                                                            refine ⟨by omega, ?_, (fun k hk => by rw [show gi31 58 = gi31 58 from rfl, (t_F_nc fm rfl (by decide) : gi31 58 = gi14 58), eW2 58 (by decide)]; exact gs k hk), Or.inl hs1, ?_⟩
                                                            · rw [eE 46 (by decide), (t_F_nc fm rfl (by decide) : gi31 46 = gi14 46), eW2 46 (by decide), eE 47 (by decide), (t_F_nc fm rfl (by decide) : gi31 47 = gi14 47), eW2 47 (by decide), eE 48 (by decide), (t_F_nc fm rfl (by decide) : gi31 48 = gi14 48), eW2 48 (by decide), eE 49 (by decide), (t_F_nc fm rfl (by decide) : gi31 49 = gi14 49), eW2 49 (by decide), eE 50 (by decide), (t_F_nc fm rfl (by decide) : gi31 50 = gi14 50), eW2 50 (by decide), eE 51 (by decide), (t_F_nc fm rfl (by decide) : gi31 51 = gi14 51), eW2 51 (by decide)]; exact ⟨f1, f2, f3, f4, f5, f6⟩
                                                            · rw [eE 53 (by decide), eE 54 (by decide), eE 55 (by decide), eE 56 (by decide), eE 57 (by decide)]; exact ⟨(by rw [eE 52 (by decide)]; exact hq.1.trans (by omega)), s_RO_s g2 cy.symm (fun j hj => g3 j hj) hz (fun j hj => (hq2 j hj).1), s_RM_s g3 hz (fun j hj => g3 j hj) hz (fun j hj => (hq2 j hj).2.1), s_RX_s g4 hs.2.1 (fun j hj => g3 j hj) hz (fun j hj => (hq2 j hj).2.2.1), s_RX_s g5 hs.2.2.1 (fun j hj => g3 j hj) hz (fun j hj => (hq2 j hj).2.2.2.1), s_RX_s g6 hsl2 (fun j hj => g3 j hj) hz (fun j hj => (hq2 j hj).2.2.2.2)⟩)) rfl
          · have r34 : ar2.toInt ≠ (-1) := fun e => h27 (Int32.toInt_inj.mp (e.trans (by decide : ((-1):Int) = ((-1) : Int32).toInt)))
            refine ev_loc f_X2_delay (nx := 8) rfl rfl rfl rfl ?_
            refine ev_loc f_X2_delay (nx := 9) rfl rfl rfl rfl ?_
            refine ev_gvI f_X2_delay (nx := 12) (w := (gi14 45 4)) rfl (hI.wf.s rfl) rfl rfl rfl rfl ?_
            refine ev_sp f_X2_delay (nx := 15) (v := 2749) rfl (by decide) rfl ?_
            refine ev_anyIE f_X2_delay (nx := 16) rfl rfl rfl rfl (fun z35 e35 => ?_)
            refine ev_sp f_X2_delay (nx := 19) (v := 12553) rfl (by decide) rfl ?_
            refine ev_anyIE f_X2_delay (nx := 20) rfl rfl rfl rfl (fun z36 e36 => ?_)
            refine ev_ldI f_X2_delay (nx := 22) (v := 65536) rfl (by decide) rfl ?_
            refine ev_remN f_X2_delay (nx := 23) rfl (by decide) rfl (fun z37 e37 => ?_)
            refine ev_putIT f_X2_delay (nx := 26) rfl (hI.wf.s rfl) rfl rfl rfl (hI.put0 (hI.wf.s rfl) rfl rfl) (hX.upI rfl) (fun g38 e38 hI hX => ?_)
            refine ev_loc f_X2_delay (nx := 27) rfl rfl rfl rfl ?_
            refine ev_gvI f_X2_delay (nx := 30) (w := z37) rfl (hI.wf.s rfl) rfl rfl (by rw [e38]; exact x_up2_at _ _ _ _ : g38 45 4 = z37) rfl ?_
            refine ev_bp f_X2_delay (nx := 32) (v := 8) rfl (by decide) rfl ?_
            refine ev_divN f_X2_delay (nx := 33) rfl (by decide) rfl (fun z39 e39 => ?_)
            refine ev_bp f_X2_delay (nx := 35) (v := 8) rfl (by decide) rfl ?_
            refine ev_remN f_X2_delay (nx := 36) rfl (by decide) rfl (fun z40 e40 => ?_)
            refine ev_retK1 f_X2_delay rfl rfl rfl ?_
            refine ev_anyIE f_X2_comeLater (nx := 109) rfl rfl rfl rfl (fun z41 e41 => ?_)
            refine ev_qN f_X2_comeLater (nx := 112) (r := []) rfl rfl rfl rfl rfl rfl rfl (c_d_join_52 hI (a18) p18 (y14_3) (z41)) rfl hX rfl (fun gi42 gl42 gr42 hI hX hC42 q42 => ?_)
            have ff43 : (g38 52 0).toInt = (gi14 52 0).toInt := congrArg Int32.toInt ((by rw [e38]; exact x_up2_off (Or.inr (by decide)) : g38 52 0 = gi14 52 0).trans rfl)
            have ff44 : (g38 a18 0).toInt = (gi14 a18 0).toInt := congrArg Int32.toInt ((by rw [e38]; exact x_up2_off (Or.inr (by decide)) : g38 a18 0 = gi14 a18 0).trans rfl)
            have q42 : (∀ n t w l : Nat, (g38 52 0).toInt = n → n ≤ 5 → 0 ≤ y14_3.toInt → y14_3.toInt < (g38 a18 0).toInt → s_LR a18 → s_LR t → s_LR w → s_LR l → gr14 a18 3 = .ref t → gr14 a18 4 = .ref w → gr14 a18 5 = .ref l → (∀ j : Nat, j < n → g38 57 j &&& 1 = g38 57 j) → (gi42 52 0).toInt = n + 1 ∧ ∀ j, j ≤ n → gi42 53 j = s_is (g38 53) (y14_3) (s_pk (fun j => (g38 54 j).toInt) z41.toInt n) j ∧ gi42 54 j = s_is (g38 54) (z41) (s_pk (fun j => (g38 54 j).toInt) z41.toInt n) j ∧ gi42 55 j = s_is (g38 55) (g38 t y14_3.toNatClampNeg) (s_pk (fun j => (g38 54 j).toInt) z41.toInt n) j ∧ gi42 56 j = s_is (g38 56) (g38 w y14_3.toNatClampNeg) (s_pk (fun j => (g38 54 j).toInt) z41.toInt n) j ∧ gi42 57 j = s_is (g38 57) (g38 l y14_3.toNatClampNeg &&& 1) (s_pk (fun j => (g38 54 j).toInt) z41.toInt n) j) := q42
            replace p_a1 := p_a1.ext hC42.2
            replace p18 := p18.ext hC42.2
            obtain ⟨l45, u45⟩ := hI.b (hI.wf.s (k := 52) rfl) (t_bdK rfl : t_bd 3 0 = some (0, 6))
            refine ev_incR f_X2_comeLater (nx := 115) (c := 1) (l := 1) (u := 6) rfl rfl (by decide) (by decide) l14_3 u23 rfl rfl (by decide) (by decide) rfl (fun z46 e46 l46 u46 => ?_)
            refine ev_jmp f_X2_comeLater (nx := 74) rfl rfl rfl ?_
            replace p10 := p10.ext hC42.2
            refine ev_sub (lo := [(3, .int z46), (0, .ref 45), (1, .ref ar1), (2, .int ar2)]) rfl (t_sc rfl (t_sc rfl (t_sc rfl (t_sc rfl t_sn)))) ?_
            exact ih14 _ (by omega) gi42 gl42 gr42 (z46) hI hX p_a1 p10 (Int.le_trans (by decide : (0:Int) ≤ 1) l46) u46 (fun D hl hc hv hb hsl hd hsd => (by
                                                            obtain ⟨g0, ⟨f1, f2, f3, f4, f5, f6⟩, gs, gd, g1, g2, g3, g4, g5, g6⟩ := j14_0 D hl hc hv hb hsl hd hsd
                                                            have hK := t_nd_fr hXh rfl
                                                            have hl2 := hl.fr (fun K k1 k2 => hK K (by omega))
                                                            have hc2 := hc.fr (fun K k1 k2 => hK K (by omega))
                                                            have hb0 : a18 = (ar1 + 10) := (Value.ref.inj ((hl2.1.2.2.2.2).symm.trans e18)).symm
                                                            subst hb0
                                                            have hb1 : a25 = (ar1 + 10 + 2) := (Value.ref.inj ((hl2.2.2.2.1).symm.trans e25)).symm
                                                            subst hb1
                                                            have hL := hc2.2.2.2.1
                                                            have b1 := hb.2.1
                                                            have b2 := hb.2.2
                                                            have cy := t_clamp (i := y14_3) (by omega)
                                                            have hyl : y14_3.toInt < D 2 := by omega
                                                            have hs1 : ar2.toInt ≠ -1 := by omega
                                                            have hd0 := gd.resolve_left hs1
                                                            have hdb := s_drw_b (v := ar2.toInt) (by omega) (by omega) ((D 1).toNat + y14_3.toNatClampNeg)
                                                            have hd1 := t_drw e35 e36 e37 hd0 hdb.1 hdb.2
                                                            have hd2 : z37.toInt = s_drw ar2.toInt ((D 1).toNat + y14_3.toNatClampNeg + 1) := hd1
                                                            have hdb2 := s_drw_b (v := ar2.toInt) (by omega) (by omega) ((D 1).toNat + y14_3.toNatClampNeg + 1)
                                                            have hdl : z40.toInt = s_dl ar2.toInt ((D 1).toNat + y14_3.toNatClampNeg) := by rw [s_dl_y hs1]; exact t_dl8 e39 e40 hd2 hdb2.1
                                                            have eW : ∀ k j : Nat, k ≠ 45 → g38 k j = gi14 k j := fun k j hk => by rw [e38, x_up2_ne hk]
                                                            have hdlb := s_dl_b (seed := ar2.toInt) (n := (D 1).toNat + y14_3.toNatClampNeg)
                                                            have eW2 : ∀ k : Nat, k ≠ 45 → g38 k = gi14 k := fun k hk => funext fun j => eW k j hk
                                                            have hzz : ∀ j : Nat, j < y14_3.toNatClampNeg → g38 57 j &&& 1 = g38 57 j := fun j hj => s_and1 (by rw [eW 57 j (by decide), g6 j hj]; exact ⟨Int.le_refl 0, (by decide : (0 : Int) ≤ 1)⟩)
                                                            have hq := q42 y14_3.toNatClampNeg (ar1 + 10 + 3) (ar1 + 10 + 4) (ar1 + 10 + 5) (by rw [eW 52 0 (by decide)]; omega) (by omega) (by omega) (by rw [eW (ar1 + 10) 0 (by omega)]; omega) (by unfold s_LR; omega) (by unfold s_LR; omega) (by unfold s_LR; omega) (by unfold s_LR; omega) hl2.2.2.2.2.1 hl2.2.2.2.2.2.1 hl2.2.2.2.2.2.2 hzz
                                                            have hs := hc2.2.2.2.2 y14_3.toNatClampNeg (by omega)
                                                            have hw : w26.toInt = s_B D y14_3.toNatClampNeg := by rw [e26]; exact hs.1
                                                            have hAb := hd.2.1 y14_3.toNatClampNeg (by omega)
                                                            have hA5 : 0 ≤ s_B D y14_3.toNatClampNeg ∧ s_B D y14_3.toNatClampNeg ≤ 500 := hAb.1
                                                            have hz : z41.toInt = s_By D ar2.toInt y14_3.toNatClampNeg := s_add e41 hw hdl (by omega)
                                                            have hsl2 : (gi14 (ar1 + 10 + 5) y14_3.toNatClampNeg &&& 1).toInt = 0 := by rw [s_and1 (by rw [hs.2.2.2]; decide)]; exact hs.2.2.2
                                                            have hq2 := hq.2
                                                            rw [eW2 53 (by decide), eW2 54 (by decide), eW2 55 (by decide), eW2 56 (by decide), eW2 57 (by decide), eW2 (ar1 + 10 + 3) (by omega), eW2 (ar1 + 10 + 4) (by omega), eW2 (ar1 + 10 + 5) (by omega)] at hq2
                                                            have eE : ∀ k : Nat, k ≠ 58 → gi42 k = gi42 k := fun k hk => rfl
                                                            have fm := t_F_X hC42
                                                            rw [s_cp (by omega) e46]
                                                            refine ⟨by omega, ?_, (fun k hk => by rw [show gi42 58 = gi42 58 from rfl, (t_F_nc fm rfl (by decide) : gi42 58 = g38 58), eW2 58 (by decide)]; exact gs k hk), Or.inr (by rw [eE 45 (by decide), (hC42.1 45 4 rfl).1, e38, x_up2_at]; exact hd2), ?_⟩
                                                            · rw [eE 46 (by decide), (t_F_nc fm rfl (by decide) : gi42 46 = g38 46), eW2 46 (by decide), eE 47 (by decide), (t_F_nc fm rfl (by decide) : gi42 47 = g38 47), eW2 47 (by decide), eE 48 (by decide), (t_F_nc fm rfl (by decide) : gi42 48 = g38 48), eW2 48 (by decide), eE 49 (by decide), (t_F_nc fm rfl (by decide) : gi42 49 = g38 49), eW2 49 (by decide), eE 50 (by decide), (t_F_nc fm rfl (by decide) : gi42 50 = g38 50), eW2 50 (by decide), eE 51 (by decide), (t_F_nc fm rfl (by decide) : gi42 51 = g38 51), eW2 51 (by decide)]; exact ⟨f1, f2, f3, f4, f5, f6⟩
                                                            · rw [eE 53 (by decide), eE 54 (by decide), eE 55 (by decide), eE 56 (by decide), eE 57 (by decide)]; exact ⟨(by rw [eE 52 (by decide)]; exact hq.1.trans (by omega)), s_RO_s g2 cy.symm (fun j hj => g3 j hj) hz (fun j hj => (hq2 j hj).1), s_RM_s g3 hz (fun j hj => g3 j hj) hz (fun j hj => (hq2 j hj).2.1), s_RX_s g4 hs.2.1 (fun j hj => g3 j hj) hz (fun j hj => (hq2 j hj).2.2.1), s_RX_s g5 hs.2.2.1 (fun j hj => g3 j hj) hz (fun j hj => (hq2 j hj).2.2.2.1), s_RX_s g6 hsl2 (fun j hj => g3 j hj) hz (fun j hj => (hq2 j hj).2.2.2.2)⟩)) rfl
      refine ev_sub (lo := [(3, .int 0), (0, .ref 45), (1, .ref ar1), (2, .int ar2)]) rfl (t_sc rfl (t_sc rfl (t_sc rfl (t_sc rfl t_sn)))) ?_
      exact L14 _ gi7 gl7 gr7 (0) hI hX p_a1 p10 (by decide : (0:Int) ≤ (0:Int32).toInt) (Int.le_trans (by decide : (0:Int32).toInt ≤ (0:Int)) (by decide : (0:Int) ≤ 6)) (fun D hl hc hv hb hsl hd hsd => (by
                                                            obtain ⟨g0, ⟨g1, g2, g3, g4, g5, g6⟩, gs, gd, gc⟩ := j7_0 D hl hc hv hb hsl hd hsd
                                                            have hK := t_nd_fr hXe rfl
                                                            have hl2 := hl.fr (fun K k1 k2 => hK K (by omega))
                                                            have hc2 := hc.fr (fun K k1 k2 => hK K (by omega))
                                                            have hb0 : a10 = (ar1 + 3) := (Value.ref.inj ((hl2.1.2.2.2.1).symm.trans e10)).symm
                                                            subst hb0
                                                            have hL := hc2.2.2.1.1
                                                            have b1 := hb.2.1
                                                            have b2 := hb.2.2
                                                            have cy := t_clamp (i := y7_3) (by omega)
                                                            have z0 : (0 : Int32).toInt = 0 := rfl
                                                            have ey : y7_3.toNatClampNeg = (D 1).toNat := by omega
                                                            rw [ey] at g2 g3 g4 g5 g6 gd
                                                            exact ⟨by omega, ⟨by omega, g2, g3, g4, g5, g6⟩, fun k hk => gs k (by omega), gd, ⟨by omega, fun j hj => absurd hj (Nat.not_lt_zero _), fun j hj => absurd hj (Nat.not_lt_zero _), fun j hj => absurd hj (Nat.not_lt_zero _), fun j hj => absurd hj (Nat.not_lt_zero _), fun j hj => absurd hj (Nat.not_lt_zero _)⟩⟩)) rfl
    · have r47 : y7_3.toInt < (gi7 a10 0).toInt := Int32.lt_iff_toInt_lt.mp (t_nle h12)
      have u48 : y7_3.toInt ≤ 5 := t_ltu (t_nle h12) u11 rfl
      have l49 : 1 ≤ (gi7 a10 0).toInt := t_ltl (t_nle h12) l7_3 rfl
      have hXh := hX
      refine ev_loc f_X2_comeLater (nx := 33) rfl rfl rfl rfl ?_
      refine ev_getR f_X2_comeLater (nx := 36) rfl (hI.wf.s rfl) rfl rfl (hI.wf.r rfl) rfl rfl ?_
      refine ev_loc f_X2_comeLater (nx := 37) rfl rfl rfl rfl ?_
      refine ev_getR f_X2_comeLater (nx := 40) (v := .ref a10) rfl p_a1.1 rfl rfl e10 rfl rfl ?_
      refine ev_loc f_X2_comeLater (nx := 41) rfl rfl rfl rfl ?_
      refine ev_loc f_X2_comeLater (nx := 42) rfl rfl rfl rfl ?_
      refine ev_getR f_X2_comeLater (nx := 45) (v := .ref a10) rfl p_a1.1 rfl rfl e10 rfl rfl ?_
      obtain ⟨a50, e50, s50, o50⟩ := p10.2.2.1
      refine ev_getR f_X2_comeLater (nx := 48) rfl p10.1 rfl rfl e50 rfl rfl ?_
      refine ev_loc f_X2_comeLater (nx := 49) rfl rfl rfl rfl ?_
      refine ev_ialdT f_X2_comeLater (nx := 50) rfl s50 l7_3 (by decide) u48 (by decide) rfl (fun w51 e51 => ?_)
      refine ev_loc f_X2_comeLater (nx := 51) rfl rfl rfl rfl ?_
      refine ev_loc f_X2_comeLater (nx := 52) rfl rfl rfl rfl ?_
      refine ev_inV2 f_X2_comeLater (nx := 55) (lo2 := [(0, .ref 45), (1, .int ar2)]) rfl rfl rfl rfl f_X2_delay (hI.wf.s rfl) rfl rfl rfl rfl rfl ?_
      refine ev_loc f_X2_delay (nx := 1) rfl rfl rfl rfl ?_
      refine ev_ic f_X2_delay (nx := 2) (v := -1) rfl (by decide) rfl ?_
      refine ev_if f_X2_delay (t1 := 5) (t2 := 7) rfl rfl rfl (fun h52 => ?_) (fun h52 => ?_)
      · have u53 : ar2.toInt ≤ (-1) := t_equ h52 (by decide : ((-1):Int32).toInt ≤ ((-1):Int))
        have l54 : (-1) ≤ ar2.toInt := t_eql h52 (by decide : ((-1):Int) ≤ ((-1):Int32).toInt)
        refine ev_ic f_X2_delay (nx := 6) (v := 0) rfl (by decide) rfl ?_
        refine ev_retK1 f_X2_delay rfl rfl rfl ?_
        refine ev_addC f_X2_comeLater (nx := 56) (c := 0) (l := (-2147483648)) (u := 2147483647) rfl (by decide) (t_lo w51) (t_hi w51) rfl rfl (by decide) (by decide) rfl (fun z55 e55 l55 u55 => ?_)
        refine ev_qN f_X2_comeLater (nx := 59) (r := []) rfl rfl rfl rfl rfl rfl rfl (c_d_join_46 hI (a10) p10 (y7_3) (z55)) rfl hX rfl (fun gi56 gl56 gr56 hI hX hC56 q56 => ?_)
        have q56 : (∀ n t w l : Nat, (gi7 46 0).toInt = n → n ≤ 5 → 0 ≤ y7_3.toInt → y7_3.toInt < (gi7 a10 0).toInt → s_LR a10 → s_LR t → s_LR w → s_LR l → gr7 a10 3 = .ref t → gr7 a10 4 = .ref w → gr7 a10 5 = .ref l → (∀ j : Nat, j < n → gi7 51 j &&& 1 = gi7 51 j) → (gi56 46 0).toInt = n + 1 ∧ ∀ j, j ≤ n → gi56 47 j = s_is (gi7 47) (y7_3) (s_pk (fun j => (gi7 48 j).toInt) z55.toInt n) j ∧ gi56 48 j = s_is (gi7 48) (z55) (s_pk (fun j => (gi7 48 j).toInt) z55.toInt n) j ∧ gi56 49 j = s_is (gi7 49) (gi7 t y7_3.toNatClampNeg) (s_pk (fun j => (gi7 48 j).toInt) z55.toInt n) j ∧ gi56 50 j = s_is (gi7 50) (gi7 w y7_3.toNatClampNeg) (s_pk (fun j => (gi7 48 j).toInt) z55.toInt n) j ∧ gi56 51 j = s_is (gi7 51) (gi7 l y7_3.toNatClampNeg &&& 1) (s_pk (fun j => (gi7 48 j).toInt) z55.toInt n) j) := q56
        replace p_a1 := p_a1.ext hC56.2
        replace p10 := p10.ext hC56.2
        obtain ⟨l57, u57⟩ := hI.b (hI.wf.s (k := 46) rfl) (t_bdK rfl : t_bd 3 0 = some (0, 6))
        refine ev_loc f_X2_comeLater (nx := 60) rfl rfl rfl rfl ?_
        refine ev_getR f_X2_comeLater (nx := 63) rfl (hI.wf.s rfl) rfl rfl (hI.wf.r rfl) rfl rfl ?_
        refine ev_loc f_X2_comeLater (nx := 64) rfl rfl rfl rfl ?_
        refine ev_ic f_X2_comeLater (nx := 65) (v := 0) rfl (by decide) rfl ?_
        refine ev_iastT f_X2_comeLater (nx := 66) rfl (hI.wf.s rfl) l7_3 (by decide) u48 (by decide) rfl (hI.astO (hI.wf.s rfl) (Or.inl (by decide)) (by decide +kernel)) (hX.upI (t_inA_ok rfl)) (fun g58 e58 hI hX => ?_)
        refine ev_incR f_X2_comeLater (nx := 69) (c := 1) (l := 1) (u := 6) rfl rfl (by decide) (by decide) l7_3 u48 rfl rfl (by decide) (by decide) rfl (fun z59 e59 l59 u59 => ?_)
        refine ev_jmp f_X2_comeLater (nx := 21) rfl rfl rfl ?_
        refine ev_sub (lo := [(3, .int z59), (0, .ref 45), (1, .ref ar1), (2, .int ar2)]) rfl (t_sc rfl (t_sc rfl (t_sc rfl (t_sc rfl t_sn)))) ?_
        exact ih7 _ (by omega) g58 gl56 gr56 (z59) hI hX p_a1 (Int.le_trans (by decide : (0:Int) ≤ 1) l59) u59 ((by rw [e58]; exact x_up2_off (Or.inl (by decide)) : g58 52 0 = gi56 52 0).trans ((hC56.1 52 0 rfl).1.trans c7_0)) (fun D hl hc hv hb hsl hd hsd => (by
                                                            obtain ⟨g0, ⟨g1, g2, g3, g4, g5, g6⟩, gs, gd, gc⟩ := j7_0 D hl hc hv hb hsl hd hsd
                                                            have hK := t_nd_fr hXh rfl
                                                            have hl2 := hl.fr (fun K k1 k2 => hK K (by omega))
                                                            have hc2 := hc.fr (fun K k1 k2 => hK K (by omega))
                                                            have hb0 : a10 = (ar1 + 3) := (Value.ref.inj ((hl2.1.2.2.2.1).symm.trans e10)).symm
                                                            subst hb0
                                                            have hb1 : a50 = (ar1 + 3 + 2) := (Value.ref.inj ((hl2.2.1.2.1).symm.trans e50)).symm
                                                            subst hb1
                                                            have hL := hc2.2.2.1.1
                                                            have b1 := hb.2.1
                                                            have b2 := hb.2.2
                                                            have cy := t_clamp (i := y7_3) (by omega)
                                                            have hyl : y7_3.toInt < D 1 := by omega
                                                            have hs1 : ar2.toInt = -1 := by omega
                                                            have z0 : (0 : Int32).toInt = 0 := rfl
                                                            have hdl : (0 : Int32).toInt = s_dl ar2.toInt (y7_3.toNatClampNeg) := by rw [s_dl_n hs1]; rfl
                                                            have eW : ∀ k j : Nat, k ≠ 45 → gi7 k j = gi7 k j := fun k j hk => rfl
                                                            have hdlb := s_dl_b (seed := ar2.toInt) (n := y7_3.toNatClampNeg)
                                                            have eW2 : ∀ k : Nat, k ≠ 45 → gi7 k = gi7 k := fun k hk => funext fun j => eW k j hk
                                                            have hzz : ∀ j : Nat, j < y7_3.toNatClampNeg → gi7 51 j &&& 1 = gi7 51 j := fun j hj => s_and1 (by rw [eW 51 j (by decide), g6 j hj]; exact hsl _ (by have := s_or_lt (s_Ay D ar2.toInt) _ _ hj; omega))
                                                            have hq := q56 y7_3.toNatClampNeg (ar1 + 3 + 3) (ar1 + 3 + 4) (ar1 + 3 + 5) (by rw [eW 46 0 (by decide)]; omega) (by omega) (by omega) (by rw [eW (ar1 + 3) 0 (by omega)]; omega) (by unfold s_LR; omega) (by unfold s_LR; omega) (by unfold s_LR; omega) (by unfold s_LR; omega) hl2.2.1.2.2.1 hl2.2.1.2.2.2.1 hl2.2.1.2.2.2.2 hzz
                                                            have hs := hc2.2.2.1.2 y7_3.toNatClampNeg (by omega)
                                                            have hw : w51.toInt = s_A D y7_3.toNatClampNeg := by rw [e51]; exact hs.2.1
                                                            have hAb := hd.1 y7_3.toNatClampNeg (by omega)
                                                            have hA5 : 0 ≤ s_A D y7_3.toNatClampNeg ∧ s_A D y7_3.toNatClampNeg ≤ 500 := hAb.1
                                                            have hz : z55.toInt = s_Ay D ar2.toInt y7_3.toNatClampNeg := by show _ = s_A D y7_3.toNatClampNeg + s_dl ar2.toInt (y7_3.toNatClampNeg); rw [← hdl, ← hw]; omega
                                                            have hsl2 : (gi7 (ar1 + 3 + 5) y7_3.toNatClampNeg &&& 1).toInt = D (56 + 5 * y7_3.toNatClampNeg) := by rw [s_and1 (by rw [hs.2.2.2.2]; exact hsl _ (by omega))]; exact hs.2.2.2.2
                                                            have hq2 := hq.2
                                                            rw [eW2 47 (by decide), eW2 48 (by decide), eW2 49 (by decide), eW2 50 (by decide), eW2 51 (by decide), eW2 (ar1 + 3 + 3) (by omega), eW2 (ar1 + 3 + 4) (by omega), eW2 (ar1 + 3 + 5) (by omega)] at hq2
                                                            have eE : ∀ k : Nat, k ≠ 58 → g58 k = gi56 k := fun k hk => funext fun j => by rw [e58, x_up2_ne hk]
                                                            have fm := t_F_X hC56
                                                            rw [s_cp (by omega) e59]
                                                            refine ⟨by omega, ?_, (fun k hk => by rw [e58]; by_cases hj : k = y7_3.toNatClampNeg; (rw [hj, x_up2_at]; rfl); (rw [x_up2_off (Or.inr hj), (t_F_nc fm rfl (by decide) : gi56 58 = gi7 58), eW2 58 (by decide)]; exact gs k (by omega))), Or.inl hs1, by rw [eE 52 (by decide), (t_F_nc fm rfl (by decide) : gi56 52 = gi7 52), eW2 52 (by decide)]; exact gc⟩
                                                            rw [eE 47 (by decide), eE 48 (by decide), eE 49 (by decide), eE 50 (by decide), eE 51 (by decide)]
                                                            exact ⟨(by rw [eE 46 (by decide)]; exact hq.1.trans (by omega)), s_RO_s g2 cy.symm (fun j hj => g3 j hj) hz (fun j hj => (hq2 j hj).1), s_RM_s g3 hz (fun j hj => g3 j hj) hz (fun j hj => (hq2 j hj).2.1), s_RX_s g4 hs.2.2.1 (fun j hj => g3 j hj) hz (fun j hj => (hq2 j hj).2.2.1), s_RX_s g5 hs.2.2.2.1 (fun j hj => g3 j hj) hz (fun j hj => (hq2 j hj).2.2.2.1), s_RX_s g6 hsl2 (fun j hj => g3 j hj) hz (fun j hj => (hq2 j hj).2.2.2.2)⟩)) rfl
      · have r60 : ar2.toInt ≠ (-1) := fun e => h52 (Int32.toInt_inj.mp (e.trans (by decide : ((-1):Int) = ((-1) : Int32).toInt)))
        refine ev_loc f_X2_delay (nx := 8) rfl rfl rfl rfl ?_
        refine ev_loc f_X2_delay (nx := 9) rfl rfl rfl rfl ?_
        refine ev_gvI f_X2_delay (nx := 12) (w := (gi7 45 4)) rfl (hI.wf.s rfl) rfl rfl rfl rfl ?_
        refine ev_sp f_X2_delay (nx := 15) (v := 2749) rfl (by decide) rfl ?_
        refine ev_anyIE f_X2_delay (nx := 16) rfl rfl rfl rfl (fun z61 e61 => ?_)
        refine ev_sp f_X2_delay (nx := 19) (v := 12553) rfl (by decide) rfl ?_
        refine ev_anyIE f_X2_delay (nx := 20) rfl rfl rfl rfl (fun z62 e62 => ?_)
        refine ev_ldI f_X2_delay (nx := 22) (v := 65536) rfl (by decide) rfl ?_
        refine ev_remN f_X2_delay (nx := 23) rfl (by decide) rfl (fun z63 e63 => ?_)
        refine ev_putIT f_X2_delay (nx := 26) rfl (hI.wf.s rfl) rfl rfl rfl (hI.put0 (hI.wf.s rfl) rfl rfl) (hX.upI rfl) (fun g64 e64 hI hX => ?_)
        refine ev_loc f_X2_delay (nx := 27) rfl rfl rfl rfl ?_
        refine ev_gvI f_X2_delay (nx := 30) (w := z63) rfl (hI.wf.s rfl) rfl rfl (by rw [e64]; exact x_up2_at _ _ _ _ : g64 45 4 = z63) rfl ?_
        refine ev_bp f_X2_delay (nx := 32) (v := 8) rfl (by decide) rfl ?_
        refine ev_divN f_X2_delay (nx := 33) rfl (by decide) rfl (fun z65 e65 => ?_)
        refine ev_bp f_X2_delay (nx := 35) (v := 8) rfl (by decide) rfl ?_
        refine ev_remN f_X2_delay (nx := 36) rfl (by decide) rfl (fun z66 e66 => ?_)
        refine ev_retK1 f_X2_delay rfl rfl rfl ?_
        refine ev_anyIE f_X2_comeLater (nx := 56) rfl rfl rfl rfl (fun z67 e67 => ?_)
        refine ev_qN f_X2_comeLater (nx := 59) (r := []) rfl rfl rfl rfl rfl rfl rfl (c_d_join_46 hI (a10) p10 (y7_3) (z67)) rfl hX rfl (fun gi68 gl68 gr68 hI hX hC68 q68 => ?_)
        have ff69 : (g64 46 0).toInt = (gi7 46 0).toInt := congrArg Int32.toInt ((by rw [e64]; exact x_up2_off (Or.inr (by decide)) : g64 46 0 = gi7 46 0).trans rfl)
        have ff70 : (g64 a10 0).toInt = (gi7 a10 0).toInt := congrArg Int32.toInt ((by rw [e64]; exact x_up2_off (Or.inr (by decide)) : g64 a10 0 = gi7 a10 0).trans rfl)
        have q68 : (∀ n t w l : Nat, (g64 46 0).toInt = n → n ≤ 5 → 0 ≤ y7_3.toInt → y7_3.toInt < (g64 a10 0).toInt → s_LR a10 → s_LR t → s_LR w → s_LR l → gr7 a10 3 = .ref t → gr7 a10 4 = .ref w → gr7 a10 5 = .ref l → (∀ j : Nat, j < n → g64 51 j &&& 1 = g64 51 j) → (gi68 46 0).toInt = n + 1 ∧ ∀ j, j ≤ n → gi68 47 j = s_is (g64 47) (y7_3) (s_pk (fun j => (g64 48 j).toInt) z67.toInt n) j ∧ gi68 48 j = s_is (g64 48) (z67) (s_pk (fun j => (g64 48 j).toInt) z67.toInt n) j ∧ gi68 49 j = s_is (g64 49) (g64 t y7_3.toNatClampNeg) (s_pk (fun j => (g64 48 j).toInt) z67.toInt n) j ∧ gi68 50 j = s_is (g64 50) (g64 w y7_3.toNatClampNeg) (s_pk (fun j => (g64 48 j).toInt) z67.toInt n) j ∧ gi68 51 j = s_is (g64 51) (g64 l y7_3.toNatClampNeg &&& 1) (s_pk (fun j => (g64 48 j).toInt) z67.toInt n) j) := q68
        replace p_a1 := p_a1.ext hC68.2
        replace p10 := p10.ext hC68.2
        obtain ⟨l71, u71⟩ := hI.b (hI.wf.s (k := 46) rfl) (t_bdK rfl : t_bd 3 0 = some (0, 6))
        refine ev_loc f_X2_comeLater (nx := 60) rfl rfl rfl rfl ?_
        refine ev_getR f_X2_comeLater (nx := 63) rfl (hI.wf.s rfl) rfl rfl (hI.wf.r rfl) rfl rfl ?_
        refine ev_loc f_X2_comeLater (nx := 64) rfl rfl rfl rfl ?_
        refine ev_ic f_X2_comeLater (nx := 65) (v := 0) rfl (by decide) rfl ?_
        refine ev_iastT f_X2_comeLater (nx := 66) rfl (hI.wf.s rfl) l7_3 (by decide) u48 (by decide) rfl (hI.astO (hI.wf.s rfl) (Or.inl (by decide)) (by decide +kernel)) (hX.upI (t_inA_ok rfl)) (fun g72 e72 hI hX => ?_)
        refine ev_incR f_X2_comeLater (nx := 69) (c := 1) (l := 1) (u := 6) rfl rfl (by decide) (by decide) l7_3 u48 rfl rfl (by decide) (by decide) rfl (fun z73 e73 l73 u73 => ?_)
        refine ev_jmp f_X2_comeLater (nx := 21) rfl rfl rfl ?_
        refine ev_sub (lo := [(3, .int z73), (0, .ref 45), (1, .ref ar1), (2, .int ar2)]) rfl (t_sc rfl (t_sc rfl (t_sc rfl (t_sc rfl t_sn)))) ?_
        exact ih7 _ (by omega) g72 gl68 gr68 (z73) hI hX p_a1 (Int.le_trans (by decide : (0:Int) ≤ 1) l73) u73 ((by rw [e72]; exact x_up2_off (Or.inl (by decide)) : g72 52 0 = gi68 52 0).trans ((hC68.1 52 0 rfl).1.trans ((by rw [e64]; exact x_up2_off (Or.inr (by decide)) : g64 52 0 = gi7 52 0).trans c7_0))) (fun D hl hc hv hb hsl hd hsd => (by
                                                            obtain ⟨g0, ⟨g1, g2, g3, g4, g5, g6⟩, gs, gd, gc⟩ := j7_0 D hl hc hv hb hsl hd hsd
                                                            have hK := t_nd_fr hXh rfl
                                                            have hl2 := hl.fr (fun K k1 k2 => hK K (by omega))
                                                            have hc2 := hc.fr (fun K k1 k2 => hK K (by omega))
                                                            have hb0 : a10 = (ar1 + 3) := (Value.ref.inj ((hl2.1.2.2.2.1).symm.trans e10)).symm
                                                            subst hb0
                                                            have hb1 : a50 = (ar1 + 3 + 2) := (Value.ref.inj ((hl2.2.1.2.1).symm.trans e50)).symm
                                                            subst hb1
                                                            have hL := hc2.2.2.1.1
                                                            have b1 := hb.2.1
                                                            have b2 := hb.2.2
                                                            have cy := t_clamp (i := y7_3) (by omega)
                                                            have hyl : y7_3.toInt < D 1 := by omega
                                                            have hs1 : ar2.toInt ≠ -1 := by omega
                                                            have hd0 := gd.resolve_left hs1
                                                            have hdb := s_drw_b (v := ar2.toInt) (by omega) (by omega) (y7_3.toNatClampNeg)
                                                            have hd1 := t_drw e61 e62 e63 hd0 hdb.1 hdb.2
                                                            have hd2 : z63.toInt = s_drw ar2.toInt (y7_3.toNatClampNeg + 1) := hd1
                                                            have hdb2 := s_drw_b (v := ar2.toInt) (by omega) (by omega) (y7_3.toNatClampNeg + 1)
                                                            have hdl : z66.toInt = s_dl ar2.toInt (y7_3.toNatClampNeg) := by rw [s_dl_y hs1]; exact t_dl8 e65 e66 hd2 hdb2.1
                                                            have eW : ∀ k j : Nat, k ≠ 45 → g64 k j = gi7 k j := fun k j hk => by rw [e64, x_up2_ne hk]
                                                            have hdlb := s_dl_b (seed := ar2.toInt) (n := y7_3.toNatClampNeg)
                                                            have eW2 : ∀ k : Nat, k ≠ 45 → g64 k = gi7 k := fun k hk => funext fun j => eW k j hk
                                                            have hzz : ∀ j : Nat, j < y7_3.toNatClampNeg → g64 51 j &&& 1 = g64 51 j := fun j hj => s_and1 (by rw [eW 51 j (by decide), g6 j hj]; exact hsl _ (by have := s_or_lt (s_Ay D ar2.toInt) _ _ hj; omega))
                                                            have hq := q68 y7_3.toNatClampNeg (ar1 + 3 + 3) (ar1 + 3 + 4) (ar1 + 3 + 5) (by rw [eW 46 0 (by decide)]; omega) (by omega) (by omega) (by rw [eW (ar1 + 3) 0 (by omega)]; omega) (by unfold s_LR; omega) (by unfold s_LR; omega) (by unfold s_LR; omega) (by unfold s_LR; omega) hl2.2.1.2.2.1 hl2.2.1.2.2.2.1 hl2.2.1.2.2.2.2 hzz
                                                            have hs := hc2.2.2.1.2 y7_3.toNatClampNeg (by omega)
                                                            have hw : w51.toInt = s_A D y7_3.toNatClampNeg := by rw [e51]; exact hs.2.1
                                                            have hAb := hd.1 y7_3.toNatClampNeg (by omega)
                                                            have hA5 : 0 ≤ s_A D y7_3.toNatClampNeg ∧ s_A D y7_3.toNatClampNeg ≤ 500 := hAb.1
                                                            have hz : z67.toInt = s_Ay D ar2.toInt y7_3.toNatClampNeg := s_add e67 hw hdl (by omega)
                                                            have hsl2 : (gi7 (ar1 + 3 + 5) y7_3.toNatClampNeg &&& 1).toInt = D (56 + 5 * y7_3.toNatClampNeg) := by rw [s_and1 (by rw [hs.2.2.2.2]; exact hsl _ (by omega))]; exact hs.2.2.2.2
                                                            have hq2 := hq.2
                                                            rw [eW2 47 (by decide), eW2 48 (by decide), eW2 49 (by decide), eW2 50 (by decide), eW2 51 (by decide), eW2 (ar1 + 3 + 3) (by omega), eW2 (ar1 + 3 + 4) (by omega), eW2 (ar1 + 3 + 5) (by omega)] at hq2
                                                            have eE : ∀ k : Nat, k ≠ 58 → g72 k = gi68 k := fun k hk => funext fun j => by rw [e72, x_up2_ne hk]
                                                            have fm := t_F_X hC68
                                                            rw [s_cp (by omega) e73]
                                                            refine ⟨by omega, ?_, (fun k hk => by rw [e72]; by_cases hj : k = y7_3.toNatClampNeg; (rw [hj, x_up2_at]; rfl); (rw [x_up2_off (Or.inr hj), (t_F_nc fm rfl (by decide) : gi68 58 = g64 58), eW2 58 (by decide)]; exact gs k (by omega))), Or.inr (by rw [eE 45 (by decide), (hC68.1 45 4 rfl).1, e64, x_up2_at]; exact hd2), by rw [eE 52 (by decide), (t_F_nc fm rfl (by decide) : gi68 52 = g64 52), eW2 52 (by decide)]; exact gc⟩
                                                            rw [eE 47 (by decide), eE 48 (by decide), eE 49 (by decide), eE 50 (by decide), eE 51 (by decide)]
                                                            exact ⟨(by rw [eE 46 (by decide)]; exact hq.1.trans (by omega)), s_RO_s g2 cy.symm (fun j hj => g3 j hj) hz (fun j hj => (hq2 j hj).1), s_RM_s g3 hz (fun j hj => g3 j hj) hz (fun j hj => (hq2 j hj).2.1), s_RX_s g4 hs.2.2.1 (fun j hj => g3 j hj) hz (fun j hj => (hq2 j hj).2.2.1), s_RX_s g5 hs.2.2.2.1 (fun j hj => g3 j hj) hz (fun j hj => (hq2 j hj).2.2.2.1), s_RX_s g6 hsl2 (fun j hj => g3 j hj) hz (fun j hj => (hq2 j hj).2.2.2.2)⟩)) rfl
  refine ev_sub (lo := [(3, .int 0), (0, .ref 45), (1, .ref ar1), (2, .int ar2)]) rfl (t_sc rfl (t_sc rfl (t_sc rfl (t_sc rfl t_sn)))) ?_
  exact L7 _ g6 gl gr (0) hI hX p_a1 (by decide : (0:Int) ≤ (0:Int32).toInt) (Int.le_trans (by decide : (0:Int32).toInt ≤ (0:Int)) (by decide : (0:Int) ≤ 6)) (by rw [e6]; exact x_up2_at _ _ _ _ : g6 52 0 = 0) (fun D hl hc hv hb hsl hd hsd => ⟨by have h1 := hb.2.1; have z0 : (0 : Int32).toInt = 0 := rfl; omega, ⟨(by have z0 : (0 : Int32).toInt = 0 := rfl; have ff74 : (g6 46 0).toInt = 0 := (congrArg Int32.toInt ((by rw [e6]; exact x_up2_off (Or.inl (by decide)) : g6 46 0 = g5 46 0).trans (by rw [e5]; exact x_up2_at _ _ _ _ : g5 46 0 = 0))).trans (by decide); have ff75 : (g6 52 0).toInt = 0 := (congrArg Int32.toInt (by rw [e6]; exact x_up2_at _ _ _ _ : g6 52 0 = 0)).trans (by decide); have ff76 : (g6 45 4).toInt = ar2.toInt := congrArg Int32.toInt ((by rw [e6]; exact x_up2_off (Or.inr (by decide)) : g6 45 4 = g5 45 4).trans ((by rw [e5]; exact x_up2_off (Or.inr (by decide)) : g5 45 4 = g4 45 4).trans (by rw [e4]; exact x_up2_at _ _ _ _ : g4 45 4 = ar2))); omega), fun j hj => absurd hj (Nat.not_lt_zero _), fun j hj => absurd hj (Nat.not_lt_zero _), fun j hj => absurd hj (Nat.not_lt_zero _), fun j hj => absurd hj (Nat.not_lt_zero _), fun j hj => absurd hj (Nat.not_lt_zero _)⟩, (fun k hk => absurd hk (by have z0 : (0 : Int32).toInt = 0 := rfl; omega)), Or.inr (by have ff74 : (g6 46 0).toInt = 0 := (congrArg Int32.toInt ((by rw [e6]; exact x_up2_off (Or.inl (by decide)) : g6 46 0 = g5 46 0).trans (by rw [e5]; exact x_up2_at _ _ _ _ : g5 46 0 = 0))).trans (by decide); have ff75 : (g6 52 0).toInt = 0 := (congrArg Int32.toInt (by rw [e6]; exact x_up2_at _ _ _ _ : g6 52 0 = 0)).trans (by decide); have ff76 : (g6 45 4).toInt = ar2.toInt := congrArg Int32.toInt ((by rw [e6]; exact x_up2_off (Or.inr (by decide)) : g6 45 4 = g5 45 4).trans ((by rw [e5]; exact x_up2_off (Or.inr (by decide)) : g5 45 4 = g4 45 4).trans (by rw [e4]; exact x_up2_at _ _ _ _ : g4 45 4 = ar2))); show _ = ar2.toInt; omega), (by have z0 : (0 : Int32).toInt = 0 := rfl; have ff74 : (g6 46 0).toInt = 0 := (congrArg Int32.toInt ((by rw [e6]; exact x_up2_off (Or.inl (by decide)) : g6 46 0 = g5 46 0).trans (by rw [e5]; exact x_up2_at _ _ _ _ : g5 46 0 = 0))).trans (by decide); have ff75 : (g6 52 0).toInt = 0 := (congrArg Int32.toInt (by rw [e6]; exact x_up2_at _ _ _ _ : g6 52 0 = 0)).trans (by decide); have ff76 : (g6 45 4).toInt = ar2.toInt := congrArg Int32.toInt ((by rw [e6]; exact x_up2_off (Or.inr (by decide)) : g6 45 4 = g5 45 4).trans ((by rw [e5]; exact x_up2_off (Or.inr (by decide)) : g5 45 4 = g4 45 4).trans (by rw [e4]; exact x_up2_at _ _ _ _ : g4 45 4 = ar2))); omega)⟩) rfl
