/-! ===== RIVERS through river(), rules(), MARKS; what is told of SHIPS, CARTS ===== -/
section DLAW
variable {sh sh1 : List (Nat ⊕ (Nat × Nat))} {gi g1 g2 : Nat → Nat → Int32} {gl l1 l2 : Nat → Nat → Int64} {gr r1 r2 : Nat → Nat → Value} {w1 w2 : List (Nat × Nat)} {A A2 x1 x2 : Int32}
/-- the other side's call leaves the class's cells -/
theorem t_D_m (x : t_X w2 sh1 g1 l1 r1 g2 l2 r2) (hw : (t_ndB w2 && (t_un w2 (0, 6) && (t_un w2 (0, 12) && t_nc w2 19))) = true) : (∀ K, (3 ≤ K ∧ K < 19) ∨ 102 ≤ K → g2 K = g1 K ∧ l2 K = l1 K ∧ r2 K = r1 K) ∧ r2 0 6 = r1 0 6 ∧ g2 0 12 = g1 0 12 ∧ r2 19 = r1 19 := by
  simp only [Bool.and_eq_true] at hw
  have f := t_F_X x
  exact ⟨t_nd_fr x hw.1, (f 0 6 (by decide) (t_un_ok hw.2.1)).2.2, (f 0 12 (by decide) (t_un_ok hw.2.2.1)).1, t_F_nr f hw.2.2.2 (by decide)⟩
theorem t_DR_river (hT : t_TP gi) (hR : t_R gi gr) (hD : t_DR sh.length gi gl gr) (h102 : 102 ≤ sh.length) (hle : sh.length ≤ sh1.length) (hm3 : (gi 0 12).toInt ≤ 3) (f1 : t_F w1 gi gl gr g1 l1 r1) (hw1 : (t_nc w1 75 && (t_nc w1 70 && (t_nc w1 19 && t_un w1 (0, 12)))) = true) (h69 : t_in w1 69 10 = false) (xm : t_X w2 sh1 g1 l1 r1 g2 l2 r2) (hw2 : (t_ndB w2 && (t_un w2 (0, 6) && (t_un w2 (0, 12) && t_nc w2 19))) = true) (em : ∀ j, 350 ≤ j → j < 1400 → g2 70 j = g1 70 j) (q1 : ((0 ≤ A.toInt ∧ A.toInt ≤ (gi 0 5).toInt) → ∀ n : Nat, (n : Int) = A.toInt → t_RES gi gl gr sh.length (gi 2) n x1 g1 l1 r1) ∧ (¬ (0 ≤ A.toInt ∧ A.toInt ≤ (gi 0 5).toInt) → x1.toInt = -1 ∧ (∀ K, K ≠ 0 → g1 K = gi K ∧ l1 K = gl K ∧ r1 K = gr K) ∧ r1 0 6 = gr 0 6 ∧ r1 0 7 = gr 0 7) ∧ (0 ≤ A.toInt ∧ A.toInt ≤ (gi 0 5).toInt → sh.length + 18 ≤ sh1.length)) (q2 : Q_n_river g1 l1 r1 A x2 g2 l2 r2) : t_DR sh1.length g2 l2 r2 := by
  simp only [Bool.and_eq_true] at hw1
  obtain ⟨n75, n70, n19, n12⟩ := hw1
  have e0 : (gi 0 5).toInt = (gi 69 10).toInt := congrArg Int32.toInt (t_R_fed hR)
  have e1 : (g1 69 10).toInt = (gi 69 10).toInt := congrArg Int32.toInt (f1 69 10 (by decide) h69).1
  have r75 : g1 75 = gi 75 := t_F_nc f1 n75 (by decide)
  have r70 : g1 70 = gi 70 := t_F_nc f1 n70 (by decide)
  have r12 : g1 0 12 = gi 0 12 := (f1 0 12 (by decide) (t_un_ok n12)).1
  have r19 : r1 19 = gr 19 := t_F_nr f1 n19 (by decide)
  obtain ⟨m0, m6, m12, m19⟩ := t_D_m xm hw2
  obtain ⟨k1, k2⟩ := q2
  have same : r1 0 6 = gr 0 6 → (∀ K, K ≠ 0 → K < sh.length → g1 K = gi K ∧ l1 K = gl K ∧ r1 K = gr K) → (∀ j : Nat, j < 350 → g2 70 j = g1 70 j) → t_DR sh1.length g2 l2 r2 := by
    intro s6 sK s70
    refine t_DR_gen hD hle (fun K hK => ?_) (m6.trans s6) (m12.trans r12) (m19.trans r19) (fun j hj _ _ _ => ?_) hm3
    · have a := m0 K (by omega)
      have b := sK K (by omega) (by omega)
      exact ⟨a.1.trans b.1, a.2.1.trans b.2.1, a.2.2.trans b.2.2⟩
    · by_cases hj3 : j < 350
      · rw [s70 j hj3, r70]
      · rw [em j (by omega) hj, r70]
  by_cases hin : 0 ≤ A.toInt ∧ A.toInt ≤ (gi 0 5).toInt
  · obtain ⟨n, hn⟩ : ∃ n : Nat, (n : Int) = A.toInt := ⟨A.toInt.toNat, by omega⟩
    obtain ⟨p1, pl⟩ := q1.1 hin n hn
    have p2 := k1 (by omega) (gi 2) n hn (fun j hj => by rw [r75]; exact (hT j (by omega)).1.symm) (fun j hj => (hT j (by omega)).2)
    have hlen := q1.2.2 hin
    have pl2 : ∀ K, K ≠ 0 → K < sh.length → g1 K = gi K ∧ l1 K = gl K ∧ r1 K = gr K := fun K a b => pl K a b
    rcases p1 with ⟨q, D, a1, a2, a3, a4, a5, a6, a7, a8⟩ | ⟨p, x, D, a0, a1, a2, a3, a4, a5, a6⟩
    · rcases p2 with ⟨q', D', b1, b2, b3, b4, b5, b6⟩ | ⟨p', x', D', b0, b1, -⟩
      · obtain rfl := s_ok_D (a1.symm.trans b1)
        refine ⟨⟨sh.length + 2, m6.trans a5, D, b2, ⟨Or.inr (by omega), by omega⟩, a8.fr (fun K c1 c2 => m0 K (by omega)), a7.cv.fr (fun K c1 c2 => m0 K (by omega)), b4.e⟩, fun k hk => ?_⟩
        rw [m12, r12] at hk
        obtain ⟨u, h4, h5⟩ := hD.2 k hk
        refine ⟨u, by rw [m19, r19]; exact h4, h5.fr hle (fun K hK => ?_) (fun j a b c => ?_)⟩
        · have a := m0 K (by omega)
          have b := pl2 K (by omega) (by omega)
          exact ⟨a.1.trans b.1, a.2.1.trans b.2.1, a.2.2.trans b.2.2⟩
        · rw [em _ (by omega) (by omega), r70]
      · exact (s_ok_bad b0 (a1.symm.trans b1)).elim
    · rcases p2 with ⟨q', D', b1, -⟩ | ⟨p', x', D', b0, b1, b2, b3, b4, b5⟩
      · exact (s_ok_bad a0 (b1.symm.trans a1)).elim
      · exact same a5 pl2 b5
  · have h := q1.2.1 hin
    exact same h.2.2.1 (fun K a _ => h.2.1 K a) (k2 (by omega)).2
/-- RULES: no RIVER is touched -/
theorem t_DR_rules (hD : t_DR sh.length gi gl gr) (h102 : 102 ≤ sh.length) (hle : sh.length ≤ sh1.length) (hm3 : (gi 0 12).toInt ≤ 3) (f1 : t_F w1 gi gl gr g1 l1 r1) (hw1 : (t_nc w1 70 && (t_nc w1 19 && t_un w1 (0, 12))) = true) (xm : t_X w2 sh1 g1 l1 r1 g2 l2 r2) (hw2 : (t_ndB w2 && (t_un w2 (0, 6) && (t_un w2 (0, 12) && t_nc w2 19))) = true) (em : ∀ j, j < 1400 → j % 350 ≠ 3 → j % 350 ≠ 8 → j % 350 < 100 → g2 70 j = g1 70 j) (q1 : ((0 ≤ A.toInt ∧ A.toInt ≤ (gi 0 5).toInt ∧ A.toInt ≤ 300) → ∀ n : Nat, (n : Int) = A.toInt → t_RSR gi gl gr sh.length (gi 2) n x1 g1 l1 r1) ∧ (¬ (0 ≤ A.toInt ∧ A.toInt ≤ (gi 0 5).toInt ∧ A.toInt ≤ 300) → x1.toInt = -1 ∧ (∀ K, K ≠ 0 → g1 K = gi K ∧ l1 K = gl K ∧ r1 K = gr K) ∧ r1 0 6 = gr 0 6 ∧ r1 0 7 = gr 0 7)) : t_DR sh1.length g2 l2 r2 := by
  simp only [Bool.and_eq_true] at hw1
  obtain ⟨n70, n19, n12⟩ := hw1
  have r70 : g1 70 = gi 70 := t_F_nc f1 n70 (by decide)
  have r12 : g1 0 12 = gi 0 12 := (f1 0 12 (by decide) (t_un_ok n12)).1
  have r19 : r1 19 = gr 19 := t_F_nr f1 n19 (by decide)
  obtain ⟨m0, m6, m12, m19⟩ := t_D_m xm hw2
  have key : r1 0 6 = gr 0 6 ∧ ∀ K, K ≠ 0 → K < sh.length → g1 K = gi K ∧ l1 K = gl K ∧ r1 K = gr K := by
    by_cases hin : 0 ≤ A.toInt ∧ A.toInt ≤ (gi 0 5).toInt ∧ A.toInt ≤ 300
    · obtain ⟨n, hn⟩ : ∃ n : Nat, (n : Int) = A.toInt := ⟨A.toInt.toNat, by omega⟩
      obtain ⟨p1, pl⟩ := q1.1 hin n hn
      refine ⟨?_, fun K a b => pl K a b⟩
      rcases p1 with ⟨k, a1, a2, a3, a4, a5, a6⟩ | ⟨p, x, a0, a1, a2, a3, a4, a5, a6⟩
      · exact a5
      · exact a5
    · have h := q1.2 hin
      exact ⟨h.2.2.1, fun K a _ => h.2.1 K a⟩
  refine t_DR_gen hD hle (fun K hK => ?_) (m6.trans key.1) (m12.trans r12) (m19.trans r19) (fun j hj a b c => ?_) hm3
  · have a := m0 K (by omega)
    have b := key.2 K (by omega) (by omega)
    exact ⟨a.1.trans b.1, a.2.1.trans b.2.1, a.2.2.trans b.2.2⟩
  · rw [em j hj a b c, r70]
theorem t_DR_mark (hR : t_R gi gr) (hD : t_DR sh.length gi gl gr) (hm0 : 0 ≤ (gi 0 12).toInt) (hm3 : (gi 0 12).toInt ≤ 3) (xh : t_X w1 sh gi gl gr g1 l1 r1) (hw1 : (t_ndB w1 && (t_un w1 (0, 6) && (t_nc w1 70 && t_un w1 (69, 75)))) = true) (xm : t_X w2 sh g1 l1 r1 g2 l2 r2) (hw2 : (t_ndB w2 && (t_un w2 (0, 6) && (t_un w2 (0, 12) && t_nc w2 19))) = true) (hc : ((gi 0 12).toInt = 3 → (g1 0 12).toInt = 3) ∧ ((gi 0 12).toInt ≠ 3 → (g1 0 12).toInt = (gi 0 12).toInt + 1)) (q1 : Q_d_mark gi gl gr x1 g1 l1 r1) (q2 : ((g1 69 75).toInt = 3 → g2 70 = g1 70) ∧ ((g1 69 75).toInt ≠ 3 → ∀ j, g2 70 j = t_cpy (g1 70) 0 ((g1 69 75).toInt.toNat + 1) 350 j)) : t_DR sh.length g2 l2 r2 := by
  simp only [Bool.and_eq_true] at hw1
  obtain ⟨n0, n6, n70, n75⟩ := hw1
  have f1 := t_F_X xh
  have c0 := t_nd_fr xh n0
  have r6 : r1 0 6 = gr 0 6 := (f1 0 6 (by decide) (t_un_ok n6)).2.2
  have r70 : g1 70 = gi 70 := t_F_nc f1 n70 (by decide)
  have r75 : (g1 69 75).toInt = (gi 0 12).toInt := by rw [(f1 69 75 (by decide) (t_un_ok n75)).1, ← t_R_mk hR]
  obtain ⟨m0, m6, m12, m19⟩ := t_D_m xm hw2
  have fr : ∀ K, (3 ≤ K ∧ K < 19) ∨ (102 ≤ K ∧ K < sh.length) → g2 K = gi K ∧ l2 K = gl K ∧ r2 K = gr K := fun K hK => by
    have a := m0 K (by omega)
    have b := c0 K (by omega)
    exact ⟨a.1.trans b.1, a.2.1.trans b.2.1, a.2.2.trans b.2.2⟩
  obtain ⟨d1, d2⟩ := q1
  obtain ⟨v, hv, hs⟩ := hD.1
  by_cases h3 : (gi 0 12).toInt = 3
  · have e70 : ∀ j, g2 70 j = gi 70 j := fun j => by rw [q2.1 (by omega), r70]
    refine ⟨⟨v, by rw [m6, r6]; exact hv, hs.fr (Nat.le_refl _) fr (fun j _ _ _ => e70 _)⟩, fun k hk => ?_⟩
    rw [m12] at hk
    obtain ⟨u, h4, h5⟩ := hD.2 k (by have := hc.1 h3; omega)
    exact ⟨u, by rw [m19, (d2 h3).1]; exact h4, h5.fr (Nat.le_refl _) fr (fun j _ _ _ => e70 _)⟩
  · have e70 : ∀ j, g2 70 j = t_cpy (gi 70) 0 ((gi 0 12).toInt.toNat + 1) 350 j := fun j => by rw [q2.2 (by omega), r70, r75]
    have ec := hc.2 h3
    have off : ∀ j, (j < 350 * ((gi 0 12).toInt.toNat + 1) ∨ 350 * ((gi 0 12).toInt.toNat + 1) + 350 ≤ j) → g2 70 j = gi 70 j := fun j hj => by
      rw [e70]; unfold t_cpy; rw [if_neg (by omega)]
    refine ⟨⟨v, by rw [m6, r6]; exact hv, hs.fr (Nat.le_refl _) fr (fun j _ _ _ => off _ (by omega))⟩, fun k hk => ?_⟩
    rw [m12] at hk
    by_cases hkm : (k : Int) = (gi 0 12).toInt
    · refine ⟨v, by rw [m19, (d1 h3).1, if_pos hkm]; exact hv, hs.fr (Nat.le_refl _) fr (fun j hj _ _ => ?_)⟩
      rw [e70]; unfold t_cpy
      rw [if_pos (by omega), show 350 * (k + 1) + j - 350 * ((gi 0 12).toInt.toNat + 1) + 350 * 0 = 0 + j by omega]
    · obtain ⟨u, h4, h5⟩ := hD.2 k (by omega)
      exact ⟨u, by rw [m19, (d1 h3).1, if_neg hkm]; exact h4, h5.fr (Nat.le_refl _) fr (fun j hj _ _ => off _ (by omega))⟩
theorem t_DR_back (hR : t_R gi gr) (hD : t_DR sh.length gi gl gr) (hm0 : 0 ≤ (gi 0 12).toInt) (hm3 : (gi 0 12).toInt ≤ 3) (xh : t_X w1 sh gi gl gr g1 l1 r1) (hw1 : (t_ndB w1 && (t_nc w1 19 && (t_nc w1 70 && t_un w1 (69, 75)))) = true) (xm : t_X w2 sh g1 l1 r1 g2 l2 r2) (hw2 : (t_ndB w2 && (t_un w2 (0, 6) && (t_un w2 (0, 12) && t_nc w2 19))) = true) (hc : ((gi 0 12).toInt = 0 → (g1 0 12).toInt = 0) ∧ ((gi 0 12).toInt ≠ 0 → (g1 0 12).toInt = (gi 0 12).toInt - 1)) (q1 : Q_d_back gi gl gr x1 g1 l1 r1) (q2 : ((g1 69 75).toInt = 0 → g2 70 = g1 70) ∧ ((g1 69 75).toInt ≠ 0 → ∀ j, g2 70 j = t_cpy (g1 70) (g1 69 75).toInt.toNat 0 350 j)) : t_DR sh.length g2 l2 r2 := by
  simp only [Bool.and_eq_true] at hw1
  obtain ⟨n0, n19, n70, n75⟩ := hw1
  have f1 := t_F_X xh
  have c0 := t_nd_fr xh n0
  have r19 : r1 19 = gr 19 := t_F_nr f1 n19 (by decide)
  have r70 : g1 70 = gi 70 := t_F_nc f1 n70 (by decide)
  have r75 : (g1 69 75).toInt = (gi 0 12).toInt := by rw [(f1 69 75 (by decide) (t_un_ok n75)).1, ← t_R_mk hR]
  obtain ⟨m0, m6, m12, m19⟩ := t_D_m xm hw2
  have fr : ∀ K, (3 ≤ K ∧ K < 19) ∨ (102 ≤ K ∧ K < sh.length) → g2 K = gi K ∧ l2 K = gl K ∧ r2 K = gr K := fun K hK => by
    have a := m0 K (by omega)
    have b := c0 K (by omega)
    exact ⟨a.1.trans b.1, a.2.1.trans b.2.1, a.2.2.trans b.2.2⟩
  obtain ⟨d1, d2⟩ := q1
  by_cases h3 : (gi 0 12).toInt = 0
  · obtain ⟨v, hv, hs⟩ := hD.1
    have e70 : ∀ j, g2 70 j = gi 70 j := fun j => by rw [q2.1 (by omega), r70]
    refine ⟨⟨v, by rw [m6, (d1 h3).1]; exact hv, hs.fr (Nat.le_refl _) fr (fun j _ _ _ => e70 _)⟩, fun k hk => ?_⟩
    rw [m12] at hk
    have := hc.1 h3
    omega
  · have e70 : ∀ j, g2 70 j = t_cpy (gi 70) (gi 0 12).toInt.toNat 0 350 j := fun j => by rw [q2.2 (by omega), r70, r75]
    have ec := hc.2 h3
    have off : ∀ j, 350 ≤ j → g2 70 j = gi 70 j := fun j hj => by
      rw [e70]; unfold t_cpy; rw [if_neg (by omega)]
    obtain ⟨v, hv, hs⟩ := hD.2 ((gi 0 12).toInt - 1).toNat (by omega)
    refine ⟨⟨v, by rw [m6, (d2 h3).1]; exact hv, hs.fr (Nat.le_refl _) fr (fun j hj _ _ => ?_)⟩, fun k hk => ?_⟩
    · rw [e70]; unfold t_cpy
      rw [if_pos (by omega), show 0 + j - 350 * 0 + 350 * (gi 0 12).toInt.toNat = 350 * (((gi 0 12).toInt - 1).toNat + 1) + j by omega]
    · rw [m12] at hk
      obtain ⟨u, h4, h5⟩ := hD.2 k (by omega)
      exact ⟨u, by rw [m19, r19]; exact h4, h5.fr (Nat.le_refl _) fr (fun j hj _ _ => off _ (by omega))⟩
/-- a sail is one or none -/
theorem t_D_sail {D : s_D} (hI : t_I sh gi gr) (hb : t_Cb D) (hm : t_ME 0 gi D) : ∀ s : Nat, (s : Int) < D 1 → 0 ≤ D (56 + 5 * s) ∧ D (56 + 5 * s) ≤ 1 := by
  intro s hs
  have h1 := hm.2.2.1 (56 + 5 * s) (by omega) (by omega)
  rw [Nat.zero_add] at h1
  have hs6 : s = 0 ∨ s = 1 ∨ s = 2 ∨ s = 3 ∨ s = 4 ∨ s = 5 := by have := hb.2.1.2; omega
  have key : 0 ≤ (gi 70 (56 + 5 * s)).toInt ∧ (gi 70 (56 + 5 * s)).toInt ≤ 1 := by
    rcases hs6 with rfl | rfl | rfl | rfl | rfl | rfl
    · exact hI.ab (i := 56) (j := 56) (by decide +kernel) (Nat.le_refl _) (Nat.le_refl _)
    · exact hI.ab (i := 61) (j := 61) (by decide +kernel) (Nat.le_refl _) (Nat.le_refl _)
    · exact hI.ab (i := 66) (j := 66) (by decide +kernel) (Nat.le_refl _) (Nat.le_refl _)
    · exact hI.ab (i := 71) (j := 71) (by decide +kernel) (Nat.le_refl _) (Nat.le_refl _)
    · exact hI.ab (i := 76) (j := 76) (by decide +kernel) (Nat.le_refl _) (Nat.le_refl _)
    · exact hI.ab (i := 81) (j := 81) (by decide +kernel) (Nat.le_refl _) (Nat.le_refl _)
  rw [h1] at key
  exact key
/-- the slot of the other side behind the class's call -/
theorem t_D_0 (hD : t_DR sh.length gi gl gr) (f1 : t_F w1 gi gl gr g1 l1 r1) (h70 : t_nc w1 70 = true) : ∃ (u : Nat) (D : s_D), gr 0 6 = .ref u ∧ t_VL gr u ∧ t_CV gi gl u D ∧ t_Cb D ∧ t_ME 0 g1 D ∧ t_ME 0 gi D := by
  obtain ⟨u, hu, D, hb, -, hl, hc, hm⟩ := hD.1
  have r70 : g1 70 = gi 70 := t_F_nc f1 h70 (by decide)
  exact ⟨u, D, hu, hl, hc, hb, by unfold t_ME; rw [r70]; exact hm, hm⟩
theorem t_L_ship (hI : t_I sh gi gr) (hD : t_DR sh.length gi gl gr) (f1 : t_F w1 gi gl gr g1 l1 r1) (h70 : t_nc w1 70 = true) (q1 : Q_d_ship gi gl gr A A2 x1 g1 l1 r1) (q2 : Q_e_ship g1 l1 r1 A A2 x2 g2 l2 r2) : x1 = x2 := by
  obtain ⟨u, D, hu, hl, hc, hb, hm, hm'⟩ := t_D_0 hD f1 h70
  have k1 := q1 u D hu hl hc hb (t_D_sail hI hb hm')
  have k2 := q2 D hm hb
  apply Int32.toInt_inj.mp
  by_cases hin : 0 ≤ A.toInt ∧ A.toInt < D 1 ∧ 0 ≤ A2.toInt ∧ A2.toInt ≤ 4
  · rw [k1.1 hin, k2.1 hin]
  · rw [k1.2 hin, k2.2 hin]
theorem t_L_cart (hD : t_DR sh.length gi gl gr) (f1 : t_F w1 gi gl gr g1 l1 r1) (h70 : t_nc w1 70 = true) (q1 : Q_d_cart gi gl gr A A2 x1 g1 l1 r1) (q2 : Q_e_cart g1 l1 r1 A A2 x2 g2 l2 r2) : x1 = x2 := by
  obtain ⟨u, D, hu, hl, hc, hb, hm, -⟩ := t_D_0 hD f1 h70
  have k1 := q1 u D hu hl hc hb
  have k2 := q2 D hm hb
  apply Int32.toInt_inj.mp
  by_cases hin : 0 ≤ A.toInt ∧ A.toInt < D 2 ∧ 0 ≤ A2.toInt ∧ A2.toInt ≤ 2
  · rw [k1.1 hin, k2.1 hin]
  · rw [k1.2 hin, k2.2 hin]
end DLAW
