/-! ===== the RULES' steps: the same on both sides ===== -/
/-- no RULES, or these, on both sides (from the place o on) -/
noncomputable def t_RZ (n : Nat) (gi : Nat → Nat → Int32) (v : Value) (o : Nat) : Prop := (v = .null ∧ (gi 70 (o + 8)).toInt = 0) ∨ ∃ (u : Nat) (R : List (List Int × Int)), v = .ref u ∧ (102 ≤ u ∧ u + 5 < n) ∧ t_UK gi u R ∧ t_MQ (fun j => gi 70 (o + j)) R ∧ (gi 70 (o + 8)).toInt = 1
noncomputable def t_RZN (n : Nat) (gi : Nat → Nat → Int32) (gr : Nat → Nat → Value) : Prop := t_RZ n gi (gr 0 7) 0 ∧ ∀ k : Nat, (k : Int) < (gi 0 12).toInt → t_RZ n gi (gr 20 k) (350 * (k + 1))
noncomputable def t_LE (c : Nat) (sh : List (Nat ⊕ (Nat × Nat))) (gi : Nat → Nat → Int32) (gl : Nat → Nat → Int64) (gr : Nat → Nat → Value) : Prop := t_LD c sh gi gl gr ∧ (gi 69 46).toInt = -1 ∧ t_RZN sh.length gi gr
theorem W1_N {sh : List (Nat ⊕ (Nat × Nat))} {gi : Nat → Nat → Int32} {gl : Nat → Nat → Int64} {gr : Nat → Nat → Value} (hR : x_R W1 (sh, gi, gl, gr)) : (gi 69 46).toInt = -1 ∧ t_RZN sh.length gi gr := by
  have h7 : gr 0 7 = .null := ((x_gc_R hR (c := w1_c0) rfl).2.2.2 7 (by decide)).2.2.trans rfl
  have h8 : gi 70 8 = x_cI w1_c70 8 := ((x_gc_R hR (c := w1_c70) rfl).2.2.2 _ (by decide)).1
  have h12 : gi 0 12 = x_cI w1_c0 12 := ((x_gc_R hR (c := w1_c0) rfl).2.2.2 _ (by decide)).1
  have h46 : gi 69 46 = x_cI w1_c69 46 := ((x_gc_R hR (c := w1_c69) rfl).2.2.2 _ (by decide)).1
  refine ⟨by rw [h46]; decide +kernel, Or.inl ⟨h7, ?_⟩, fun k hk => ?_⟩
  · show (gi 70 8).toInt = 0
    rw [h8]; decide +kernel
  · rw [h12] at hk
    have h0 : (x_cI w1_c0 12).toInt = 0 := by decide +kernel
    omega
section RZL
variable {sh sh1 : List (Nat ⊕ (Nat × Nat))} {gi g1 g2 : Nat → Nat → Int32} {gl l1 l2 : Nat → Nat → Int64} {gr r1 r2 : Nat → Nat → Value} {w1 w2 : List (Nat × Nat)} {A x1 x2 : Int32} {n n' o o' N N2 : Nat} {v : Value}
theorem t_RZ.mv (h : t_RZ n gi v o) (hn : n ≤ n') (e : ∀ K, 102 ≤ K → K < n → g1 K = gi K) (em : ∀ j, j < 350 → g1 70 (o' + j) = gi 70 (o + j)) : t_RZ n' g1 v o' := by
  rcases h with ⟨a, b8⟩ | ⟨u, R, a, ⟨c1, c2⟩, b, c, b8⟩
  · exact Or.inl ⟨a, by rw [em 8 (by decide)]; exact b8⟩
  · exact Or.inr ⟨u, R, a, ⟨c1, by omega⟩, b.eq (fun K k1 k2 => e K (by omega) (by omega)), c.ext (fun j hj => em j hj), by rw [em 8 (by decide)]; exact b8⟩
theorem t_RZ_gen (h : t_RZN n gi gr) (hn : n ≤ n') (e : ∀ K, 102 ≤ K → K < n → g2 K = gi K) (e7 : r2 0 7 = gr 0 7) (e12 : g2 0 12 = gi 0 12) (e20 : r2 20 = gr 20) (em : ∀ j, j < 1400 → g2 70 j = gi 70 j) (hm : (gi 0 12).toInt ≤ 3) : t_RZN n' g2 r2 := by
  refine ⟨by rw [e7]; exact h.1.mv hn e (fun j hj => em _ (by omega)), fun k hk => ?_⟩
  rw [e12] at hk
  rw [e20]
  exact (h.2 k hk).mv hn e (fun j hj => em _ (by omega))
theorem t_RZ_same (h : t_RZN sh.length gi gr) (x1 : t_X w1 sh gi gl gr g1 l1 r1) (x2 : t_X w2 sh g1 l1 r1 g2 l2 r2) (hw : t_rsB w1 w2 = true) (em : ∀ j, j < 1400 → g2 70 j = g1 70 j) (hm : (gi 0 12).toInt ≤ 3) : t_RZN sh.length g2 r2 := by
  unfold t_rsB at hw
  simp only [Bool.and_eq_true] at hw
  obtain ⟨a1, a2, a3, a4, a5, a6, a7, a8, a9⟩ := hw
  have f1 := t_F_X x1
  have f2 := t_F_X x2
  refine t_RZ_gen h (Nat.le_refl _) (fun K k1 _ => ?_) ?_ ?_ ?_ (fun j hj => ?_) hm
  · exact (t_nd_fr x2 a2 K (Or.inr k1)).1.trans (t_nd_fr x1 a1 K (Or.inr k1)).1
  · rw [(f2 0 7 (by decide) (t_un_ok a4)).2.2, (f1 0 7 (by decide) (t_un_ok a3)).2.2]
  · rw [(f2 0 12 (by decide) (t_un_ok a6)).1, (f1 0 12 (by decide) (t_un_ok a5)).1]
  · rw [t_F_nr f2 a8 (by decide), t_F_nr f1 a7 (by decide)]
  · rw [em j hj, t_F_nc f1 a9 (by decide)]
theorem t_RZ_rules (h : t_RZN sh.length gi gr) (hT : t_TP gi) (hR : t_R gi gr) (hI2 : t_I sh1 g2 r2) (hle : sh.length ≤ sh1.length) (hm3 : (gi 0 12).toInt ≤ 3) (f1 : t_F w1 gi gl gr g1 l1 r1) (hw1 : (t_nc w1 75 && (t_nc w1 70 && (t_nc w1 20 && t_un w1 (0, 12)))) = true) (h69 : t_in w1 69 10 = false) (xm : t_X w2 sh1 g1 l1 r1 g2 l2 r2) (hw2 : (t_ndB w2 && (t_un w2 (0, 7) && (t_un w2 (0, 12) && t_nc w2 20))) = true) (em : ∀ j, 350 ≤ j → j < 1400 → g2 70 j = g1 70 j)
    (q1 : ((0 ≤ A.toInt ∧ A.toInt ≤ (gi 0 5).toInt ∧ A.toInt ≤ 300) → ∀ n : Nat, (n : Int) = A.toInt → t_RSR gi gl gr sh.length (gi 2) n x1 g1 l1 r1) ∧ (¬ (0 ≤ A.toInt ∧ A.toInt ≤ (gi 0 5).toInt ∧ A.toInt ≤ 300) → x1.toInt = -1 ∧ (∀ K, K ≠ 0 → g1 K = gi K ∧ l1 K = gl K ∧ r1 K = gr K) ∧ r1 0 6 = gr 0 6 ∧ r1 0 7 = gr 0 7))
    (qe1 : (0 ≤ A.toInt ∧ A.toInt ≤ (gi 0 5).toInt ∧ A.toInt ≤ 300) → ∀ n : Nat, (n : Int) = A.toInt → t_RSRe gi gl gr sh.length (gi 2) n x1 g1 l1 r1)
    (q2 : Q_n_rules g1 l1 r1 A x2 g2 l2 r2) (qe2 : ∀ j : Nat, j < 350 → Q_o_rules g1 l1 r1 j A x2 g2 l2 r2) : t_RZN sh1.length g2 r2 := by
  simp only [Bool.and_eq_true] at hw1
  obtain ⟨n75, n70, n20, n12⟩ := hw1
  have e0 : (gi 0 5).toInt = (gi 69 10).toInt := congrArg Int32.toInt (t_R_fed hR)
  have e1 : (g1 69 10).toInt = (gi 69 10).toInt := congrArg Int32.toInt (f1 69 10 (by decide) h69).1
  have r75 : g1 75 = gi 75 := t_F_nc f1 n75 (by decide)
  have r70 : g1 70 = gi 70 := t_F_nc f1 n70 (by decide)
  have r12 : g1 0 12 = gi 0 12 := (f1 0 12 (by decide) (t_un_ok n12)).1
  have r20 : r1 20 = gr 20 := t_F_nr f1 n20 (by decide)
  obtain ⟨m0, m7, m12, m20⟩ := t_RR_m xm hw2
  have same : r1 0 7 = gr 0 7 → x2.toInt = -1 → (∀ K, 102 ≤ K → K < sh.length → g1 K = gi K) → t_RZN sh1.length g2 r2 := by
    intro s7 s3 sK
    refine t_RZ_gen h hle (fun K k1 k2 => (m0 K k1).trans (sK K k1 k2)) (m7.trans s7) (m12.trans r12) (m20.trans r20) (fun j hj => ?_) hm3
    by_cases hj3 : j < 350
    · rw [(qe2 j hj3).2 s3, r70]
    · rw [em j (by omega) hj, r70]
  by_cases hin : 0 ≤ A.toInt ∧ A.toInt ≤ (gi 0 5).toInt ∧ A.toInt ≤ 300
  · obtain ⟨n, hn⟩ : ∃ n : Nat, (n : Int) = A.toInt := ⟨A.toInt.toNat, by omega⟩
    have pl := (q1.1 hin n hn).2
    have pl2 : ∀ K, 102 ≤ K → K < sh.length → g1 K = gi K := fun K a b => (pl K (by omega) b).1
    rcases t_RU_two hT hR f1 n75 h69 hin q1.1 q2 with ⟨k, ⟨k1, k2⟩, _, _, ⟨c1, c2⟩, c3, c8⟩ | ⟨⟨_, k2⟩, _, s7, _⟩
    · have hr7 : r2 0 7 = .ref (sh.length + 2) := m7.trans c1
      have hb : 102 ≤ sh.length + 2 ∧ sh.length + 2 + 5 < sh1.length := by
        rcases hI2.2.2.2.1.2.1 with hh | ⟨a, ha, hp⟩
        · exact absurd (hr7.symm.trans hh) (by intro h9; cases h9)
        · have hk : sh.length + 2 = a := Value.ref.inj (hr7.symm.trans ha)
          subst hk
          obtain ⟨_, hp2, _, _, _, _, m, _, _, _, _, _, _, hp5⟩ := hp
          exact ⟨hp2, t_lt hp5⟩
      have hU : t_UK g1 (sh.length + 2) (s_rle (gi 2) n 301 0 0) := by
        rcases (qe1 hin n hn).1 with ⟨k', b1, b2, b3, b4, b5, b6, b7, b8⟩ | ⟨p, x, b0, b1, b2, -⟩
        · exact b8
        · omega
      have hM := (qe2 0 (by decide)).1 (by omega) (gi 2) n hn (fun j hj => by rw [r75]; exact (hT j (by omega)).1.symm) (fun j hj => (hT j (by omega)).2) (by omega)
      refine ⟨Or.inr ⟨sh.length + 2, s_rle (gi 2) n 301 0 0, hr7, hb, hU.eq (fun K a _ => m0 K (by omega)), hM.2.ext (fun j _ => congrArg (g2 70) (Nat.zero_add j)), c8⟩, fun j hj => ?_⟩
      rw [m12, r12] at hj
      rw [m20, r20]
      exact (h.2 j hj).mv hle (fun K k1 k2 => (m0 K k1).trans (pl2 K k1 k2)) (fun i hi => by rw [em _ (by omega) (by omega), r70])
    · exact same s7 k2 pl2
  · have hh := q1.2 hin
    exact same hh.2.2.2 (q2.2 (by omega)).1 (fun K a _ => (hh.2.1 K (by omega)).1)
theorem t_RZ_river (h : t_RZN sh.length gi gr) (hT : t_TP gi) (hR : t_R gi gr) (hle : sh.length ≤ sh1.length) (hm3 : (gi 0 12).toInt ≤ 3) (f1 : t_F w1 gi gl gr g1 l1 r1) (hw1 : (t_nc w1 75 && (t_nc w1 70 && (t_nc w1 20 && t_un w1 (0, 12)))) = true) (h69 : t_in w1 69 10 = false) (xm : t_X w2 sh1 g1 l1 r1 g2 l2 r2) (hw2 : (t_ndB w2 && (t_un w2 (0, 7) && (t_un w2 (0, 12) && t_nc w2 20))) = true) (em : ∀ j, 350 ≤ j → j < 1400 → g2 70 j = g1 70 j) (q1 : ((0 ≤ A.toInt ∧ A.toInt ≤ (gi 0 5).toInt) → ∀ n : Nat, (n : Int) = A.toInt → t_RES gi gl gr sh.length (gi 2) n x1 g1 l1 r1) ∧ (¬ (0 ≤ A.toInt ∧ A.toInt ≤ (gi 0 5).toInt) → x1.toInt = -1 ∧ (∀ K, K ≠ 0 → g1 K = gi K ∧ l1 K = gl K ∧ r1 K = gr K) ∧ r1 0 6 = gr 0 6 ∧ r1 0 7 = gr 0 7) ∧ (0 ≤ A.toInt ∧ A.toInt ≤ (gi 0 5).toInt → sh.length + 18 ≤ sh1.length)) (q2 : Q_n_river g1 l1 r1 A x2 g2 l2 r2) : t_RZN sh1.length g2 r2 := by
  simp only [Bool.and_eq_true] at hw1
  obtain ⟨n75, n70, n20, n12⟩ := hw1
  have e0 : (gi 0 5).toInt = (gi 69 10).toInt := congrArg Int32.toInt (t_R_fed hR)
  have e1 : (g1 69 10).toInt = (gi 69 10).toInt := congrArg Int32.toInt (f1 69 10 (by decide) h69).1
  have r75 : g1 75 = gi 75 := t_F_nc f1 n75 (by decide)
  have r70 : g1 70 = gi 70 := t_F_nc f1 n70 (by decide)
  have r12 : g1 0 12 = gi 0 12 := (f1 0 12 (by decide) (t_un_ok n12)).1
  have r20 : r1 20 = gr 20 := t_F_nr f1 n20 (by decide)
  obtain ⟨m0, m7, m12, m20⟩ := t_RR_m xm hw2
  have same : r1 0 7 = gr 0 7 → (∀ j, j < 350 → g2 70 j = g1 70 j) → (∀ K, 102 ≤ K → K < sh.length → g1 K = gi K) → t_RZN sh1.length g2 r2 := by
    intro s7 s3 sK
    refine t_RZ_gen h hle (fun K k1 k2 => (m0 K k1).trans (sK K k1 k2)) (m7.trans s7) (m12.trans r12) (m20.trans r20) (fun j hj => ?_) hm3
    by_cases hj3 : j < 350
    · rw [s3 j hj3, r70]
    · rw [em j (by omega) hj, r70]
  by_cases hin : 0 ≤ A.toInt ∧ A.toInt ≤ (gi 0 5).toInt
  · obtain ⟨n, hn⟩ : ∃ n : Nat, (n : Int) = A.toInt := ⟨A.toInt.toNat, by omega⟩
    obtain ⟨p1, pl⟩ := q1.1 hin n hn
    have pl2 : ∀ K, 102 ≤ K → K < sh.length → g1 K = gi K := fun K a b => (pl K (by omega) b).1
    have p2 := q2.1 (by omega) (gi 2) n hn (fun j hj => by rw [r75]; exact (hT j (by omega)).1.symm) (fun j hj => (hT j (by omega)).2)
    rcases p1 with ⟨q, D, a1, a2, a3, a4, a5, a6, a7, a8⟩ | ⟨p, x, D, a0, a1, a2, a3, a4, a5, a6⟩
    · rcases p2 with ⟨q', D', b1, b2, b3, b4, b5, b6⟩ | ⟨p', x', D', b0, b1, -⟩
      · have hd : s_d3 D' := Eq.mp (congrArg (fun r : s_R => s_d3 r.2.2) b1) (s_d3_rv _ _ _ ⟨rfl, rfl⟩)
        refine ⟨Or.inl ⟨m7.trans a6, b4.2.2.2.2.2.trans hd.2⟩, fun j hj => ?_⟩
        rw [m12, r12] at hj
        rw [m20, r20]
        exact (h.2 j hj).mv hle (fun K k1 k2 => (m0 K k1).trans (pl2 K k1 k2)) (fun i hi => by rw [em _ (by omega) (by omega), r70])
      · exact (s_ok_bad b0 (a1.symm.trans b1)).elim
    · rcases p2 with ⟨q', D', b1, -⟩ | ⟨p', x', D', b0, b1, b2, b3, b4, b5⟩
      · exact (s_ok_bad a0 (b1.symm.trans a1)).elim
      · exact same a6 b5 pl2
  · have hh := q1.2.1 hin
    exact same hh.2.2.2 (q2.2 (by omega)).2 (fun K a _ => (hh.2.1 K (by omega)).1)
theorem t_RZ_mark (hR : t_R gi gr) (hS : t_RZN sh.length gi gr) (hm0 : 0 ≤ (gi 0 12).toInt) (hm3 : (gi 0 12).toInt ≤ 3) (xh : t_X w1 sh gi gl gr g1 l1 r1) (hw1 : (t_ndB w1 && (t_un w1 (0, 7) && (t_nc w1 70 && t_un w1 (69, 75)))) = true) (xm : t_X w2 sh g1 l1 r1 g2 l2 r2) (hw2 : (t_ndB w2 && (t_un w2 (0, 7) && (t_un w2 (0, 12) && t_nc w2 20))) = true) (hc : ((gi 0 12).toInt = 3 → (g1 0 12).toInt = 3) ∧ ((gi 0 12).toInt ≠ 3 → (g1 0 12).toInt = (gi 0 12).toInt + 1)) (q1 : Q_d_mark gi gl gr x1 g1 l1 r1) (q2 : ((g1 69 75).toInt = 3 → g2 70 = g1 70) ∧ ((g1 69 75).toInt ≠ 3 → ∀ j, g2 70 j = t_cpy (g1 70) 0 ((g1 69 75).toInt.toNat + 1) 350 j)) : t_RZN sh.length g2 r2 := by
  simp only [Bool.and_eq_true] at hw1
  obtain ⟨n0, n7, n70, n75⟩ := hw1
  have f1 := t_F_X xh
  have r7 : r1 0 7 = gr 0 7 := (f1 0 7 (by decide) (t_un_ok n7)).2.2
  have r70 : g1 70 = gi 70 := t_F_nc f1 n70 (by decide)
  have r75 : (g1 69 75).toInt = (gi 0 12).toInt := by rw [(f1 69 75 (by decide) (t_un_ok n75)).1, ← t_R_mk hR]
  obtain ⟨m0, m7, m12, m20⟩ := t_RR_m xm hw2
  have fr : ∀ K, 102 ≤ K → K < sh.length → g2 K = gi K := fun K k1 _ => (m0 K k1).trans (t_nd_fr xh n0 K (Or.inr k1)).1
  obtain ⟨d1, d2⟩ := q1
  by_cases h3 : (gi 0 12).toInt = 3
  · have e70 : ∀ j, g2 70 j = gi 70 j := fun j => by rw [q2.1 (by omega), r70]
    refine ⟨by rw [m7, r7]; exact hS.1.mv (Nat.le_refl _) fr (fun j _ => e70 _), fun k hk => ?_⟩
    rw [m12] at hk
    have h4 := hS.2 k (by have := hc.1 h3; omega)
    rw [m20, (d2 h3).2]
    exact h4.mv (Nat.le_refl _) fr (fun j _ => e70 _)
  · have e70 : ∀ j, g2 70 j = t_cpy (gi 70) 0 ((gi 0 12).toInt.toNat + 1) 350 j := fun j => by rw [q2.2 (by omega), r70, r75]
    have ec := hc.2 h3
    have off : ∀ j, (j < 350 * ((gi 0 12).toInt.toNat + 1) ∨ 350 * ((gi 0 12).toInt.toNat + 1) + 350 ≤ j) → g2 70 j = gi 70 j := fun j hj => by
      rw [e70]; unfold t_cpy; rw [if_neg (by omega)]
    refine ⟨by rw [m7, r7]; exact hS.1.mv (Nat.le_refl _) fr (fun j _ => off _ (by omega)), fun k hk => ?_⟩
    rw [m12] at hk
    by_cases hkm : (k : Int) = (gi 0 12).toInt
    · rw [m20, (d1 h3).2, if_pos hkm]
      refine hS.1.mv (Nat.le_refl _) fr (fun j hj => ?_)
      rw [e70]; unfold t_cpy
      rw [if_pos (by omega), show 350 * (k + 1) + j - 350 * ((gi 0 12).toInt.toNat + 1) + 350 * 0 = 0 + j by omega]
    · have h4 := hS.2 k (by omega)
      rw [m20, (d1 h3).2, if_neg hkm]
      exact h4.mv (Nat.le_refl _) fr (fun j _ => off _ (by omega))
theorem t_RZ_back (hR : t_R gi gr) (hS : t_RZN sh.length gi gr) (hm0 : 0 ≤ (gi 0 12).toInt) (hm3 : (gi 0 12).toInt ≤ 3) (xh : t_X w1 sh gi gl gr g1 l1 r1) (hw1 : (t_ndB w1 && (t_nc w1 20 && (t_nc w1 70 && t_un w1 (69, 75)))) = true) (xm : t_X w2 sh g1 l1 r1 g2 l2 r2) (hw2 : (t_ndB w2 && (t_un w2 (0, 7) && (t_un w2 (0, 12) && t_nc w2 20))) = true) (hc : ((gi 0 12).toInt = 0 → (g1 0 12).toInt = 0) ∧ ((gi 0 12).toInt ≠ 0 → (g1 0 12).toInt = (gi 0 12).toInt - 1)) (q1 : Q_d_back gi gl gr x1 g1 l1 r1) (q2 : ((g1 69 75).toInt = 0 → g2 70 = g1 70) ∧ ((g1 69 75).toInt ≠ 0 → ∀ j, g2 70 j = t_cpy (g1 70) (g1 69 75).toInt.toNat 0 350 j)) : t_RZN sh.length g2 r2 := by
  simp only [Bool.and_eq_true] at hw1
  obtain ⟨n0, n20, n70, n75⟩ := hw1
  have f1 := t_F_X xh
  have r20 : r1 20 = gr 20 := t_F_nr f1 n20 (by decide)
  have r70 : g1 70 = gi 70 := t_F_nc f1 n70 (by decide)
  have r75 : (g1 69 75).toInt = (gi 0 12).toInt := by rw [(f1 69 75 (by decide) (t_un_ok n75)).1, ← t_R_mk hR]
  obtain ⟨m0, m7, m12, m20⟩ := t_RR_m xm hw2
  have fr : ∀ K, 102 ≤ K → K < sh.length → g2 K = gi K := fun K k1 _ => (m0 K k1).trans (t_nd_fr xh n0 K (Or.inr k1)).1
  obtain ⟨d1, d2⟩ := q1
  by_cases h3 : (gi 0 12).toInt = 0
  · have e70 : ∀ j, g2 70 j = gi 70 j := fun j => by rw [q2.1 (by omega), r70]
    refine ⟨by rw [m7, (d1 h3).2]; exact hS.1.mv (Nat.le_refl _) fr (fun j _ => e70 _), fun k hk => ?_⟩
    rw [m12] at hk
    have := hc.1 h3
    omega
  · have e70 : ∀ j, g2 70 j = t_cpy (gi 70) (gi 0 12).toInt.toNat 0 350 j := fun j => by rw [q2.2 (by omega), r70, r75]
    have ec := hc.2 h3
    have off : ∀ j, 350 ≤ j → g2 70 j = gi 70 j := fun j hj => by
      rw [e70]; unfold t_cpy; rw [if_neg (by omega)]
    refine ⟨?_, fun k hk => ?_⟩
    · rw [m7, (d2 h3).2]
      refine (hS.2 ((gi 0 12).toInt - 1).toNat (by omega)).mv (Nat.le_refl _) fr (fun j hj => ?_)
      rw [e70]; unfold t_cpy
      rw [if_pos (by omega), show 0 + j - 350 * 0 + 350 * (gi 0 12).toInt.toNat = 350 * (((gi 0 12).toInt - 1).toNat + 1) + j by omega]
    · rw [m12] at hk
      have h4 := hS.2 k (by omega)
      rw [m20, r20]
      exact h4.mv (Nat.le_refl _) fr (fun j _ => off _ (by omega))
/-! ===== keep, waits: the same on both sides ===== -/
variable {A2 : Int32} {D : s_D}
theorem s_D45 (hI : t_I sh gi gr) (hm : t_ME 0 gi D) : D 4 ≤ 20 ∧ D 5 ≤ 20 := by
  have h4 : (gi 70 4).toInt = D 4 := hm.1.2.1
  have h5 : (gi 70 5).toInt = D 5 := hm.1.2.2.1
  have b4 := hI.ab (by decide +kernel : t_abr 70 4 4 0 20 = true) (Nat.le_refl _) (Nat.le_refl _)
  have b5 := hI.ab (by decide +kernel : t_abr 70 5 5 0 20 = true) (Nat.le_refl _) (Nat.le_refl _)
  omega
theorem t_RZ_8 (h : t_RZ n gi v 0) : (v ≠ .null ↔ (gi 70 8).toInt ≠ 0) ∧ ∀ u, v = .ref u → ∃ R, 102 ≤ u ∧ t_UK gi u R ∧ t_MQ (gi 70) R ∧ s_gd R := by
  rcases h with ⟨a, b8⟩ | ⟨u, R, a, ⟨c1, c2⟩, b, c, b8⟩
  · have b9 : (gi 70 8).toInt = 0 := b8
    exact ⟨⟨fun h => absurd a h, fun h => absurd b9 h⟩, fun u h => by cases a.symm.trans h⟩
  · have b9 : (gi 70 8).toInt = 1 := b8
    have c' : t_MQ (gi 70) R := c.ext (fun j _ => (congrArg (gi 70) (Nat.zero_add j)).symm)
    refine ⟨⟨fun _ => by omega, fun _ h2 => by cases a.symm.trans h2⟩, fun u' h => ?_⟩
    have hu : u = u' := Value.ref.inj (a.symm.trans h)
    subst hu
    exact ⟨R, c1, b, c', c'.2.2.2⟩
theorem t_L_keep (hI : t_I sh gi gr) (hD : t_DR sh.length gi gl gr) (hZ : t_RZN sh.length gi gr) (f1 : t_F w1 gi gl gr g1 l1 r1) (h70 : t_nc w1 70 = true) (hN1 : (g1 69 46).toInt = -1) (h4 : 1 ≤ (g1 70 4).toInt) (q1 : Q_k_keep gi gl gr A x1 g1 l1 r1) (q2 : Q_e_keep g1 l1 r1 A x2 g2 l2 r2) : x1 = x2 := by
  obtain ⟨u, hu, D, hb, hv, hl, hc, hm⟩ := hD.1
  have r70 : g1 70 = gi 70 := t_F_nc f1 h70 (by decide)
  have hm2 : t_ME 0 g1 D := by unfold t_ME; rw [r70]; exact hm
  have hd : s_DB D := s_DB_of hI hm hb (by rw [← r70]; exact h4)
  have d45 := s_D45 hI hm
  have k1 := q1 u D hu hl hc hb hv.1 (t_D_sail hI hb hm) hd d45.1 d45.2
  have k2 := q2 D hm2 hb hd hN1
  rw [r70] at k2
  obtain ⟨h8, hR⟩ := t_RZ_8 hZ.1
  by_cases hin : (-1 ≤ A.toInt ∧ A.toInt ≤ 9999) ∧ gr 0 7 ≠ .null
  · have h0 := hZ.1
    rcases h0 with ⟨a, _⟩ | ⟨u2, R0, a, _⟩
    · exact absurd a hin.2
    · obtain ⟨R, c1, c2, c3, c4⟩ := hR u2 a
      rw [k1.1 hin u2 R a c1 c2 c4, k2.1 ⟨hin.1, h8.mp hin.2⟩ R c3 c2.crs]
  · apply Int32.toInt_inj.mp
    rw [k1.2 hin, k2.2 (fun h => hin ⟨h.1, h8.mpr h.2⟩)]
theorem t_L_waits (hI : t_I sh gi gr) (hD : t_DR sh.length gi gl gr) (hZ : t_RZN sh.length gi gr) (f1 : t_F w1 gi gl gr g1 l1 r1) (h70 : t_nc w1 70 = true) (hN1 : (g1 69 46).toInt = -1) (h4 : 1 ≤ (g1 70 4).toInt) (q1 : Q_k_waits gi gl gr A A2 x1 g1 l1 r1) (q2 : Q_e_waits g1 l1 r1 A A2 x2 g2 l2 r2) : x1 = x2 := by
  obtain ⟨u, hu, D, hb, hv, hl, hc, hm⟩ := hD.1
  have r70 : g1 70 = gi 70 := t_F_nc f1 h70 (by decide)
  have hm2 : t_ME 0 g1 D := by unfold t_ME; rw [r70]; exact hm
  have hd : s_DB D := s_DB_of hI hm hb (by rw [← r70]; exact h4)
  have d45 := s_D45 hI hm
  have k1 := q1 u D hu hl hc hb hv.1 (t_D_sail hI hb hm) hd d45.1 d45.2
  have k2 := q2 D hm2 hb hd hN1
  rw [r70] at k2
  obtain ⟨h8, hR⟩ := t_RZ_8 hZ.1
  by_cases hin : (0 ≤ A.toInt ∧ A.toInt ≤ 9999 ∧ 1 ≤ A2.toInt ∧ A2.toInt ≤ 20 ∧ A.toInt + A2.toInt ≤ 10000) ∧ gr 0 7 ≠ .null
  · have h0 := hZ.1
    rcases h0 with ⟨a, _⟩ | ⟨u2, R0, a, _⟩
    · exact absurd a hin.2
    · obtain ⟨R, c1, c2, c3, c4⟩ := hR u2 a
      rw [k1.1 hin u2 R a c1 c2 c4, k2.1 ⟨hin.1, h8.mp hin.2⟩ R c3 c2.crs]
  · apply Int32.toInt_inj.mp
    rw [k1.2 hin, k2.2 (fun h => hin ⟨h.1, h8.mpr h.2⟩)]
end RZL
