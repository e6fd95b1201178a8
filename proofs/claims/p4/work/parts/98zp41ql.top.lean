/-! ===== the latest fraction: the same on both sides ===== -/
noncomputable def t_TB (gl : Nat → Nat → Int64) : Prop := gl 0 1 = gl 69 3 ∧ gl 0 2 = gl 69 4
noncomputable def t_LT9 (c : Nat) (sh : List (Nat ⊕ (Nat × Nat))) (gi : Nat → Nat → Int32) (gl : Nat → Nat → Int64) (gr : Nat → Nat → Value) : Prop := t_LD c sh gi gl gr ∧ (gi 69 46).toInt = -1 ∧ t_RZN sh.length gi gr ∧ t_TB gl
theorem W1_T {sh : List (Nat ⊕ (Nat × Nat))} {gi : Nat → Nat → Int32} {gl : Nat → Nat → Int64} {gr : Nat → Nat → Value} (hR : x_R W1 (sh, gi, gl, gr)) : (gi 69 46).toInt = -1 ∧ t_RZN sh.length gi gr ∧ t_TB gl := by
  have h1 : gl 0 1 = x_cL w1_c0 1 := ((x_gc_R hR (c := w1_c0) rfl).2.2.2 1 (by decide)).2.1
  have h2 : gl 0 2 = x_cL w1_c0 2 := ((x_gc_R hR (c := w1_c0) rfl).2.2.2 2 (by decide)).2.1
  have h3 : gl 69 3 = x_cL w1_c69 3 := ((x_gc_R hR (c := w1_c69) rfl).2.2.2 3 (by decide)).2.1
  have h4 : gl 69 4 = x_cL w1_c69 4 := ((x_gc_R hR (c := w1_c69) rfl).2.2.2 4 (by decide)).2.1
  refine ⟨(W1_N hR).1, (W1_N hR).2, ?_, ?_⟩
  · rw [h1, h3]; decide +kernel
  · rw [h2, h4]; decide +kernel
noncomputable def t_tbB (w1 w2 : List (Nat × Nat)) : Bool := t_un w1 (0, 1) && (t_un w1 (0, 2) && (t_un w1 (69, 3) && (t_un w1 (69, 4) && (t_un w2 (0, 1) && (t_un w2 (0, 2) && (t_un w2 (69, 3) && t_un w2 (69, 4)))))))
section TBL
variable {sh sh1 : List (Nat ⊕ (Nat × Nat))} {gi g1 g2 : Nat → Nat → Int32} {gl l1 l2 : Nat → Nat → Int64} {gr r1 r2 : Nat → Nat → Value} {w1 w2 : List (Nat × Nat)} {A A2 x1 x2 : Int32} {Y y1 y2 : Int64} {D : s_D}
theorem t_TB_same (h : t_TB gl) (f1 : t_F w1 gi gl gr g1 l1 r1) (f2 : t_F w2 g1 l1 r1 g2 l2 r2) (hw : t_tbB w1 w2 = true) : t_TB l2 := by
  unfold t_tbB at hw
  simp only [Bool.and_eq_true] at hw
  obtain ⟨a1, a2, a3, a4, b1, b2, b3, b4⟩ := hw
  refine ⟨?_, ?_⟩
  · rw [(f2 0 1 (by decide) (t_un_ok b1)).2.1, (f1 0 1 (by decide) (t_un_ok a1)).2.1, (f2 69 3 (by decide) (t_un_ok b3)).2.1, (f1 69 3 (by decide) (t_un_ok a3)).2.1]; exact h.1
  · rw [(f2 0 2 (by decide) (t_un_ok b2)).2.1, (f1 0 2 (by decide) (t_un_ok a2)).2.1, (f2 69 4 (by decide) (t_un_ok b4)).2.1, (f1 69 4 (by decide) (t_un_ok a4)).2.1]; exact h.2
/-- both told alike, or both left as they were -/
theorem t_TB_two {a b c d : Int} (h : t_TB gl) (f1 : t_F w1 gi gl gr g1 l1 r1) (f2 : t_F w2 g1 l1 r1 g2 l2 r2) (hw : (t_un w1 (69, 3) && (t_un w1 (69, 4) && (t_un w2 (0, 1) && t_un w2 (0, 2)))) = true) (k : ((l1 0 1).toInt = a ∧ (l1 0 2).toInt = b ∧ (l2 69 3).toInt = a ∧ (l2 69 4).toInt = b) ∨ ((l1 0 1 = gl 0 1 ∧ l1 0 2 = gl 0 2) ∧ l2 69 3 = l1 69 3 ∧ l2 69 4 = l1 69 4)) : t_TB l2 := by
  simp only [Bool.and_eq_true] at hw
  obtain ⟨a3, a4, b1, b2⟩ := hw
  have e1 := (f2 0 1 (by decide) (t_un_ok b1)).2.1
  have e2 := (f2 0 2 (by decide) (t_un_ok b2)).2.1
  rcases k with ⟨k1, k2, k3, k4⟩ | ⟨⟨k1, k2⟩, k3, k4⟩
  · exact ⟨by rw [e1]; exact Int64.toInt_inj.mp (k1.trans k3.symm), by rw [e2]; exact Int64.toInt_inj.mp (k2.trans k4.symm)⟩
  · exact ⟨by rw [e1, k1, k3, (f1 69 3 (by decide) (t_un_ok a3)).2.1]; exact h.1, by rw [e2, k2, k4, (f1 69 4 (by decide) (t_un_ok a4)).2.1]; exact h.2⟩
theorem t_TB_doubt (h : t_TB gl) (hD : t_DR sh.length gi gl gr) (f1 : t_F w1 gi gl gr g1 l1 r1) (f2 : t_F w2 g1 l1 r1 g2 l2 r2) (h70 : t_nc w1 70 = true) (hw : (t_un w1 (69, 3) && (t_un w1 (69, 4) && (t_un w2 (0, 1) && t_un w2 (0, 2)))) = true) (q1 : Q_d_doubtF gi gl gr Y A x1 g1 l1 r1) (q2 : Q_e_doubtF g1 l1 r1 Y A x2 g2 l2 r2) : t_TB l2 := by
  obtain ⟨u, D, hu, hl, hc, hb, hm, -⟩ := t_D_0 hD f1 h70
  have k1 := q1 u D hu hl hc hb
  have k2 := q2 D hm hb
  by_cases hin : 1 ≤ Y.toInt ∧ 0 ≤ A.toInt ∧ A.toInt < D 0 ∧ ¬ s_ct D Y (-1) = 0
  · exact t_TB_two (c := 0) (d := 0) h f1 f2 hw (Or.inl ⟨(k1.1 hin).1, (k1.1 hin).2, (k2.1 hin).1, (k2.1 hin).2⟩)
  · exact t_TB_two (a := 0) (b := 0) (c := 0) (d := 0) h f1 f2 hw (Or.inr ⟨k1.2 hin, k2.2 hin⟩)
theorem t_TB_odds (h : t_TB gl) (hI : t_I sh gi gr) (hD : t_DR sh.length gi gl gr) (hZ : t_RZN sh.length gi gr) (f1 : t_F w1 gi gl gr g1 l1 r1) (f2 : t_F w2 g1 l1 r1 g2 l2 r2) (h70 : t_nc w1 70 = true) (hw : (t_un w1 (69, 3) && (t_un w1 (69, 4) && (t_un w2 (0, 1) && t_un w2 (0, 2)))) = true) (hN1 : (g1 69 46).toInt = -1) (h4 : 1 ≤ (g1 70 4).toInt) (q1 : Q_k_odds gi gl gr A A2 x1 g1 l1 r1) (q2 : Q_e_oddsF g1 l1 r1 A A2 x2 g2 l2 r2) : t_TB l2 := by
  obtain ⟨u, hu, D, hb, hv, hl, hc, hm⟩ := hD.1
  have r70 : g1 70 = gi 70 := t_F_nc f1 h70 (by decide)
  have hm2 : t_ME 0 g1 D := by unfold t_ME; rw [r70]; exact hm
  have hd : s_DB D := s_DB_of hI hm hb (by rw [← r70]; exact h4)
  have d45 := s_D45 hI hm
  have k1 := q1 u D hu hl hc hb hv.1 (t_D_sail hI hb hm) hd d45.1 d45.2
  have k2 := q2 D hm2 hb hd hN1
  rw [r70] at k2
  obtain ⟨h8, hR⟩ := t_RZ_8 hZ.1
  by_cases hin : (0 ≤ A.toInt ∧ A.toInt ≤ 9999 ∧ 1 ≤ A2.toInt ∧ A2.toInt ≤ 20 ∧ A.toInt + A2.toInt ≤ 10000) ∧ gr 0 7 ≠ .null
  · have h0 := hZ.1
    rcases h0 with ⟨a, _⟩ | ⟨u2, R0, a, _⟩
    · exact absurd a hin.2
    · obtain ⟨R, c1, c2, c3, c4⟩ := hR u2 a
      have p1 := k1.1 hin u2 R a c1 c2 c4
      have p2 := k2.1 ⟨hin.1, h8.mp hin.2⟩ R c3 c2.crs
      exact t_TB_two (c := 0) (d := 0) h f1 f2 hw (Or.inl ⟨p1.1, p1.2, p2.1, p2.2⟩)
  · exact t_TB_two (a := 0) (b := 0) (c := 0) (d := 0) h f1 f2 hw (Or.inr ⟨k1.2 hin, k2.2 (fun h => hin ⟨h.1, h8.mpr h.2⟩)⟩)
theorem t_L_top (h : t_TB gl) (f1 : t_F w1 gi gl gr g1 l1 r1) (hu : t_un w1 (69, 3) = true) (q1 : Q_d_top gi gl gr y1 g1 l1 r1) (q2 : Q_e_top g1 l1 r1 y2 g2 l2 r2) : y1 = y2 := by
  have e : l1 69 3 = gl 69 3 := (f1 69 3 (by decide) (t_un_ok hu)).2.1
  have k1 : y1 = gl 0 1 := q1
  have k2 : y2 = l1 69 3 := q2
  rw [k1, k2, e]; exact h.1
theorem t_L_bottom (h : t_TB gl) (f1 : t_F w1 gi gl gr g1 l1 r1) (hu : t_un w1 (69, 4) = true) (q1 : Q_d_bottom gi gl gr y1 g1 l1 r1) (q2 : Q_e_bottom g1 l1 r1 y2 g2 l2 r2) : y1 = y2 := by
  have e : l1 69 4 = gl 69 4 := (f1 69 4 (by decide) (t_un_ok hu)).2.1
  have k1 : y1 = gl 0 2 := q1
  have k2 : y2 = l1 69 4 := q2
  rw [k1, k2, e]; exact h.2
end TBL
