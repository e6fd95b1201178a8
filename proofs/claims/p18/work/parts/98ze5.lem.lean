/-! ===== SOUND, HEARD: the answers are alike ===== -/
section SNDL
variable {sh : List (Nat ⊕ (Nat × Nat))} {gi g1 g2 : Nat → Nat → Int32} {gl l1 l2 : Nat → Nat → Int64} {gr r1 r2 : Nat → Nat → Value} {w1 : List (Nat × Nat)} {A A2 A3 : Int32} {x1 x2 : Int64}
theorem t_L_sound (hD : t_DR sh.length gi gl gr) (f1 : t_F w1 gi gl gr g1 l1 r1) (h70 : t_nc w1 70 = true) (q1 : Q_d_sound gi gl gr A x1 g1 l1 r1) (q2 : Q_e_sound g1 l1 r1 A x2 g2 l2 r2) : x1 = x2 := by
  obtain ⟨u, D, hu, hl, hc, hb, hm, -⟩ := t_D_0 hD f1 h70
  have k1 := q1 u D hu hl hc hb
  have k2 := q2 D hm hb
  by_cases hin : 0 ≤ A.toInt ∧ A.toInt < D 0
  · rw [k1.1 hin, k2.1 hin]
  · apply Int64.toInt_inj.mp; rw [k1.2 hin, k2.2 hin]
theorem t_L_heard (hD : t_DR sh.length gi gl gr) (f1 : t_F w1 gi gl gr g1 l1 r1) (h70 : t_nc w1 70 = true) (q1 : Q_d_heard gi gl gr A x1 g1 l1 r1) (q2 : Q_e_heard g1 l1 r1 A x2 g2 l2 r2) : x1 = x2 := by
  obtain ⟨u, D, hu, hl, hc, hb, hm, -⟩ := t_D_0 hD f1 h70
  have k1 := q1 u D hu hl hc hb
  have k2 := q2 D hm hb
  by_cases hin : 0 ≤ A.toInt ∧ A.toInt < D 0
  · rw [k1.1 hin, k2.1 hin]
  · apply Int64.toInt_inj.mp; rw [k1.2 hin, k2.2 hin]
theorem t_L_together (hD : t_DR sh.length gi gl gr) (f1 : t_F w1 gi gl gr g1 l1 r1) (h70 : t_nc w1 70 = true) (q1 : Q_d_together gi gl gr A A2 A3 x1 g1 l1 r1) (q2 : Q_e_together g1 l1 r1 A A2 A3 x2 g2 l2 r2) : x1 = x2 := by
  obtain ⟨u, D, hu, hl, hc, hb, hm, -⟩ := t_D_0 hD f1 h70
  have k1 := q1 u D hu hl hc hb
  have k2 := q2 D hm hb
  by_cases hin : 0 ≤ A.toInt ∧ A.toInt < D 0 ∧ 0 ≤ A2.toInt ∧ A2.toInt < D 0 ∧ 0 ≤ A3.toInt ∧ A3.toInt ≤ 12
  · rw [k1.1 hin, k2.1 hin]
  · apply Int64.toInt_inj.mp; rw [k1.2 hin, k2.2 hin]
end SNDL
