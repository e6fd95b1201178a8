section PRTL
variable {sh : List (Nat ⊕ (Nat × Nat))} {gi g1 g2 : Nat → Nat → Int32} {gl l1 l2 : Nat → Nat → Int64} {gr r1 r2 : Nat → Nat → Value} {w1 : List (Nat × Nat)} {A : Int64} {x1 x2 : Int32}
theorem t_L_parts (hD : t_DR sh.length gi gl gr) (f1 : t_F w1 gi gl gr g1 l1 r1) (h70 : t_nc w1 70 = true) (q1 : Q_d_parts gi gl gr A x1 g1 l1 r1) (q2 : Q_e_parts g1 l1 r1 A x2 g2 l2 r2) : x1 = x2 := by
  obtain ⟨u, D, hu, hl, hc, hb, hm, -⟩ := t_D_0 hD f1 h70
  have k1 := q1 u D hu hl hc hb
  have k2 := q2 D hm hb
  by_cases hin : 1 ≤ A.toInt
  · rw [k1.1 hin, k2.1 hin]
  · apply Int32.toInt_inj.mp; rw [k1.2 (by omega), k2.2 (by omega)]
end PRTL
