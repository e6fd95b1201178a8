section ALKL
variable {sh : List (Nat ⊕ (Nat × Nat))} {gi g1 g2 : Nat → Nat → Int32} {gl l1 l2 : Nat → Nat → Int64} {gr r1 r2 : Nat → Nat → Value} {w1 : List (Nat × Nat)} {x1 x2 : Int32}
theorem t_L_alike (hD : t_DR sh.length gi gl gr) (f1 : t_F w1 gi gl gr g1 l1 r1) (h70 : t_nc w1 70 = true) (q1 : Q_d_alike gi gl gr x1 g1 l1 r1) (q2 : Q_e_alike g1 l1 r1 x2 g2 l2 r2) : x1 = x2 := by
  obtain ⟨u, D, hu, hl, hc, hb, hm, -⟩ := t_D_0 hD f1 h70
  exact Int32.toInt_inj.mp ((q1 u D hu hl hc hb).trans (q2 D hm hb).symm)
theorem t_L_clearEcho (hD : t_DR sh.length gi gl gr) (f1 : t_F w1 gi gl gr g1 l1 r1) (h70 : t_nc w1 70 = true) (q1 : Q_d_clearEcho gi gl gr x1 g1 l1 r1) (q2 : Q_e_clearEcho g1 l1 r1 x2 g2 l2 r2) : x1 = x2 := by
  obtain ⟨u, D, hu, hl, hc, hb, hm, -⟩ := t_D_0 hD f1 h70
  exact Int32.toInt_inj.mp ((q1 u D hu hl hc hb).trans (q2 D hm hb).symm)
end ALKL
