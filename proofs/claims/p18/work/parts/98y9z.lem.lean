/-! ===== the tapes of both sides, through the law's loop ===== -/
noncomputable def t_TP (gi : Nat → Nat → Int32) : Prop := t_ag (gi 2) (gi 75) (gi 0 5).toInt
noncomputable def t_nc (w : List (Nat × Nat)) (c : Nat) : Bool := w.all (fun q => !(q.1 == c))
section LTP
variable {gi g1 g2 : Nat → Nat → Int32} {gl l1 l2 : Nat → Nat → Int64} {gr r1 r2 : Nat → Nat → Value} {w w1 w2 : List (Nat × Nat)}
theorem t_nc_in {c j : Nat} (h : t_nc w c = true) : t_in w c j = false := by
  unfold t_in
  rw [List.any_eq_false]
  intro q hq hh
  have h1 := List.all_eq_true.mp h q hq
  have h2 := ((Bool.and_eq_true _ _).mp hh).1
  rw [h2] at h1
  cases h1
theorem t_F_nc (f : t_F w gi gl gr g1 l1 r1) {c : Nat} (h : t_nc w c = true) (hc : c < 102) : g1 c = gi c := funext fun j => (f c j hc (t_nc_in h)).1
theorem t_TP_gen (hT : t_TP gi) (f1 : t_F w1 gi gl gr g1 l1 r1) (f2 : t_F w2 g1 l1 r1 g2 l2 r2) (h : (t_nc w1 2 && (t_nc w2 2 && (t_nc w1 75 && t_nc w2 75))) = true) (h5 : g2 0 5 = gi 0 5 ∨ (g2 0 5).toInt = 0) : t_TP g2 := by
  obtain ⟨a1, h⟩ := (Bool.and_eq_true _ _).mp h
  obtain ⟨a2, h⟩ := (Bool.and_eq_true _ _).mp h
  obtain ⟨a3, a4⟩ := (Bool.and_eq_true _ _).mp h
  unfold t_TP
  rw [t_F_nc f2 a2 (by decide), t_F_nc f1 a1 (by decide), t_F_nc f2 a4 (by decide), t_F_nc f1 a3 (by decide)]
  rcases h5 with h5 | h5
  · rw [h5]; exact hT
  · rw [h5]; exact fun j hj => absurd hj (by omega)
theorem t_TP_same (hT : t_TP gi) (f1 : t_F w1 gi gl gr g1 l1 r1) (f2 : t_F w2 g1 l1 r1 g2 l2 r2) (h : (t_nc w1 2 && (t_nc w2 2 && (t_nc w1 75 && t_nc w2 75))) = true) (h1 : t_in w1 0 5 = false) (h2 : t_in w2 0 5 = false) : t_TP g2 :=
  t_TP_gen hT f1 f2 h (Or.inl ((f2 0 5 (by decide) h2).1.trans (f1 0 5 (by decide) h1).1))
theorem t_TP_text (hT : t_TP gi) (f1 : t_F w1 gi gl gr g1 l1 r1) (f2 : t_F w2 g1 l1 r1 g2 l2 r2) (h : (t_nc w1 2 && (t_nc w2 2 && (t_nc w1 75 && t_nc w2 75))) = true) (h2 : t_in w2 0 5 = false) {C : Prop} (q : (C → (g1 0 5).toInt = 0) ∧ (¬ C → g1 0 5 = gi 0 5)) : t_TP g2 := by
  refine t_TP_gen hT f1 f2 h ?_
  rw [(f2 0 5 (by decide) h2).1]
  by_cases hc : C
  · exact Or.inr (q.1 hc)
  · exact Or.inl (q.2 hc)
theorem t_TP_feed {A1 A2 A3 A4 A5 x1 x2 : Int32} (hT : t_TP gi) (hR : t_R gi gr) (f1 : t_F wl_h_feed2 gi gl gr g1 l1 r1) (f2 : t_F wl_m_feed g1 l1 r1 g2 l2 r2) (q1 : ((gi 0 5).toInt + 20 ≤ 900 → x1.toInt = (gi 0 5).toInt + 20 ∧ (g1 0 5).toInt = (gi 0 5).toInt + 20) ∧ (900 < (gi 0 5).toInt + 20 → x1.toInt = -1 ∧ (g1 0 5).toInt = (gi 0 5).toInt)) (qs : Q_s_feed gi gl gr A1 A2 A3 A4 A5 x1 g1 l1 r1) (qn : Q_n_feed g1 l1 r1 A1 A2 A3 A4 A5 x2 g2 l2 r2) : t_TP g2 := by
  have e0 : (gi 0 5).toInt = (gi 69 10).toInt := congrArg Int32.toInt (t_R_fed hR)
  have e1 : (g1 69 10).toInt = (gi 69 10).toInt := congrArg Int32.toInt (f1 69 10 (by decide) rfl).1
  have e2 : (g2 0 5).toInt = (g1 0 5).toInt := congrArg Int32.toInt (f2 0 5 (by decide) rfl).1
  have r2 : g2 2 = g1 2 := t_F_nc f2 rfl (by decide)
  have r75 : g1 75 = gi 75 := t_F_nc f1 rfl (by decide)
  obtain ⟨s1, s2⟩ := qs
  obtain ⟨n1, n2⟩ := qn
  unfold t_TP
  by_cases h : (gi 0 5).toInt + 20 ≤ 900
  · have h1 := (q1.1 h).2
    have a1 : g1 2 = _ := funext (s1 h)
    have a2 : g2 75 = _ := funext (n1 (by omega))
    rw [r2, a1, a2, r75, show (g1 69 10).toInt = (gi 0 5).toInt by omega]
    exact fun j hj => t_ag_20 hT j (by omega)
  · have h1 := (q1.2 (by omega)).2
    have a1 : g1 2 = gi 2 := funext (s2 (by omega))
    have a2 : g2 75 = g1 75 := funext (n2 (by omega))
    rw [r2, a1, a2, r75, e2, h1]
    exact hT
theorem s_ok_D {q q' : Nat} {D D' : s_D} (h : s_ok q D = s_ok q' D') : D = D' := congrArg (fun r : s_R => r.2.2) h
theorem s_ok_bad {b : Nat → Int32} {n p q : Nat} {x : Int} {D D' : s_D} (hx : x ≠ 0) (h : s_ok q D = s_bad b n p x D') : False :=
  s_fk_ne (b := b) (n := n) (p := p) hx (congrArg (fun r : s_R => r.1.1) h).symm
theorem t_L_river {N N2 : Nat} {A x1 x2 : Int32} (hT : t_TP gi) (hR : t_R gi gr) (f1 : t_F w1 gi gl gr g1 l1 r1) (h75 : t_nc w1 75 = true) (h69 : t_in w1 69 10 = false) (q1 : ((0 ≤ A.toInt ∧ A.toInt ≤ (gi 0 5).toInt) → ∀ n : Nat, (n : Int) = A.toInt → t_RES gi gl gr N (gi 2) n x1 g1 l1 r1) ∧ (¬ (0 ≤ A.toInt ∧ A.toInt ≤ (gi 0 5).toInt) → x1.toInt = -1 ∧ (∀ K, K ≠ 0 → g1 K = gi K ∧ l1 K = gl K ∧ r1 K = gr K) ∧ r1 0 6 = gr 0 6 ∧ r1 0 7 = gr 0 7) ∧ (0 ≤ A.toInt ∧ A.toInt ≤ (gi 0 5).toInt → N + 18 ≤ N2)) (q2 : Q_n_river g1 l1 r1 A x2 g2 l2 r2) : x1 = x2 := by
  have e0 : (gi 0 5).toInt = (gi 69 10).toInt := congrArg Int32.toInt (t_R_fed hR)
  have e1 : (g1 69 10).toInt = (gi 69 10).toInt := congrArg Int32.toInt (f1 69 10 (by decide) h69).1
  have r75 : g1 75 = gi 75 := t_F_nc f1 h75 (by decide)
  obtain ⟨m1, m2⟩ := q2
  apply Int32.toInt_inj.mp
  by_cases hin : 0 ≤ A.toInt ∧ A.toInt ≤ (gi 0 5).toInt
  · obtain ⟨n, hn⟩ : ∃ n : Nat, (n : Int) = A.toInt := ⟨A.toInt.toNat, by omega⟩
    have k1 := (q1.1 hin n hn).1
    have k2 := m1 (by omega) (gi 2) n hn (fun j hj => by rw [r75]; exact (hT j (by omega)).1.symm) (fun j hj => (hT j (by omega)).2)
    rcases k1 with ⟨q, D, a1, a2, -⟩ | ⟨p, x, D, a0, a1, a2, -⟩
    · rcases k2 with ⟨q', D', b1, -, b2, -⟩ | ⟨p', x', D', b0, b1, b2, -⟩
      · have hd := s_ok_D (a1.symm.trans b1)
        rw [a2, b2, hd]
      · exact (s_ok_bad b0 (a1.symm.trans b1)).elim
    · rcases k2 with ⟨q', D', b1, -, b2, -⟩ | ⟨p', x', D', b0, b1, b2, -⟩
      · exact (s_ok_bad a0 (b1.symm.trans a1)).elim
      · rw [a2, b2]
  · rw [(q1.2.1 hin).1, (m2 (by omega)).1]
end LTP
noncomputable def t_LT (c : Nat) (sh : List (Nat ⊕ (Nat × Nat))) (gi : Nat → Nat → Int32) (gl : Nat → Nat → Int64) (gr : Nat → Nat → Value) : Prop := t_LR c sh gi gl gr ∧ t_TP gi
theorem W1_TP {sh : List (Nat ⊕ (Nat × Nat))} {gi : Nat → Nat → Int32} {gl : Nat → Nat → Int64} {gr : Nat → Nat → Value} (hR : x_R W1 (sh, gi, gl, gr)) : t_TP gi := by
  have hrd : ∀ {k j : Nat} {c : x_C}, x_gc W1 k = some c → j < 2 ^ x_dp c.1 → gi k j = x_cI c j := fun hc hj => ((x_gc_R hR hc).2.2.2 _ hj).1
  have h : gi 0 5 = 0 := hrd (c := w1_c0) rfl (by decide)
  have h0 : (0 : Int32).toInt = 0 := by decide
  intro j hj
  rw [h] at hj
  omega
