/-! ===== the table of the least waits: a state reckoned, calls that write nothing ===== -/
section TX0
variable {X : x_Ext} {d mi pc nx a b q len ml : Nat} {z : Int} {ins : Instr} {lo lo' : x_Lo} {st st' r : List Value} {G : x_G} {P : Option Value → x_G → Prop} {T : List (Nat × x_Row)} {rt : Option FieldType}
variable {sh : List (Nat ⊕ (Nat × Nat))} {gi gi0 : Nat → Nat → Int32} {gl gl0 : Nat → Nat → Int64} {gr gr0 : Nat → Nat → Value} {wl : List (Nat × Nat)}
theorem t_X0 {gi' : Nat → Nat → Int32} {gl' : Nat → Nat → Int64} {gr' : Nat → Nat → Value} (h : t_X [] sh gi gl gr gi' gl' gr') : gi' = gi ∧ gl' = gl ∧ gr' = gr :=
  ⟨funext fun k => funext fun j => (h.1 k j rfl).1, funext fun k => funext fun j => (h.1 k j rfl).2.1, funext fun k => funext fun j => (h.1 k j rfl).2.2⟩
/-- a call that writes nothing -/
theorem ev_qI0 {l u : Int} {as : List Value} {Q : Int32 → (Nat → Nat → Int32) → (Nat → Nat → Int64) → (Nat → Nat → Value) → Prop} (F : x_F mi T ml rt) (hr : x_lk T pc = some (ins, len, a, b, q, z)) (hc : x_cat ins = 4) (ha : Nat.blt a 1000 = true) (hb : Nat.ble b st.length = true) (has : (st.take b).reverse = as) (hrest : st.drop b = r) (h8 : Nat.ble (x_words r) 8 = true) (hM : x_Me X d a as (sh, gi, gl, gr) (t_PI [] sh gi gl gr l u Q)) (hn : pc + 3 = nx) (kk : ∀ (w : Int32), l ≤ w.toInt → w.toInt ≤ u → Q w gi gl gr → x_Ev X (d + 1) mi nx lo (.int w :: r) (sh, gi, gl, gr) P) : x_Ev X (d + 1) mi pc lo st (sh, gi, gl, gr) P := by
  subst has; subst hrest
  refine ev_call F hr hc (decide_eq_true (Nat.le_of_ble_eq_true ha)) (Nat.le_of_ble_eq_true hb) (Nat.le_of_ble_eq_true h8) hM hn ?_
  rintro _ _ ⟨gi2, gl2, gr2, rfl, h1, h2, w, rfl, h3, h4, h5⟩
  obtain ⟨e1, e2, e3⟩ := t_X0 h2
  rw [e1, e2, e3]
  rw [e1, e2, e3] at h5
  exact kk _ h3 h4 h5
end TX0
section DP2
variable {p g g' : Nat → Nat → Int32} {f : Nat → Int32} {q : Int}
theorem t_si_sp (h : t_sp p g) : t_si g = t_si p := funext fun s => by unfold t_si; rw [h.2.2.2.2.2.1]
theorem t_ci_sp (h : t_sp p g) : t_ci g = t_ci p := funext fun s => by unfold t_ci; rw [h.2.2.2.2.2.2]
theorem t_S_sp (h : t_sp p g) : t_S g = t_S p := by unfold t_S; rw [h.1]
theorem t_C_sp (h : t_sp p g) : t_C g = t_C p := by unfold t_C; rw [h.2.1]
theorem t_sa_sp (h : t_sp p g) : t_sa g = t_sa p := funext fun s => by unfold t_sa; rw [t_si_sp h, h.2.2.2.2.1]
theorem t_st_sp (h : t_sp p g) : t_st g = t_st p := funext fun s => by unfold t_st; rw [t_si_sp h, h.2.2.2.1]
theorem t_so_sp (h : t_sp p g) : t_so g = t_so p := funext fun s => by unfold t_so; rw [t_si_sp h, h.2.2.2.1]
theorem t_ss_sp (h : t_sp p g) : t_ss g = t_ss p := funext fun s => by unfold t_ss; rw [t_si_sp h, h.2.2.2.1]
theorem t_ca_sp (h : t_sp p g) : t_ca g = t_ca p := funext fun s => by unfold t_ca; rw [t_ci_sp h, h.2.2.2.2.1]
theorem t_ct_sp (h : t_sp p g) : t_ct g = t_ct p := funext fun s => by unfold t_ct; rw [t_ci_sp h, h.2.2.2.1]
theorem t_cc_sp (h : t_sp p g) : t_cc g = t_cc p := funext fun s => by unfold t_cc; rw [t_ci_sp h, h.2.2.2.1]
theorem t_tt_sp (h : t_sp p g) : t_tt g = t_tt p := funext fun q => funext fun m => by unfold t_tt; rw [h.2.2.2.1]
theorem t_pr_sp (h : t_sp p g) : t_pr g f q = t_pr p f q := funext fun k => by
  unfold t_pr t_bel t_mayS t_mayC t_bys t_byc
  simp only [t_S_sp h, t_C_sp h, t_sa_sp h, t_st_sp h, t_so_sp h, t_ss_sp h, t_ca_sp h, t_ct_sp h, t_cc_sp h, t_tt_sp h]
theorem t_tt1 (hq : 1 ≤ q) (m : Nat) : 1 ≤ t_tt g q m := by unfold t_tt; split <;> omega
theorem t_ky1 {m o s c K : Nat} {m' o' s' c' : Int} (em : (m : Int) = m') (eo : (o : Int) = o') (es : (s : Int) = s') (ec : (c : Int) = c') (hm : m ≤ 240) (hs : s ≤ 6) (hc : c ≤ 6) (hK : (K : Int) = 98 * (240 - m') + 49 * o' + 7 * (6 - s') + (6 - c')) : t_ky m o s c = K := by
  subst em eo es ec; unfold t_ky; omega
theorem t_ky2 {m1 m o1 o s c K : Nat} (hK : t_ky m o s c = K) (h : m < m1) (h2 : m1 ≤ 240) (ho : o1 ≤ 1) : t_ky m1 o1 s c < K := by
  subst hK; unfold t_ky; omega
theorem t_ky3 {m1 m o1 o s s1 c c1 K : Nat} (hK : t_ky m o s c = K) (h : m ≤ m1) (h2 : m1 ≤ 240) (ho : o1 ≤ o) (hs : s ≤ s1) (hc : c ≤ c1) (hs1 : s1 ≤ 6) (hc1 : c1 ≤ 6) (hl : s + c < s1 + c1) : t_ky m1 o1 s1 c1 < K := by
  subst hK; unfold t_ky; omega
theorem t_ix1 {i m o s c : Nat} {m' o' s' c' : Int} (em : (m : Int) = m') (eo : (o : Int) = o') (es : (s : Int) = s') (ec : (c : Int) = c') (h : (i : Int) = ((2 * m' + o') * 7 + s') * 7 + c') : i = t_ix m o s c := by
  subst em eo es ec; unfold t_ix; omega
/-- a state reckoned, and laid -/
theorem t_rkS {K K' : Nat} {m o s c i x v1 v2 z1 z2 z3 w b1 b2 bs bc a2 : Int32} (H : t_pr g (g 92) q K) (hq : 1 ≤ q) (hS0 : 0 ≤ (g 69 44).toInt) (hS : (g 69 44).toInt ≤ 6) (hC0 : 0 ≤ (g 69 45).toInt) (hC : (g 69 45).toInt ≤ 6)
    (hm0 : 0 ≤ m.toInt) (hm : m.toInt ≤ 240) (ho0 : 0 ≤ o.toInt) (ho : o.toInt ≤ 1) (hs0 : 0 ≤ s.toInt) (hs : s.toInt ≤ (g 69 44).toInt) (hc0 : 0 ≤ c.toInt) (hc : c.toInt ≤ (g 69 45).toInt)
    (hK : (K : Int) = 98 * (240 - m.toInt) + 49 * o.toInt + 7 * (6 - s.toInt) + (6 - c.toInt)) (hK' : K' = K + 1)
    (i1 : z1.toInt = m.toInt + 1) (e1 : v1.toInt = t_la (g 92) (t_S g) (t_C g) z1.toInt.toNat o.toInt.toNat s.toInt.toNat c.toInt.toNat)
    (ha : a2.toInt = q) (hw : w.toInt = (t_tt g a2.toInt m.toInt.toNat : Nat)) (i2 : z2.toInt = m.toInt + w.toInt) (i3 : z3.toInt = 1 - o.toInt)
    (e2 : v2.toInt = t_la (g 92) (t_S g) (t_C g) z2.toInt.toNat z3.toInt.toNat s.toInt.toNat c.toInt.toNat)
    (h1 : (t_mayS g m.toInt.toNat o.toInt.toNat s.toInt.toNat ∧ bs.toInt = t_bys g (g 92) m.toInt.toNat s.toInt.toNat c.toInt.toNat ∧ b1.toInt = min (min v1.toInt v2.toInt) bs.toInt) ∨ (¬ t_mayS g m.toInt.toNat o.toInt.toNat s.toInt.toNat ∧ b1.toInt = min v1.toInt v2.toInt))
    (h2 : (t_mayC g m.toInt.toNat o.toInt.toNat c.toInt.toNat ∧ bc.toInt = t_byc g (g 92) m.toInt.toNat s.toInt.toNat c.toInt.toNat ∧ b2.toInt = min b1.toInt bc.toInt) ∨ (¬ t_mayC g m.toInt.toNat o.toInt.toNat c.toInt.toNat ∧ b2.toInt = b1.toInt))
    (hx : (b2.toInt < 1000000000 ∧ x.toInt = b2.toInt) ∨ (1000000000 ≤ b2.toInt ∧ x.toInt = 1000000000))
    (hcm : ∀ j : Nat, j < 12 → 0 ≤ (g 89 j).toInt ∧ (g 89 j).toInt ≤ 300) (hcs : ∀ j : Nat, j < 6 → 0 ≤ (g 90 j).toInt ∧ (g 90 j).toInt ≤ 5 ∧ 0 ≤ (g 91 j).toInt ∧ (g 91 j).toInt ≤ 5)
    (hct : ∀ j : Nat, j < 6 → 0 ≤ (g 70 (55 + 5 * j)).toInt ∧ 0 ≤ (g 70 (84 + 3 * j)).toInt)
    (es : g' = x_up2 g 92 i.toNatClampNeg x) (hi : i.toInt = ((2 * m.toInt + o.toInt) * 7 + s.toInt) * 7 + c.toInt) : t_pr g (g' 92) q K' := by
  revert h1 h2 hx
  have eS : (t_S g : Int) = (g 69 44).toInt := by unfold t_S; omega
  have eC : (t_C g : Int) = (g 69 45).toInt := by unfold t_C; omega
  have hm' : ((m.toInt.toNat : Nat) : Int) = m.toInt := Int.toNat_of_nonneg hm0
  have ho' : ((o.toInt.toNat : Nat) : Int) = o.toInt := Int.toNat_of_nonneg ho0
  have hs' : ((s.toInt.toNat : Nat) : Int) = s.toInt := Int.toNat_of_nonneg hs0
  have hc' : ((c.toInt.toNat : Nat) : Int) = c.toInt := Int.toNat_of_nonneg hc0
  have hky : t_ky m.toInt.toNat o.toInt.toNat s.toInt.toNat c.toInt.toNat = K := t_ky1 hm' ho' hs' hc' (by omega) (by omega) (by omega) hK
  have ht := fun m => t_tt1 (g := g) hq m
  have n1 : z1.toInt.toNat = m.toInt.toNat + 1 := by omega
  have n2 : z2.toInt.toNat = m.toInt.toNat + t_tt g q m.toInt.toNat := by rw [ha] at hw; omega
  have n3 : z3.toInt.toNat = 1 - o.toInt.toNat := by omega
  rw [n1] at e1
  rw [n2, n3] at e2
  have b1' := t_la_b H (m := m.toInt.toNat + 1) (o := o.toInt.toNat) (s := s.toInt.toNat) (c := c.toInt.toNat) (by omega) (by omega) (by omega) (fun hh => t_ky2 hky (by omega) hh (by omega))
  have b2' := t_la_b H (m := m.toInt.toNat + t_tt g q m.toInt.toNat) (o := 1 - o.toInt.toNat) (s := s.toInt.toNat) (c := c.toInt.toNat) (by omega) (by omega) (by omega) (fun hh => t_ky2 hky (by have := ht m.toInt.toNat; omega) hh (by omega))
  have hci : i.toNatClampNeg = t_ix m.toInt.toNat o.toInt.toNat s.toInt.toNat c.toInt.toNat := by
    have hcl := t_clamp (i := i) (by omega)
    exact t_ix1 hm' ho' hs' hc' (by rw [hcl]; exact hi)
  intro h1 h2 hx
  have k1 : 0 ≤ b1.toInt := by
    clear h2 hx
    rcases h1 with ⟨g1, g2, g3⟩ | ⟨-, g3⟩
    · unfold t_mayS at g1
      have b3 := t_la_b H (m := m.toInt.toNat + t_st g s.toInt.toNat) (o := 1) (s := s.toInt.toNat + 1) (c := c.toInt.toNat) (by omega) (by omega) (by omega) (fun hh => t_ky3 hky (by omega) hh (by omega) (by omega) (by omega) (by omega) (by omega) (by omega))
      have h3 := hcs s.toInt.toNat (by omega)
      have h4 := (hct (t_si g s.toInt.toNat) (by unfold t_si; omega)).1
      have h5 : 0 ≤ ((m.toInt.toNat : Int) - t_sa g s.toInt.toNat) * t_so g s.toInt.toNat := Int.mul_nonneg (by omega) h4
      unfold t_bys at g2
      omega
    · omega
  have k2 : 0 ≤ b2.toInt := by
    clear h1 hx
    rcases h2 with ⟨g1, g2, g3⟩ | ⟨-, g3⟩
    · unfold t_mayC at g1
      have b3 := t_la_b H (m := m.toInt.toNat + t_ct g c.toInt.toNat) (o := 0) (s := s.toInt.toNat) (c := c.toInt.toNat + 1) (by omega) (by omega) (by omega) (fun hh => t_ky3 hky (by omega) hh (by omega) (by omega) (by omega) (by omega) (by omega) (by omega))
      have h3 := hcs c.toInt.toNat (by omega)
      have h4 := (hct (t_ci g c.toInt.toNat) (by unfold t_ci; omega)).2
      have h5 : 0 ≤ ((m.toInt.toNat : Int) - t_ca g c.toInt.toNat) * t_cc g c.toInt.toNat := Int.mul_nonneg (by omega) h4
      unfold t_byc at g2
      omega
    · omega
  have hbel : t_bel g (g 92) q m.toInt.toNat o.toInt.toNat s.toInt.toNat c.toInt.toNat x.toInt := by
    refine ⟨b1.toInt, b2.toInt, fun hm1 => ?_, fun hm1 => ?_, fun hm2 => ?_, fun hm2 => ?_, ?_⟩
    · rcases h1 with ⟨-, g2, g3⟩ | ⟨g1, -⟩
      · rw [g3, g2, e1, e2]
      · exact absurd hm1 g1
    · rcases h1 with ⟨g1, -⟩ | ⟨-, g3⟩
      · exact absurd g1 hm1
      · rw [g3, e1, e2]
    · rcases h2 with ⟨-, g2, g3⟩ | ⟨g1, -⟩
      · rw [g3, g2]
      · exact absurd hm2 g1
    · rcases h2 with ⟨g1, -⟩ | ⟨-, g3⟩
      · exact absurd g1 hm2
      · exact g3
    · omega
  clear h1 h2
  have h9 := t_pr_s (f' := g' 92) (x := x) ht (by omega) (by omega) (m := m.toInt.toNat) (o := o.toInt.toNat) (s := s.toInt.toNat) (c := c.toInt.toNat) (by omega) (by omega) (by omega) (by omega) (by rw [hky]; exact H) hbel (by omega) (by omega)
    (fun j hj => by rw [es, hci]; exact x_up2_off (Or.inr hj)) (by rw [es, hci]; exact x_up2_at _ _ _ _)
  rw [hK', ← hky]; exact h9
/-- the order's next place -/
theorem t_prK {K K' : Nat} (H : t_pr g f q K) (hK : ∀ m o s c : Nat, m ≤ 240 → o ≤ 1 → s ≤ t_S g → c ≤ t_C g → t_ky m o s c < K' → t_ky m o s c < K) : t_pr g f q K' := t_pr_le H hK
/-- what the least of a state is by -/
theorem t_opt {m o s c : Nat} {x : Int} (H : t_bel g f q m o s c x) (hx : x < 1000000000) : x ≤ t_la f (t_S g) (t_C g) (m + 1) o s c ∧ (x = t_la f (t_S g) (t_C g) (m + 1) o s c ∨ x = t_la f (t_S g) (t_C g) (m + t_tt g q m) (1 - o) s c ∨ (t_mayS g m o s ∧ x = t_bys g f m s c) ∨ (t_mayC g m o c ∧ x = t_byc g f m s c)) := by
  obtain ⟨b1, b2, h1, h2, h3, h4, h5⟩ := H
  by_cases hS : t_mayS g m o s <;> by_cases hC : t_mayC g m o c
  · have := h1 hS; have := h3 hC
    simp only [hS, hC, true_and]; omega
  · have := h1 hS; have := h4 hC
    simp only [hS, hC, true_and, false_and]; omega
  · have := h2 hS; have := h3 hC
    simp only [hS, hC, true_and, false_and]; omega
  · have := h2 hS; have := h4 hC
    simp only [hS, hC, false_and]; omega
theorem t_la_far {S C m o s c : Nat} (hm : 240 < m) (h : t_la f S C m o s c < 1000000000) : s = S ∧ c = C := by
  unfold t_la at h
  split at h
  · assumption
  · first | omega | (rw [if_pos hm] at h; omega)
/-- to rest a minute is never better than what is the least -/
theorem t_mono1 (H : t_pr g f q 23618) {m o s c : Nat} (ho : o ≤ 1) (hs : s ≤ t_S g) (hc : c ≤ t_C g) (hS : t_S g ≤ 6) (hC : t_C g ≤ 6) : t_la f (t_S g) (t_C g) m o s c ≤ t_la f (t_S g) (t_C g) (m + 1) o s c := by
  by_cases he : s = t_S g ∧ c = t_C g
  · unfold t_la; rw [if_pos he, if_pos he]; exact Int.le_refl _
  · by_cases hm : 240 < m
    · unfold t_la; rw [if_neg he, if_neg he, if_pos hm, if_pos (by omega)]; exact Int.le_refl _
    · have h1 := H m o s c (by omega) ho hs hc (by unfold t_ky; omega)
      have e : t_la f (t_S g) (t_C g) m o s c = (f (t_ix m o s c)).toInt := by unfold t_la; rw [if_neg he, if_neg hm]
      rw [e]
      by_cases hx : (f (t_ix m o s c)).toInt < 1000000000
      · exact (t_opt h1.1 hx).1
      · obtain ⟨⟨b1, b2, g1, g2, g3, g4, g5⟩, g6, g7⟩ := h1
        have : b1 ≤ t_la f (t_S g) (t_C g) (m + 1) o s c := by
          by_cases hS : t_mayS g m o s
          · have := g1 hS; omega
          · have := g2 hS; omega
        by_cases hC : t_mayC g m o c
        · have := g3 hC; omega
        · have := g4 hC; omega
theorem t_mono (H : t_pr g f q 23618) {o s c : Nat} (ho : o ≤ 1) (hs : s ≤ t_S g) (hc : c ≤ t_C g) (hS : t_S g ≤ 6) (hC : t_C g ≤ 6) {m : Nat} : ∀ k : Nat, t_la f (t_S g) (t_C g) m o s c ≤ t_la f (t_S g) (t_C g) (m + k) o s c
  | 0 => Int.le_refl _
  | k + 1 => Int.le_trans (t_mono H ho hs hc hS hC k) (t_mono1 H ho hs hc hS hC)
/-- turns so far: one behind each that has begun, and perhaps one, which was wanted -/
noncomputable def t_tn (g : Nat → Nat → Int32) (f : Nat → Int32) (m o s c : Nat) (n : Int) : Prop := n ≤ 2 * ((s : Int) + c) ∨ (n ≤ 2 * ((s : Int) + c) + 1 ∧ ∃ m0 : Nat, m0 < m ∧ t_la f (t_S g) (t_C g) m o s c < t_la f (t_S g) (t_C g) (m0 + 1) (1 - o) s c)
/-- who acts: a number, but for turns -/
noncomputable def t_wh (n : Int) (a b : Nat → Int32) : Prop := ∀ j : Nat, (j : Int) < n → (a j).toInt ≠ 2 → 0 ≤ (b j).toInt
end DP2
theorem t_hct {sh : List (Nat ⊕ (Nat × Nat))} {gi : Nat → Nat → Int32} {gr : Nat → Nat → Value} (h : t_I sh gi gr) : ∀ j : Nat, j < 6 → 0 ≤ (gi 70 (55 + 5 * j)).toInt ∧ 0 ≤ (gi 70 (84 + 3 * j)).toInt := by
  intro j hj
  have hj : j = 0 ∨ j = 1 ∨ j = 2 ∨ j = 3 ∨ j = 4 ∨ j = 5 := by omega
  rcases hj with rfl | rfl | rfl | rfl | rfl | rfl <;>
    exact ⟨(h.ab (lo := 0) (hi := 99) (by decide +kernel) (Nat.le_refl _) (Nat.le_refl _)).1, (h.ab (lo := 0) (hi := 99) (by decide +kernel) (Nat.le_refl _) (Nat.le_refl _)).1⟩
theorem t_hcs {sh : List (Nat ⊕ (Nat × Nat))} {gi : Nat → Nat → Int32} {gr : Nat → Nat → Value} (h : t_I sh gi gr) : ∀ j : Nat, j < 6 → 0 ≤ (gi 90 j).toInt ∧ (gi 90 j).toInt ≤ 5 ∧ 0 ≤ (gi 91 j).toInt ∧ (gi 91 j).toInt ≤ 5 := by
  intro j hj
  have h1 := h.ab (by decide +kernel : t_abr 90 0 5 0 5 = true) (Nat.zero_le j) (by omega : j ≤ 5)
  have h2 := h.ab (by decide +kernel : t_abr 91 0 5 0 5 = true) (Nat.zero_le j) (by omega : j ≤ 5)
  exact ⟨h1.1, h1.2, h2.1, h2.2⟩
section DP3
variable {g g' : Nat → Nat → Int32}
/-- while a plan is laid -/
noncomputable def t_pla (g : Nat → Nat → Int32) (m o s c : Int32) : Prop :=
  t_pr g (g 92) (g 69 48).toInt 23618 ∧ t_la (g 92) (t_S g) (t_C g) m.toInt.toNat o.toInt.toNat s.toInt.toNat c.toInt.toNat < 1000000000 ∧
  t_tn g (g 92) m.toInt.toNat o.toInt.toNat s.toInt.toNat c.toInt.toNat (g 69 55).toInt ∧ t_wh (g 69 55).toInt (g 93) (g 95) ∧
  s.toInt ≤ (g 69 44).toInt ∧ c.toInt ≤ (g 69 45).toInt ∧ (∀ j : Nat, j < 12 → 0 ≤ (g 89 j).toInt ∧ (g 89 j).toInt ≤ 300) ∧ 1 ≤ (g 69 48).toInt
theorem t_pla_tr {m o s c : Int32} {n : Int} (hsp : t_sp g g') (h92 : g' 92 = g 92) (hn : (g' 69 55).toInt = n) (hwh : t_wh (g' 69 55).toInt (g' 93) (g' 95))
    (H : t_pr g (g 92) (g 69 48).toInt 23618 ∧ t_la (g 92) (t_S g) (t_C g) m.toInt.toNat o.toInt.toNat s.toInt.toNat c.toInt.toNat < 1000000000 ∧ t_tn g (g 92) m.toInt.toNat o.toInt.toNat s.toInt.toNat c.toInt.toNat n ∧ s.toInt ≤ (g 69 44).toInt ∧ c.toInt ≤ (g 69 45).toInt ∧ (∀ j : Nat, j < 12 → 0 ≤ (g 89 j).toInt ∧ (g 89 j).toInt ≤ 300) ∧ 1 ≤ (g 69 48).toInt) : t_pla g' m o s c := by
  obtain ⟨h1, h2, h3, h4, h5, h6, h7⟩ := H
  refine ⟨?_, ?_, ?_, hwh, ?_, ?_, ?_, ?_⟩
  · rw [h92, hsp.2.2.1, t_pr_sp hsp]; exact h1
  · rw [h92, t_S_sp hsp, t_C_sp hsp]; exact h2
  · rw [hn, h92]; unfold t_tn at h3 ⊢; rw [t_S_sp hsp, t_C_sp hsp]; exact h3
  · rw [hsp.1]; exact h4
  · rw [hsp.2.1]; exact h5
  · rw [hsp.2.2.2.2.1]; exact h6
  · rw [hsp.2.2.1]; exact h7
theorem t_pla_n {m o s c : Int32} (H : t_pla g m o s c) (hs : 0 ≤ s.toInt) (hc : 0 ≤ c.toInt) (hS : (g 69 44).toInt ≤ 6) (hC : (g 69 45).toInt ≤ 6) : (g 69 55).toInt ≤ 25 := by
  obtain ⟨-, -, h3, -, h5, h6, -, -⟩ := H
  rcases h3 with h | ⟨h, -⟩ <;> omega
theorem t_pla_m {m o s c : Int32} (H : t_pla g m o s c) (hs : 0 ≤ s.toInt) (hc : 0 ≤ c.toInt) (hne : s.toInt < (g 69 44).toInt ∨ c.toInt < (g 69 45).toInt) : m.toInt ≤ 240 := by
  by_cases hm : m.toInt ≤ 240
  · exact hm
  · obtain ⟨h1, h2⟩ := t_la_far (by omega) H.2.1
    unfold t_S at h1; unfold t_C at h2
    omega
theorem t_pla_la {m o s c : Int32} {m' o' s' c' : Nat} (H : t_pla g m o s c) (ho : o' ≤ 1) (hs : s' ≤ t_S g) (hc : c' ≤ t_C g) : 0 ≤ t_la (g 92) (t_S g) (t_C g) m' o' s' c' ∧ t_la (g 92) (t_S g) (t_C g) m' o' s' c' ≤ 1000000000 :=
  t_la_b H.1 ho hs hc (fun _ => by unfold t_ky; omega)
theorem t_pla_ship {m o s c m' s' w : Int32} (H : t_pla g m o s c) (hm0 : 0 ≤ m.toInt) (hs0 : 0 ≤ s.toInt) (hc0 : 0 ≤ c.toInt) (hmay : t_mayS g m.toInt.toNat o.toInt.toNat s.toInt.toNat)
    (heq : t_la (g 92) (t_S g) (t_C g) m.toInt.toNat o.toInt.toNat s.toInt.toNat c.toInt.toNat = t_bys g (g 92) m.toInt.toNat s.toInt.toNat c.toInt.toNat) (hw : t_st g s.toInt.toNat = w.toInt.toNat) (hw0 : 0 ≤ w.toInt) (im : m'.toInt = m.toInt + w.toInt) (is : s'.toInt = s.toInt + 1)
    (hsc : 0 ≤ t_so g s.toInt.toNat) (hsp : t_sp g g') (h92 : g' 92 = g 92) (hn : (g' 69 55).toInt = (g 69 55).toInt + 1) (hwh : t_wh (g' 69 55).toInt (g' 93) (g' 95)) : t_pla g' m' o s' c := by
  obtain ⟨h1, h2, h3, h4, h5, h6, h7, h8⟩ := H
  unfold t_mayS at hmay
  have e1 : m'.toInt.toNat = m.toInt.toNat + t_st g s.toInt.toNat := by omega
  have e2 : s'.toInt.toNat = s.toInt.toNat + 1 := by omega
  have hp : 0 ≤ ((m.toInt.toNat : Int) - t_sa g s.toInt.toNat) * t_so g s.toInt.toNat := Int.mul_nonneg (by omega) hsc
  unfold t_bys at heq
  refine t_pla_tr hsp h92 hn hwh ⟨h1, ?_, ?_, ?_, h6, h7, h8⟩
  · rw [e1, e2, hmay.1]; omega
  · refine Or.inl ?_
    rcases h3 with h | ⟨h, -⟩ <;> omega
  · have : (t_S g : Int) = (g 69 44).toInt := by unfold t_S; omega
    omega
theorem t_pla_cart {m o s c m' c' w : Int32} (H : t_pla g m o s c) (hm0 : 0 ≤ m.toInt) (hs0 : 0 ≤ s.toInt) (hc0 : 0 ≤ c.toInt) (hmay : t_mayC g m.toInt.toNat o.toInt.toNat c.toInt.toNat)
    (heq : t_la (g 92) (t_S g) (t_C g) m.toInt.toNat o.toInt.toNat s.toInt.toNat c.toInt.toNat = t_byc g (g 92) m.toInt.toNat s.toInt.toNat c.toInt.toNat) (hw : t_ct g c.toInt.toNat = w.toInt.toNat) (hw0 : 0 ≤ w.toInt) (im : m'.toInt = m.toInt + w.toInt) (is : c'.toInt = c.toInt + 1)
    (hsc : 0 ≤ t_cc g c.toInt.toNat) (hsp : t_sp g g') (h92 : g' 92 = g 92) (hn : (g' 69 55).toInt = (g 69 55).toInt + 1) (hwh : t_wh (g' 69 55).toInt (g' 93) (g' 95)) : t_pla g' m' o s c' := by
  obtain ⟨h1, h2, h3, h4, h5, h6, h7, h8⟩ := H
  unfold t_mayC at hmay
  have e1 : m'.toInt.toNat = m.toInt.toNat + t_ct g c.toInt.toNat := by omega
  have e2 : c'.toInt.toNat = c.toInt.toNat + 1 := by omega
  have hp : 0 ≤ ((m.toInt.toNat : Int) - t_ca g c.toInt.toNat) * t_cc g c.toInt.toNat := Int.mul_nonneg (by omega) hsc
  unfold t_byc at heq
  refine t_pla_tr hsp h92 hn hwh ⟨h1, ?_, ?_, h5, ?_, h7, h8⟩
  · rw [e1, e2, hmay.1]; omega
  · refine Or.inl ?_
    rcases h3 with h | ⟨h, -⟩ <;> omega
  · have : (t_C g : Int) = (g 69 45).toInt := by unfold t_C; omega
    omega
theorem t_pla_rest {m o s c m' : Int32} (H : t_pla g m o s c) (hm0 : 0 ≤ m.toInt) (heq : t_la (g 92) (t_S g) (t_C g) (m.toInt.toNat + 1) o.toInt.toNat s.toInt.toNat c.toInt.toNat = t_la (g 92) (t_S g) (t_C g) m.toInt.toNat o.toInt.toNat s.toInt.toNat c.toInt.toNat) (im : m'.toInt = m.toInt + 1) : t_pla g m' o s c := by
  obtain ⟨h1, h2, h3, h4, h5, h6, h7, h8⟩ := H
  have e1 : m'.toInt.toNat = m.toInt.toNat + 1 := by omega
  refine ⟨h1, ?_, ?_, h4, h5, h6, h7, h8⟩
  · rw [e1, heq]; exact h2
  · rw [e1]
    rcases h3 with h | ⟨h, m0, h9, h10⟩
    · exact Or.inl h
    · exact Or.inr ⟨h, m0, by omega, by rw [heq]; exact h10⟩
theorem t_pla_turn {m o s c m' o' w : Int32} (H : t_pla g m o s c) (hm0 : 0 ≤ m.toInt) (hm : m.toInt ≤ 240) (ho0 : 0 ≤ o.toInt) (ho : o.toInt ≤ 1) (hs0 : 0 ≤ s.toInt) (hc0 : 0 ≤ c.toInt) (hS : (g 69 44).toInt ≤ 6) (hC : (g 69 45).toInt ≤ 6) (hne : s.toInt < (g 69 44).toInt ∨ c.toInt < (g 69 45).toInt)
    (h1' : t_mayS g m.toInt.toNat o.toInt.toNat s.toInt.toNat → t_bys g (g 92) m.toInt.toNat s.toInt.toNat c.toInt.toNat ≠ t_la (g 92) (t_S g) (t_C g) m.toInt.toNat o.toInt.toNat s.toInt.toNat c.toInt.toNat)
    (h2' : t_mayC g m.toInt.toNat o.toInt.toNat c.toInt.toNat → t_byc g (g 92) m.toInt.toNat s.toInt.toNat c.toInt.toNat ≠ t_la (g 92) (t_S g) (t_C g) m.toInt.toNat o.toInt.toNat s.toInt.toNat c.toInt.toNat)
    (h3' : t_la (g 92) (t_S g) (t_C g) (m.toInt.toNat + 1) o.toInt.toNat s.toInt.toNat c.toInt.toNat ≠ t_la (g 92) (t_S g) (t_C g) m.toInt.toNat o.toInt.toNat s.toInt.toNat c.toInt.toNat)
    (hw : w.toInt = (t_tt g (g 69 48).toInt m.toInt.toNat : Nat)) (im : m'.toInt = m.toInt + w.toInt) (io : o'.toInt = 1 - o.toInt)
    (hsp : t_sp g g') (h92 : g' 92 = g 92) (hn : (g' 69 55).toInt = (g 69 55).toInt + 1) (hwh : t_wh (g' 69 55).toInt (g' 93) (g' 95)) : t_pla g' m' o' s c := by
  obtain ⟨h1, h2, h3, h4, h5, h6, h7, h8⟩ := H
  have eS : (t_S g : Int) = (g 69 44).toInt := by unfold t_S; omega
  have eC : (t_C g : Int) = (g 69 45).toInt := by unfold t_C; omega
  have e1 : m'.toInt.toNat = m.toInt.toNat + t_tt g (g 69 48).toInt m.toInt.toNat := by omega
  have e2 : o'.toInt.toNat = 1 - o.toInt.toNat := by omega
  have ht := t_tt1 (g := g) h8 m.toInt.toNat
  have hr := h1 m.toInt.toNat o.toInt.toNat s.toInt.toNat c.toInt.toNat (by omega) (by omega) (by omega) (by omega) (by unfold t_ky; omega)
  have e3 : t_la (g 92) (t_S g) (t_C g) m.toInt.toNat o.toInt.toNat s.toInt.toNat c.toInt.toNat = (g 92 (t_ix m.toInt.toNat o.toInt.toNat s.toInt.toNat c.toInt.toNat)).toInt := by
    unfold t_la; rw [if_neg (by omega), if_neg (by omega)]
  rw [e3] at h1' h2' h3' h2
  obtain ⟨h9, h10⟩ := t_opt hr.1 h2
  have e4 : t_la (g 92) (t_S g) (t_C g) (m.toInt.toNat + t_tt g (g 69 48).toInt m.toInt.toNat) (1 - o.toInt.toNat) s.toInt.toNat c.toInt.toNat = (g 92 (t_ix m.toInt.toNat o.toInt.toNat s.toInt.toNat c.toInt.toNat)).toInt := by
    rcases h10 with h | h | ⟨h, h'⟩ | ⟨h, h'⟩
    · exact absurd h.symm h3'
    · exact h.symm
    · exact absurd h'.symm (h1' h)
    · exact absurd h'.symm (h2' h)
  have hlt : (g 92 (t_ix m.toInt.toNat o.toInt.toNat s.toInt.toNat c.toInt.toNat)).toInt < t_la (g 92) (t_S g) (t_C g) (m.toInt.toNat + 1) o.toInt.toNat s.toInt.toNat c.toInt.toNat := by omega
  refine t_pla_tr hsp h92 hn hwh ⟨h1, ?_, ?_, h5, h6, h7, h8⟩
  · rw [e1, e2, e4]; exact h2
  · rw [e1, e2]
    rcases h3 with h | ⟨h, m0, h11, h12⟩
    · refine Or.inr ⟨by omega, m.toInt.toNat, by omega, ?_⟩
      rw [e4, show 1 - (1 - o.toInt.toNat) = o.toInt.toNat by omega]; exact hlt
    · exfalso
      rw [e3] at h12
      have h13 := t_mono h1 (o := 1 - o.toInt.toNat) (s := s.toInt.toNat) (c := c.toInt.toNat) (by omega) (by omega) (by omega) (by omega) (by omega) (m := m0 + 1) (m.toInt.toNat + t_tt g (g 69 48).toInt m.toInt.toNat - (m0 + 1))
      rw [show m0 + 1 + (m.toInt.toNat + t_tt g (g 69 48).toInt m.toInt.toNat - (m0 + 1)) = m.toInt.toNat + t_tt g (g 69 48).toInt m.toInt.toNat by omega, e4] at h13
      omega
end DP3
section DP4
variable {g g' : Nat → Nat → Int32}
theorem t_so0 {sh : List (Nat ⊕ (Nat × Nat))} {gr : Nat → Nat → Value} (h : t_I sh g gr) {s : Nat} (hs : s < 6) : 0 ≤ t_so g s := by
  have := t_hcs h s hs
  exact (t_hct h (t_si g s) (by unfold t_si; omega)).1
theorem t_cc0 {sh : List (Nat ⊕ (Nat × Nat))} {gr : Nat → Nat → Value} (h : t_I sh g gr) {c : Nat} (hc : c < 6) : 0 ≤ t_cc g c := by
  have := t_hcs h c hc
  exact (t_hct h (t_ci g c) (by unfold t_ci; omega)).2
/-- what is told of the least: none, or it -/
noncomputable def t_rk (v x : Int) : Prop := (v ≠ -1 → x < 1000000000) ∧ ((v = -1 ∧ 1000000000 ≤ x) ∨ v = x)
theorem t_pla_0 (h1 : t_pr g (g 92) (g 69 48).toInt 23618) (h2 : t_la (g 92) (t_S g) (t_C g) 0 0 0 0 < 1000000000) (h7 : ∀ j : Nat, j < 12 → 0 ≤ (g 89 j).toInt ∧ (g 89 j).toInt ≤ 300) (h8 : 1 ≤ (g 69 48).toInt) (hs : 0 ≤ (g 69 44).toInt) (hc : 0 ≤ (g 69 45).toInt) (hsp : t_sp g g') (h92 : g' 92 = g 92) (hn : (g' 69 55).toInt = 0) : t_pla g' 0 0 0 0 :=
  t_pla_tr (n := 0) hsp h92 hn (fun j hj => by omega) ⟨h1, h2, Or.inl (by decide), hs, hc, h7, h8⟩
theorem t_wh_s {n : Int} {a a' b b' : Nat → Int32} {k : Nat} {x y : Int32} (h : t_wh n a b) (hk : (k : Int) = n) (ha : (∀ j, j ≠ k → a' j = a j) ∧ a' k = x) (hb : (∀ j, j ≠ k → b' j = b j) ∧ b' k = y) (hxy : x.toInt ≠ 2 → 0 ≤ y.toInt) : t_wh (n + 1) a' b' := by
  intro j hj h2
  by_cases hjk : j = k
  · subst hjk; rw [ha.2] at h2; rw [hb.2]; exact hxy h2
  · rw [ha.1 j hjk] at h2; rw [hb.1 j hjk]; exact h j (by omega) h2
theorem t_cm_w (h : ∀ j : Nat, j < 12 → 0 ≤ (g 89 j).toInt ∧ (g 89 j).toInt ≤ 120) : ∀ j : Nat, j < 12 → 0 ≤ (g 89 j).toInt ∧ (g 89 j).toInt ≤ 300 := fun j hj => ⟨(h j hj).1, Int.le_trans (h j hj).2 (by decide)⟩
end DP4
