/-! ===== a day, minute by minute: what stays, and when all is over ===== -/
section DYS
variable {P : Nat → Nat → Int} {A : (Nat → Int) → Int} {Z Y : Nat → Int} {m v : Int} {i j k n : Nat}
theorem s_en_o (h0 : j ≠ 0) (h1 : j ≠ 1) (h3 : j ≠ 3) : s_en m Z j = Z j := by
  unfold s_en
  split
  · split
    · rw [s_z_ne h1, s_z_ne h3, s_z_ne h0]
    · rw [s_z_ne h1]
  · rfl
theorem s_en_ok (h : s_okz P Z) (hm : m ≤ 301) : s_okz P (s_en m Z) := by
  obtain ⟨h0, h4, h5, h2, h3, h6⟩ := h
  unfold s_okz s_en
  by_cases c1 : Z 1 ≠ 0 ∧ Z 2 ≤ m
  · rw [if_pos c1]
    by_cases c2 : Z 1 = 3
    · rw [if_pos c2, s_z_ne (show 0 ≠ 1 by decide), s_z_ne (show 0 ≠ 3 by decide), s_z_at, s_z_ne (show 4 ≠ 1 by decide), s_z_ne (show 4 ≠ 3 by decide), s_z_ne (show 4 ≠ 0 by decide), s_z_ne (show 2 ≠ 1 by decide), s_z_ne (show 2 ≠ 3 by decide), s_z_ne (show 2 ≠ 0 by decide), s_z_ne (show 3 ≠ 1 by decide), s_z_at]
      have c3 := c1.2
      exact ⟨by omega, h4, h5, h2, h2, by omega⟩
    · rw [if_neg c2, s_z_ne (show 0 ≠ 1 by decide), s_z_ne (show 4 ≠ 1 by decide), s_z_ne (show 2 ≠ 1 by decide), s_z_ne (show 3 ≠ 1 by decide)]
      exact ⟨h0, h4, h5, h2, h3, h6⟩
  · rw [if_neg c1]
    exact ⟨h0, h4, h5, h2, h3, h6⟩
theorem s_k1_o (h6 : j ≠ 6) (hj : j < 10) : s_k1 P m Z k j = Z j := by
  unfold s_k1
  split
  · rfl
  · exact s_k2_o h6 (by omega)
theorem s_skz_o (h6 : j ≠ 6) (hj : j < 10) : ∀ (n k : Nat) (Z : Nat → Int), s_skz P m n k Z j = Z j
  | 0, _, _ => rfl
  | n + 1, k, Z => by rw [s_skz_s, s_skz_o h6 hj n (k + 1), s_k1_o h6 hj]
theorem s_skz_ok (h : s_okz P Z) : s_okz P (s_skz P m n k Z) := by
  unfold s_okz
  rw [s_skz_o (j := 0) (by decide) (by decide), s_skz_o (j := 4) (by decide) (by decide), s_skz_o (j := 2) (by decide) (by decide), s_skz_o (j := 3) (by decide) (by decide)]
  exact h
theorem s_ob_o (h1 : j ≠ 1) (h2 : j ≠ 2) (h6 : j ≠ 6) (h7 : j ≠ 7) (hj : j < 10) : s_ob P A m Z j = Z j := by
  unfold s_ob
  split
  · rw [s_skz_o h6 hj, s_z_ne h7, s_z_ne h2, s_z_ne h1]
  · rfl
theorem s_tn_ok (h : s_okz P Z) (ha : 0 ≤ v) : s_okz P (s_z (s_z (s_z Z 1 3) 2 v) 7 (Z 7 + 1)) := by
  obtain ⟨h0, h4, h5, h2, h3, h6⟩ := h
  unfold s_okz
  rw [s_z_ne (show 0 ≠ 7 by decide), s_z_ne (show 0 ≠ 2 by decide), s_z_ne (show 0 ≠ 1 by decide), s_z_ne (show 4 ≠ 7 by decide), s_z_ne (show 4 ≠ 2 by decide), s_z_ne (show 4 ≠ 1 by decide), s_z_ne (show 2 ≠ 7 by decide), s_z_at, s_z_ne (show 3 ≠ 7 by decide), s_z_ne (show 3 ≠ 2 by decide), s_z_ne (show 3 ≠ 1 by decide)]
  exact ⟨h0, h4, h5, ha, h3, h6⟩
theorem s_ob_ok (h : s_okz P Z) (hm : 0 ≤ m) (hP : s_PO P) : s_okz P (s_ob P A m Z) := by
  unfold s_ob
  split
  · exact s_skz_ok (s_tn_ok h (by have := (hP.2.2 m.toNat).1; omega))
  · exact h
theorem s_bg_ok (h : s_okz P Z) (hm : 0 ≤ m) (hP : s_PO P) : s_okz P (s_bg P m Z) := by
  obtain ⟨h0, h4, h5, h2, h3, h6⟩ := h
  unfold s_bg
  split
  · exact ⟨h0, h4, h5, h2, h3, h6⟩
  · split
    · rename_i h9
      have p2 := (hP.1 _ h9.2.1).2.1
      unfold s_okz s_bS1
      rw [s_z_ne (show 0 ≠ 5 by decide), s_z_ne (show 0 ≠ 2 by decide), s_z_ne (show 0 ≠ 1 by decide), s_z_ne (show 0 ≠ 10 + s_f1 Z (P 0 0).toNat 0 by omega), s_z_ne (show 4 ≠ 5 by decide), s_z_ne (show 4 ≠ 2 by decide), s_z_ne (show 4 ≠ 1 by decide), s_z_ne (show 4 ≠ 10 + s_f1 Z (P 0 0).toNat 0 by omega), s_z_ne (show 2 ≠ 5 by decide), s_z_at, s_z_ne (show 3 ≠ 5 by decide), s_z_ne (show 3 ≠ 2 by decide), s_z_ne (show 3 ≠ 1 by decide), s_z_ne (show 3 ≠ 10 + s_f1 Z (P 0 0).toNat 0 by omega)]
      exact ⟨h0, h4, h5, by omega, h3, h6⟩
    · split
      · rename_i h9
        have h7 := h9.2.1
        have p6 := (hP.2.1 (Z 4).toNat (by omega)).2.1
        unfold s_okz s_bC1
        rw [s_z_ne (show 0 ≠ 4 by decide), s_z_ne (show 0 ≠ 5 by decide), s_z_ne (show 0 ≠ 2 by decide), s_z_ne (show 0 ≠ 1 by decide), s_z_at, s_z_ne (show 2 ≠ 4 by decide), s_z_ne (show 2 ≠ 5 by decide), s_z_at, s_z_ne (show 3 ≠ 4 by decide), s_z_ne (show 3 ≠ 5 by decide), s_z_ne (show 3 ≠ 2 by decide), s_z_ne (show 3 ≠ 1 by decide)]
        exact ⟨h0, by omega, by omega, by omega, h3, h6⟩
      · exact ⟨h0, h4, h5, h2, h3, h6⟩
theorem s_mn_ok (h : s_okz P Z) (hm : 0 ≤ m ∧ m ≤ 301) (hP : s_PO P) : s_okz P (s_mn P A m Z) := s_bg_ok (s_ob_ok (s_skz_ok (s_en_ok h hm.2)) hm.1 hP) hm.1 hP
theorem s_cu_z : ∀ n : Nat, s_cu (s_lS Z) n = 0 ↔ ∀ k, k < n → Z (10 + k) ≠ 0
  | 0 => ⟨fun _ k hk => absurd hk (Nat.not_lt_zero k), fun _ => rfl⟩
  | n + 1 => by
    have ih := s_cu_z n
    have hb := s_cu_b (fun k => s_lS_b (Z := Z) (k := k)) n
    have hl := s_lS_b (Z := Z) (k := n)
    have he : s_cu (s_lS Z) (n + 1) = s_cu (s_lS Z) n + s_lS Z n := rfl
    constructor
    · intro h k hk
      have h0 : s_cu (s_lS Z) n = 0 := by omega
      have h1 : s_lS Z n = 0 := by omega
      by_cases hkn : k = n
      · subst hkn
        intro hz
        have h2 : s_lS Z k = 1 := if_pos hz
        omega
      · exact ih.mp h0 k (by omega)
    · intro h
      have h0 := ih.mpr (fun k hk => h k (by omega))
      have h1 : s_lS Z n = 0 := if_neg (h n (by omega))
      omega
theorem s_f1_z : n ≤ s_f1 Z n 0 ↔ ∀ k, k < n → Z (10 + k) ≠ 0 := by
  obtain ⟨a, b, c, d⟩ := s_f1_b (Z := Z) n 0
  constructor
  · intro h k hk
    exact d k (Nat.zero_le _) (by omega)
  · intro h
    by_cases hlt : s_f1 Z n 0 < n
    · exact absurd (c (by omega)) (h _ hlt)
    · omega
theorem s_lf_0 (h : s_okz P Z) (hP : 0 ≤ P 0 0) : s_lf P Z = 0 ↔ (P 0 0 ≤ ((s_f1 Z (P 0 0).toNat 0 : Nat) : Int) ∧ P 0 1 ≤ Z 4) := by
  have hb := s_cu_b (fun k => s_lS_b (Z := Z) (k := k)) (P 0 0).toNat
  have hz := s_cu_z (Z := Z) (P 0 0).toNat
  have hf := s_f1_z (Z := Z) (n := (P 0 0).toNat)
  have h5 := h.2.2.1
  unfold s_lf
  constructor
  · intro h9
    have h1 : s_cu (s_lS Z) (P 0 0).toNat = 0 := by omega
    have h2 := hf.mpr (hz.mp h1)
    exact ⟨by omega, by omega⟩
  · rintro ⟨h1, h2⟩
    have h3 := hz.mpr (hf.mp (by omega))
    omega
theorem s_lf_cg (h4 : Z 4 = Y 4) (h : ∀ k, Z (10 + k) = Y (10 + k)) : s_lf P Z = s_lf P Y := by
  unfold s_lf
  rw [h4, s_cu_cg (f := s_lS Z) (g := s_lS Y) (P 0 0).toNat (fun k _ => by unfold s_lS; rw [h k])]
theorem s_mn_n (h1 : s_skz P m (P 0 0).toNat 0 (s_en m Z) 1 ≠ 0) : s_mn P A m Z = s_skz P m (P 0 0).toNat 0 (s_en m Z) := by
  have e : s_ob P A m (s_skz P m (P 0 0).toNat 0 (s_en m Z)) = s_skz P m (P 0 0).toNat 0 (s_en m Z) := if_neg (fun hh => h1 hh.1)
  unfold s_mn
  rw [e]
  exact if_pos h1
theorem s_mn_t (h1 : s_ob P A m (s_skz P m (P 0 0).toNat 0 (s_en m Z)) 1 ≠ 0) : s_mn P A m Z = s_ob P A m (s_skz P m (P 0 0).toNat 0 (s_en m Z)) := if_pos h1
end DYS
