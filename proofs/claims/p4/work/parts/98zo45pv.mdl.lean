/-! ===== a minute of the other side ===== -/
section MMN
variable {P : Nat → Nat → Int} {A : (Nat → Int) → Int} {Z Y : Nat → Int} {g g1 : Nat → Nat → Int32} {m q a w : Int} {n k c : Nat} {R : List (List Int × Int)}
theorem t_MB.en1 (h : t_MB m Z g) (hm : 0 ≤ m) (ht : (g 69 61).toInt ≠ m) (e : ∀ j, 60 ≤ j → j ≤ 67 → j ≠ 64 → g1 69 j = g 69 j) : t_MZ m (s_en m Z) g1 := by
  obtain ⟨⟨a0, a3, a4⟩, ⟨b5, b6⟩, c, d1, d2, d3, d4⟩ := h
  unfold t_MZ
  rw [e 60 (by decide) (by decide) (by decide), e 61 (by decide) (by decide) (by decide), e 62 (by decide) (by decide) (by decide), e 63 (by decide) (by decide) (by decide), e 65 (by decide) (by decide) (by decide), e 66 (by decide) (by decide) (by decide), e 67 (by decide) (by decide) (by decide)]
  by_cases h0 : Z 1 ≠ 0 ∧ Z 2 ≤ m
  · have h3 : Z 1 ≠ 3 := fun hh => by have := d1 hh; have := h0.2; omega
    rw [show s_en m Z = s_z Z 1 0 from (if_pos h0).trans (if_neg h3)]
    rw [s_z_at, s_z_ne (show 0 ≠ 1 by decide), s_z_ne (show 3 ≠ 1 by decide), s_z_ne (show 4 ≠ 1 by decide), s_z_ne (show 5 ≠ 1 by decide), s_z_ne (show 6 ≠ 1 by decide), s_z_ne (show 2 ≠ 1 by decide)]
    have e3 := d3 (by have := h0.1; omega)
    have e2 := d2 h3
    exact ⟨⟨a0, a3, a4⟩, ⟨b5, b6⟩, by omega, fun hh => absurd hh (by decide), fun _ => e2, fun hh => by omega, fun _ => by have := h0.2; omega⟩
  · rw [show s_en m Z = Z from if_neg h0]
    refine ⟨⟨a0, a3, a4⟩, ⟨b5, b6⟩, c, fun hh => ?_, d2, fun hh => ?_, d4⟩
    · have := d1 hh; exact ⟨this.1, by omega⟩
    · have := d3 hh; exact ⟨this, by omega⟩
theorem t_MB.en3 (h : t_MB m Z g) (hm : 0 ≤ m) (ht : (g 69 61).toInt = m) (e60 : (g1 69 60).toInt = 1 - Z 0) (e61 : (g1 69 61).toInt = -1) (e63 : (g1 69 63).toInt = m) (e62 : g1 69 62 = g 69 62) (e65 : g1 69 65 = g 69 65) (e66 : g1 69 66 = g 69 66) (e67 : g1 69 67 = g 69 67) : t_MZ m (s_en m Z) g1 := by
  obtain ⟨⟨a0, a3, a4⟩, ⟨b5, b6⟩, c, d1, d2, d3, d4⟩ := h
  have h3 : Z 1 = 3 := by
    by_cases hh : Z 1 = 3
    · exact hh
    · have := d2 hh; omega
  have h2 := d1 h3
  have e4 := d4 (by omega)
  unfold t_MZ
  rw [show s_en m Z = s_z (s_z (s_z Z 0 (1 - Z 0)) 3 (Z 2)) 1 0 from (if_pos ⟨by omega, by omega⟩).trans (if_pos h3), e62, e65, e66, e67]
  have z (j : Nat) (h0 : j ≠ 0) (h1 : j ≠ 1) (h3 : j ≠ 3) : s_z (s_z (s_z Z 0 (1 - Z 0)) 3 (Z 2)) 1 0 j = Z j := by rw [s_z_ne h1, s_z_ne h3, s_z_ne h0]
  rw [s_z_at, s_z_ne (show 0 ≠ 1 by decide), s_z_ne (show 0 ≠ 3 by decide), s_z_at, s_z_ne (show 3 ≠ 1 by decide), s_z_at, z 4 (by decide) (by decide) (by decide), z 5 (by decide) (by decide) (by decide), z 6 (by decide) (by decide) (by decide), z 2 (by decide) (by decide) (by decide)]
  exact ⟨⟨e60, by omega, a4⟩, ⟨b5, b6⟩, by omega, fun hh => absurd hh (by decide), fun _ => e61, fun hh => by omega, fun _ => e4⟩
theorem t_YS.en (h : t_YS n Z g) : t_YS n (s_en m Z) g := h.cg (fun k _ => s_en_o (by omega) (by omega) (by omega))
/-- some are STRUCK -/
theorem t_MZ.sk (h : t_MZ m Z g) (e : ∀ j, 60 ≤ j → j ≤ 66 → j ≠ 64 → g1 69 j = g 69 j) (e67 : g1 69 67 = Int32.ofInt ((s_skz P m n k Z) 6)) : t_MZ m (s_skz P m n k Z) g1 := by
  obtain ⟨⟨a0, a3, a4⟩, ⟨b5, b6⟩, c, d1, d2, d3, d4⟩ := h
  unfold t_MZ
  rw [e 60 (by decide) (by decide) (by decide), e 61 (by decide) (by decide) (by decide), e 62 (by decide) (by decide) (by decide), e 63 (by decide) (by decide) (by decide), e 65 (by decide) (by decide) (by decide), e 66 (by decide) (by decide) (by decide)]
  rw [s_skz_o (j := 0) (by decide) (by decide), s_skz_o (j := 1) (by decide) (by decide), s_skz_o (j := 2) (by decide) (by decide), s_skz_o (j := 3) (by decide) (by decide), s_skz_o (j := 4) (by decide) (by decide), s_skz_o (j := 5) (by decide) (by decide)]
  exact ⟨⟨a0, a3, a4⟩, ⟨b5, e67⟩, c, d1, d2, d3, d4⟩
/-- a turn is begun -/
theorem t_MZ.tn (h : t_MZ m Z g) (hz : Z 1 = 0) (ha : m < a) (e61 : (g1 69 61).toInt = a) (e : ∀ j, 60 ≤ j → j ≤ 67 → j ≠ 61 → j ≠ 64 → g1 69 j = g 69 j) : t_MZ m (s_z (s_z (s_z Z 1 3) 2 a) 7 w) g1 := by
  obtain ⟨⟨a0, a3, a4⟩, ⟨b5, b6⟩, c, d1, d2, d3, d4⟩ := h
  have z (j : Nat) (h1 : j ≠ 1) (h2 : j ≠ 2) (h7 : j ≠ 7) : s_z (s_z (s_z Z 1 3) 2 a) 7 w j = Z j := by rw [s_z_ne h7, s_z_ne h2, s_z_ne h1]
  unfold t_MZ
  rw [e 60 (by decide) (by decide) (by decide) (by decide), e 62 (by decide) (by decide) (by decide) (by decide), e 63 (by decide) (by decide) (by decide) (by decide), e 65 (by decide) (by decide) (by decide) (by decide), e 66 (by decide) (by decide) (by decide) (by decide), e 67 (by decide) (by decide) (by decide) (by decide)]
  rw [z 0 (by decide) (by decide) (by decide), z 3 (by decide) (by decide) (by decide), z 4 (by decide) (by decide) (by decide), z 5 (by decide) (by decide) (by decide), z 6 (by decide) (by decide) (by decide), s_z_ne (show 1 ≠ 7 by decide), s_z_ne (show 1 ≠ 2 by decide), s_z_at, s_z_ne (show 2 ≠ 7 by decide), s_z_at]
  have e4 := d4 (by omega)
  exact ⟨⟨a0, a3, a4⟩, ⟨b5, b6⟩, by omega, fun _ => ⟨e61, ha⟩, fun hh => absurd rfl hh, fun hh => by omega, fun _ => e4⟩
theorem t_YS.tn (h : t_YS n Z g) (e64 : g1 69 64 = g 69 64) (e90 : g1 90 = g 90) (e99 : g1 99 = g 99) : t_YS n (s_z (s_z (s_z Z 1 3) 2 a) 7 w) g1 := (h.fr e64 e90 e99).cg (fun k _ => by rw [s_z_ne (by omega), s_z_ne (by omega), s_z_ne (by omega)])
theorem t_MZ.next (h : t_MZ m Z g) : t_MB (m + 1) Z g := by
  obtain ⟨a, b, c, d1, d2, d3, d4⟩ := h
  refine ⟨a, b, c, fun hh => ?_, d2, fun hh => (d3 hh).1, fun hh => ?_⟩
  · have := d1 hh; exact ⟨this.1, by omega⟩
  · have := d4 hh; omega
/-- a SHIP begins -/
theorem t_MZ.bs (h : t_MZ m Z g) (hz : Z 1 = 0) (e62 : (g1 69 62).toInt = m + P 2 k) (e66 : g1 69 66 = Int32.ofInt (Z 5 + (m - P 1 k) * P 3 k)) (e : ∀ j, 60 ≤ j → j ≤ 67 → j ≠ 62 → j ≠ 64 → j ≠ 66 → g1 69 j = g 69 j) : t_MB (m + 1) (s_bS1 P m Z k) g1 := by
  obtain ⟨⟨a0, a3, a4⟩, ⟨b5, b6⟩, c, d1, d2, d3, d4⟩ := h
  have z (j : Nat) (hk : j ≠ 10 + k) (h1 : j ≠ 1) (h2 : j ≠ 2) (h5 : j ≠ 5) : s_bS1 P m Z k j = Z j := by unfold s_bS1; rw [s_z_ne h5, s_z_ne h2, s_z_ne h1, s_z_ne hk]
  have z1 : s_bS1 P m Z k 1 = 1 := by unfold s_bS1; rw [s_z_ne (by decide), s_z_ne (by decide), s_z_at]
  have z2 : s_bS1 P m Z k 2 = m + P 2 k := by unfold s_bS1; rw [s_z_ne (by decide), s_z_at]
  have z5 : s_bS1 P m Z k 5 = Z 5 + (m - P 1 k) * P 3 k := by unfold s_bS1; rw [s_z_at]
  unfold t_MB
  rw [e 60 (by decide) (by decide) (by decide) (by decide) (by decide), e 61 (by decide) (by decide) (by decide) (by decide) (by decide), e 63 (by decide) (by decide) (by decide) (by decide) (by decide), e 65 (by decide) (by decide) (by decide) (by decide) (by decide), e 67 (by decide) (by decide) (by decide) (by decide) (by decide)]
  rw [z 0 (by omega) (by decide) (by decide) (by decide), z 3 (by omega) (by decide) (by decide) (by decide), z 4 (by omega) (by decide) (by decide) (by decide), z 6 (by omega) (by decide) (by decide) (by decide), z1, z2, z5]
  have e2 := d2 (by omega)
  exact ⟨⟨a0, a3, a4⟩, ⟨e66, b6⟩, by omega, fun hh => absurd hh (by decide), fun _ => e2, fun _ => e62, fun hh => absurd (Or.inl rfl) hh⟩
/-- a CART begins -/
theorem t_MZ.bc (h : t_MZ m Z g) (hz : Z 1 = 0) (e62 : (g1 69 62).toInt = m + P 6 c) (e65 : (g1 69 65).toInt = Z 4 + 1) (e66 : g1 69 66 = Int32.ofInt (Z 5 + (m - P 5 c) * P 7 c)) (e : ∀ j, 60 ≤ j → j ≤ 67 → j ≠ 62 → j ≠ 64 → j ≠ 65 → j ≠ 66 → g1 69 j = g 69 j) : t_MB (m + 1) (s_bC1 P m Z c) g1 := by
  obtain ⟨⟨a0, a3, a4⟩, ⟨b5, b6⟩, cc, d1, d2, d3, d4⟩ := h
  have z (j : Nat) (h1 : j ≠ 1) (h2 : j ≠ 2) (h5 : j ≠ 5) (h4 : j ≠ 4) : s_bC1 P m Z c j = Z j := by unfold s_bC1; rw [s_z_ne h4, s_z_ne h5, s_z_ne h2, s_z_ne h1]
  have z1 : s_bC1 P m Z c 1 = 2 := by unfold s_bC1; rw [s_z_ne (by decide), s_z_ne (by decide), s_z_ne (by decide), s_z_at]
  have z2 : s_bC1 P m Z c 2 = m + P 6 c := by unfold s_bC1; rw [s_z_ne (by decide), s_z_ne (by decide), s_z_at]
  have z5 : s_bC1 P m Z c 5 = Z 5 + (m - P 5 c) * P 7 c := by unfold s_bC1; rw [s_z_ne (by decide), s_z_at]
  have z4 : s_bC1 P m Z c 4 = Z 4 + 1 := by unfold s_bC1; rw [s_z_at]
  unfold t_MB
  rw [e 60 (by decide) (by decide) (by decide) (by decide) (by decide) (by decide), e 61 (by decide) (by decide) (by decide) (by decide) (by decide) (by decide), e 63 (by decide) (by decide) (by decide) (by decide) (by decide) (by decide), e 67 (by decide) (by decide) (by decide) (by decide) (by decide) (by decide)]
  rw [z 0 (by decide) (by decide) (by decide) (by decide), z 3 (by decide) (by decide) (by decide) (by decide), z 6 (by decide) (by decide) (by decide) (by decide), z1, z2, z4, z5]
  have e2 := d2 (by omega)
  exact ⟨⟨a0, a3, e65⟩, ⟨e66, b6⟩, by omega, fun hh => absurd hh (by decide), fun _ => e2, fun _ => e62, fun hh => absurd (Or.inr rfl) hh⟩
theorem t_YS.bc (h : t_YS n Z g) (e64 : g1 69 64 = g 69 64) (e90 : g1 90 = g 90) (e99 : g1 99 = g 99) : t_YS n (s_bC1 P m Z c) g1 := (h.fr e64 e90 e99).cg (fun k _ => by unfold s_bC1; rw [s_z_ne (by omega), s_z_ne (by omega), s_z_ne (by omega), s_z_ne (by omega)])
theorem s_cu_sub {f f2 : Nat → Int} : ∀ (n k : Nat), k ≤ n → (∀ j, j < k → f j = 0) → (∀ j, k ≤ j → j < n → f j = f2 j) → s_cu f n = s_cu f2 n - s_cu f2 k
  | 0, k, hk, _, _ => by
    have : k = 0 := by omega
    subst this
    show (0 : Int) = 0 - 0
    omega
  | n + 1, k, hk, h1, h2 => by
    by_cases he : k = n + 1
    · subst he
      rw [s_cu_0 (n + 1) h1]; omega
    · have ih := s_cu_sub n k (by omega) h1 (fun j a b => h2 j a (by omega))
      show s_cu f n + f n = s_cu f2 n + f2 n - s_cu f2 k
      rw [ih, h2 n (by omega) (by omega)]; omega
/-- the facts, as both count them -/
theorem t_MA_of (hP : s_TP g q P) (hS : t_YS (P 0 0).toNat Z g) (hZ : t_MZ (g 69 59).toInt Z g) (hO : s_okz P Z) (h44 : 0 ≤ (g 69 44).toInt) (h45 : 0 ≤ (g 69 45).toInt) : t_MA (s_FA P (g 69 59).toInt Z) g := by
  have p0 := hP.1.1
  have p1 := hP.1.2
  have eS : (P 0 0).toNat = t_S g := by omega
  have eC : (P 0 1).toNat = t_C g := by omega
  have hSi : ((t_S g : Nat) : Int) = (g 69 44).toInt := by unfold t_S; omega
  have hCi : ((t_C g : Nat) : Int) = (g 69 45).toInt := by unfold t_C; omega
  have s64 := hS.1
  obtain ⟨⟨a0, a3, a4⟩, -⟩ := hZ
  have o4 := hO.2
  refine ⟨⟨by omega, by omega, by omega, by omega⟩, a0.symm, ?_, ?_, ?_, rfl, ?_⟩
  · show s_cu (s_wS P (g 69 59).toInt Z) (P 0 0).toNat = s_cu (s_mwk g) (t_S g) - s_cu (s_mwk g) (g 69 64).toInt.toNat
    rw [eS]
    refine s_cu_sub _ _ (by omega) (fun j hj => if_neg (fun hh => (hS.2 j (by omega)).2.1 (by omega) hh.1)) (fun j h1 h2 => ?_)
    obtain ⟨ga, gb, gc, gd⟩ := hS.2 j (by omega)
    have e1 := (hP.2.1 j h2).1
    have gc2 := gc (by omega)
    unfold s_wS s_mwk
    rw [e1]
    by_cases hz : Z (10 + j) = 0
    · have hg : (g 99 (t_si g j)).toInt = 0 := by rw [ga, if_neg (by omega)]
      by_cases hm : t_sa g j ≤ (g 69 59).toInt
      · rw [if_pos ⟨hz, hm⟩, if_pos ⟨hg, hm⟩]
      · rw [if_neg (fun hh => hm hh.2), if_neg (fun hh => hm hh.2)]
    · have h2z : Z (10 + j) = 2 := by omega
      have hg : (g 99 (t_si g j)).toInt = 1 := by rw [ga, if_pos h2z]
      rw [if_neg (fun hh => hz hh.1), if_neg (fun hh => by have := hh.1; omega)]
  · show s_cu (s_wC P (g 69 59).toInt) (P 0 1).toNat - s_cu (s_wC P (g 69 59).toInt) (Z 4).toNat = s_cu (s_mck g) (t_C g) - s_cu (s_mck g) (g 69 65).toInt.toNat
    have hk : ∀ j, j < t_C g → s_wC P (g 69 59).toInt j = s_mck g j := fun j hj => by
      have e5 := (hP.2.2.1 j hj).1
      unfold s_wC s_mck
      rw [e5]
    rw [eC, s_cu_cg (f := s_wC P (g 69 59).toInt) (g := s_mck g) (t_C g) hk, show (Z 4).toNat = (g 69 65).toInt.toNat by omega, s_cu_cg (f := s_wC P (g 69 59).toInt) (g := s_mck g) (g 69 65).toInt.toNat (fun j hj => hk j (by omega))]
  · show s_nx (P 1) (g 69 59).toInt (P 0 0).toNat 0 = s_nx (t_sa g) (g 69 59).toInt (t_S g) 0
    rw [eS]
    exact s_nx_cg _ _ (fun j _ h2 => (hP.2.1 j (by omega)).1)
  · show (g 69 59).toInt - Z 3 = (g 69 59).toInt - (g 69 63).toInt
    omega
/-- all is over -/
theorem s_done_i (hS : ((s_f1 Z (P 0 0).toNat 0 : Nat) : Int) = a) (ha : 0 ≤ P 0 0) (hZ : t_MZ m Z g) : s_done P Z ↔ (P 0 0 ≤ a ∧ P 0 1 ≤ Z 4 ∧ (g 69 62).toInt ≤ m) := by
  obtain ⟨-, -, c, d1, d2, d3, d4⟩ := hZ
  unfold s_done
  rw [hS]
  constructor
  · rintro ⟨⟨h1, h2⟩, h3, h4⟩
    exact ⟨h1, h2, d4 (by omega)⟩
  · rintro ⟨h1, h2, h3⟩
    have h5 : ¬ (Z 1 = 1 ∨ Z 1 = 2) := fun hh => by have := d3 hh; omega
    exact ⟨⟨h1, h2⟩, by omega, by omega⟩
theorem t_MZ.fr (h : t_MZ m Z g) (e : ∀ j, 60 ≤ j → j ≤ 67 → j ≠ 64 → g1 69 j = g 69 j) : t_MZ m Z g1 := by
  unfold t_MZ
  rw [e 60 (by decide) (by decide) (by decide), e 61 (by decide) (by decide) (by decide), e 62 (by decide) (by decide) (by decide), e 63 (by decide) (by decide) (by decide), e 65 (by decide) (by decide) (by decide), e 66 (by decide) (by decide) (by decide), e 67 (by decide) (by decide) (by decide)]
  exact h
/-- the numbers of a crossing stay -/
theorem s_TP.eq (h : s_TP g q P) (e44 : g1 69 44 = g 69 44) (e45 : g1 69 45 = g 69 45) (e70 : g1 70 = g 70) (e89 : g1 89 = g 89) (e90 : g1 90 = g 90) (e91 : g1 91 = g 91) : s_TP g1 q P := by
  unfold s_TP t_S t_C t_sa t_st t_so t_ss t_ca t_ct t_cc t_tt t_si t_ci at *
  rw [e44, e45, e70, e89, e90, e91]
  exact h
theorem t_IJ.eq (h : t_IJ n g) (e90 : g1 90 = g 90) : t_IJ n g1 := by
  unfold t_IJ t_si
  rw [e90]
  exact h
end MMN
