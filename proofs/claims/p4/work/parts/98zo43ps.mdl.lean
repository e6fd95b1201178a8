/-! ===== a day on the other side: what its fields hold ===== -/
/-- the SHIPS: who is gone, who has begun -/
noncomputable def t_YS (n : Nat) (Z : Nat → Int) (g : Nat → Nat → Int32) : Prop := (0 ≤ (g 69 64).toInt ∧ (g 69 64).toInt ≤ (n : Int)) ∧ ∀ k : Nat, k < n → ((g 99 (t_si g k)).toInt = if Z (10 + k) = 2 then 1 else 0) ∧ ((k : Int) < (g 69 64).toInt → Z (10 + k) ≠ 0) ∧ ((g 69 64).toInt ≤ (k : Int) → Z (10 + k) ≠ 1) ∧ (Z (10 + k) = 0 ∨ Z (10 + k) = 1 ∨ Z (10 + k) = 2)
/-- the order: nobody twice -/
noncomputable def t_IJ (n : Nat) (g : Nat → Nat → Int32) : Prop := ∀ i j : Nat, i < n → j < n → t_si g i = t_si g j → i = j
/-- open, and whether something is under way -/
noncomputable def t_MO (m : Int) (Z : Nat → Int) (g : Nat → Nat → Int32) : Prop := ((g 69 60).toInt = Z 0 ∧ (Z 0 = 0 ∨ Z 0 = 1)) ∧ ((m < (g 69 61).toInt ∨ m < (g 69 62).toInt) ↔ Z 1 ≠ 0)
/-- in a minute, what is over being over -/
noncomputable def t_MZ (m : Int) (Z : Nat → Int) (g : Nat → Nat → Int32) : Prop := ((g 69 60).toInt = Z 0 ∧ (g 69 63).toInt = Z 3 ∧ (g 69 65).toInt = Z 4) ∧ (g 69 66 = Int32.ofInt (Z 5) ∧ g 69 67 = Int32.ofInt (Z 6)) ∧ (0 ≤ Z 1 ∧ Z 1 ≤ 3) ∧ (Z 1 = 3 → (g 69 61).toInt = Z 2 ∧ m < Z 2) ∧ (Z 1 ≠ 3 → (g 69 61).toInt = -1) ∧ ((Z 1 = 1 ∨ Z 1 = 2) → (g 69 62).toInt = Z 2 ∧ m < Z 2) ∧ (¬ (Z 1 = 1 ∨ Z 1 = 2) → (g 69 62).toInt ≤ m)
/-- as a minute begins -/
noncomputable def t_MB (m : Int) (Z : Nat → Int) (g : Nat → Nat → Int32) : Prop := ((g 69 60).toInt = Z 0 ∧ (g 69 63).toInt = Z 3 ∧ (g 69 65).toInt = Z 4) ∧ (g 69 66 = Int32.ofInt (Z 5) ∧ g 69 67 = Int32.ofInt (Z 6)) ∧ (0 ≤ Z 1 ∧ Z 1 ≤ 3) ∧ (Z 1 = 3 → (g 69 61).toInt = Z 2 ∧ m ≤ Z 2) ∧ (Z 1 ≠ 3 → (g 69 61).toInt = -1) ∧ ((Z 1 = 1 ∨ Z 1 = 2) → (g 69 62).toInt = Z 2) ∧ (¬ (Z 1 = 1 ∨ Z 1 = 2) → (g 69 62).toInt ≤ m)
section MDY
variable {P : Nat → Nat → Int} {Z Y : Nat → Int} {g g1 : Nat → Nat → Int32} {m : Int} {n k : Nat}
theorem t_YS.fr (h : t_YS n Z g) (e64 : g1 69 64 = g 69 64) (e90 : g1 90 = g 90) (e99 : g1 99 = g 99) : t_YS n Z g1 := by
  unfold t_YS t_si
  rw [e64, e90, e99]
  exact h
theorem t_YS.cg (h : t_YS n Z g) (e : ∀ k, k < n → Y (10 + k) = Z (10 + k)) : t_YS n Y g := ⟨h.1, fun k hk => by rw [e k hk]; exact h.2 k hk⟩
/-- one further is over -/
theorem t_YS.adv (h : t_YS n Z g) (hk : (g 69 64).toInt < (n : Int)) (hz : Z (10 + (g 69 64).toInt.toNat) ≠ 0) (e64 : (g1 69 64).toInt = (g 69 64).toInt + 1) (e90 : g1 90 = g 90) (e99 : g1 99 = g 99) : t_YS n Z g1 := by
  have h0 := h.1
  refine ⟨by omega, fun k hkn => ?_⟩
  obtain ⟨a, b, c, d⟩ := h.2 k hkn
  have es : t_si g1 k = t_si g k := by unfold t_si; rw [e90]
  refine ⟨by rw [es, e99]; exact a, fun hh => ?_, fun hh => c (by omega), d⟩
  by_cases hkk : k = (g 69 64).toInt.toNat
  · rw [hkk]; exact hz
  · exact b (by omega)
theorem t_YS.f1 (h : t_YS n Z g) (hz : (g 69 64).toInt < (n : Int) → (g 99 (t_si g (g 69 64).toInt.toNat)).toInt = 0) : (g 69 64).toInt = ((s_f1 Z n 0 : Nat) : Int) := by
  have h0 := h.1
  have e := s_f1_e (Z := Z) (n := n) (k := (g 69 64).toInt.toNat) (by omega) (fun j hj => (h.2 j (by omega)).2.1 (by omega)) (fun hlt => by
    obtain ⟨a, b, c, d⟩ := h.2 _ hlt
    have hz1 := hz (by omega)
    have hc := c (by omega)
    have h2 : ¬ Z (10 + (g 69 64).toInt.toNat) = 2 := fun hh => by rw [if_pos hh] at a; omega
    omega)
  omega
theorem s_skz_pre (h : ∀ j, j < k → Z (10 + j) ≠ 0) : ∀ i : Nat, i ≤ k → i ≤ n → s_skz P m n 0 Z = s_skz P m (n - i) i Z
  | 0, _, _ => rfl
  | i + 1, h1, h2 => by
    rw [s_skz_pre h i (by omega) (by omega), show n - i = (n - (i + 1)) + 1 by omega, s_skz_s]
    have e : s_k1 P m Z i = Z := by
      unfold s_k1
      split
      · rfl
      · exact if_neg (fun hh => h i (by omega) hh.2.2)
    rw [e]
theorem s_k1_no (h : ¬ (P 4 k ≠ 0 ∧ P 1 k = m ∧ Z (10 + k) = 0)) : s_k1 P m Z k = Z := by
  unfold s_k1
  split
  · rfl
  · exact if_neg h
theorem s_k1_at (h0 : Z 0 = 1) (h1 : Z 1 = 0) (h : s_f1 Z (P 0 0).toNat 0 = k) : s_k1 P m Z k = Z := if_pos ⟨h0, h1, h⟩
theorem s_k1_y (h : ¬ (Z 0 = 1 ∧ Z 1 = 0 ∧ s_f1 Z (P 0 0).toNat 0 = k)) (h2 : P 4 k ≠ 0 ∧ P 1 k = m ∧ Z (10 + k) = 0) : s_k1 P m Z k = s_z (s_z Z (10 + k) 2) 6 (Z 6 + 1) := (if_neg h).trans (if_pos h2)
/-- one is STRUCK -/
theorem t_YS.st (h : t_YS n Z g) (hI : t_IJ n g) (hk : k < n) (h0 : Z (10 + k) = 0) (e64 : g1 69 64 = g 69 64) (e90 : g1 90 = g 90) (e99 : ∀ j, g1 99 j = if j = t_si g k then 1 else g 99 j) : t_YS n (s_z (s_z Z (10 + k) 2) 6 (Z 6 + 1)) g1 := by
  refine ⟨by rw [e64]; exact h.1, fun j hj => ?_⟩
  obtain ⟨a, b, c, d⟩ := h.2 j hj
  have es : t_si g1 j = t_si g j := by unfold t_si; rw [e90]
  rw [es, e99, e64, s_z_ne (show 10 + j ≠ 6 by omega)]
  by_cases hjk : j = k
  · subst hjk
    rw [if_pos rfl, s_z_at]
    exact ⟨rfl, fun _ => by decide, fun _ => by decide, Or.inr (Or.inr rfl)⟩
  · rw [if_neg (fun hh => hjk (hI j k hj hk hh)), s_z_ne (show 10 + j ≠ 10 + k by omega)]
    exact ⟨a, b, c, d⟩
/-- a SHIP begins -/
theorem t_YS.bg (h : t_YS n Z g) (hk : (g 69 64).toInt = (k : Int)) (hkn : k < n) (h1 : Y (10 + k) = 1) (h2 : ∀ j, j ≠ k → Y (10 + j) = Z (10 + j)) (h0 : Z (10 + k) = 0) (e64 : (g1 69 64).toInt = (g 69 64).toInt + 1) (e90 : g1 90 = g 90) (e99 : g1 99 = g 99) : t_YS n Y g1 := by
  have hh0 := h.1
  refine ⟨by omega, fun j hj => ?_⟩
  obtain ⟨a, b, c, d⟩ := h.2 j hj
  have es : t_si g1 j = t_si g j := by unfold t_si; rw [e90]
  rw [es, e99]
  by_cases hjk : j = k
  · subst hjk
    rw [h0, if_neg (by decide)] at a
    rw [h1, if_neg (by decide)]
    exact ⟨a, fun _ => by decide, fun hh => by omega, Or.inr (Or.inl rfl)⟩
  · rw [h2 j hjk]
    exact ⟨a, fun hh => b (by omega), fun hh => c (by omega), d⟩
theorem t_MZ.mo (h : t_MZ m Z g) (h0 : Z 0 = 0 ∨ Z 0 = 1) (hm : 0 ≤ m) : t_MO m Z g := by
  obtain ⟨a, b, c, d1, d2, d3, d4⟩ := h
  refine ⟨⟨a.1, h0⟩, ?_⟩
  have hc : Z 1 = 0 ∨ Z 1 = 1 ∨ Z 1 = 2 ∨ Z 1 = 3 := by omega
  rcases hc with hc | hc | hc | hc
  · have e1 := d2 (by omega)
    have e2 := d4 (by omega)
    omega
  · have e1 := d2 (by omega)
    have e2 := d3 (by omega)
    omega
  · have e1 := d2 (by omega)
    have e2 := d3 (by omega)
    omega
  · have e1 := d1 hc
    have e2 := d4 (by omega)
    omega
end MDY
