/-! ===== the class's day: a turn is begun; who begins ===== -/
section CDZ
variable {P : Nat → Nat → Int} {A : (Nat → Int) → Int} {Z Y : Nat → Int} {g g1 : Nat → Nat → Int32} {n m a w : Int} {k c : Nat} {x y z : Int32}
theorem s_ob_n (h : ¬ ((Z 0 = 1 ∧ A (s_FA P m Z) = 1) ∨ (Z 0 ≠ 1 ∧ A (s_FA P m Z) = 0))) : s_ob P A m Z = Z := if_neg (fun hh => h hh.2)
theorem s_ob_y (h1 : Z 1 = 0) (h : (Z 0 = 1 ∧ A (s_FA P m Z) = 1) ∨ (Z 0 ≠ 1 ∧ A (s_FA P m Z) = 0)) : s_ob P A m Z = s_skz P m (P 0 0).toNat 0 (s_z (s_z (s_z Z 1 3) 2 (m + P 8 m.toNat)) 7 (Z 7 + 1)) := if_pos ⟨h1, h⟩
theorem s_k2_o {j : Nat} (h6 : j ≠ 6) (hk : j ≠ 10 + k) : s_k2 P m Z k j = Z j := by
  unfold s_k2
  split
  · rw [s_z_ne h6, s_z_ne hk]
  · rfl
theorem s_k1_2 (h : Z 1 ≠ 0) : s_k1 P m Z k = s_k2 P m Z k := if_neg (fun hh => h hh.2.1)
theorem s_skz_s : s_skz P m (c + 1) k Z = s_skz P m c (k + 1) (s_k1 P m Z k) := rfl
/-- a turn is begun -/
theorem t_CZ.tn (h : t_CZ n Z g) (e7 : (g1 45 7).toInt = 3) (e8 : (g1 45 8).toInt = a) (e45 : ∀ j, 6 ≤ j → j ≤ 12 → j ≠ 7 → j ≠ 8 → g1 45 j = g 45 j) (e58 : g1 58 = g 58) : t_CZ n (s_z (s_z (s_z Z 1 3) 2 a) 7 w) g1 := by
  obtain ⟨⟨h0, h1, h2, h3, h4⟩, ⟨h5, h6⟩, h7⟩ := h
  have z (j : Nat) (h1 : j ≠ 1) (h2 : j ≠ 2) (h7 : j ≠ 7) : s_z (s_z (s_z Z 1 3) 2 a) 7 w j = Z j := by rw [s_z_ne h7, s_z_ne h2, s_z_ne h1]
  refine ⟨⟨?_, ?_, ?_, ?_, ?_⟩, ⟨?_, ?_⟩, h7.cg e58 (fun k _ => z _ (by omega) (by omega) (by omega))⟩
  · rw [e45 6 (by decide) (by decide) (by decide) (by decide), z 0 (by decide) (by decide) (by decide)]; exact h0
  · rw [s_z_ne (by decide), s_z_ne (by decide), s_z_at]; exact e7
  · rw [s_z_ne (by decide), s_z_at]; exact e8
  · rw [e45 9 (by decide) (by decide) (by decide) (by decide), z 3 (by decide) (by decide) (by decide)]; exact h3
  · rw [e45 10 (by decide) (by decide) (by decide) (by decide), z 4 (by decide) (by decide) (by decide)]; exact h4
  · rw [e45 11 (by decide) (by decide) (by decide) (by decide), z 5 (by decide) (by decide) (by decide)]; exact h5
  · rw [e45 12 (by decide) (by decide) (by decide) (by decide), z 6 (by decide) (by decide) (by decide)]; exact h6
/-- a SHIP begins -/
theorem t_CZ.bs (h : t_CZ n Z g) (e58 : ∀ j, g1 58 j = if j = k then 1 else g 58 j) (e7 : (g1 45 7).toInt = 1) (e8 : (g1 45 8).toInt = a) (e11 : g1 45 11 = Int32.ofInt (Z 5 + w)) (e45 : ∀ j, 6 ≤ j → j ≤ 12 → j ≠ 7 → j ≠ 8 → j ≠ 11 → g1 45 j = g 45 j) : t_CZ n (s_z (s_z (s_z (s_z Z (10 + k) 1) 1 1) 2 a) 5 (Z 5 + w)) g1 := by
  obtain ⟨⟨h0, h1, h2, h3, h4⟩, ⟨h5, h6⟩, h7⟩ := h
  have z (j : Nat) (h1 : j ≠ 1) (h2 : j ≠ 2) (h5 : j ≠ 5) (hk : j ≠ 10 + k) : s_z (s_z (s_z (s_z Z (10 + k) 1) 1 1) 2 a) 5 (Z 5 + w) j = Z j := by rw [s_z_ne h5, s_z_ne h2, s_z_ne h1, s_z_ne hk]
  refine ⟨⟨?_, ?_, ?_, ?_, ?_⟩, ⟨?_, ?_⟩, fun j hj => ?_⟩
  · rw [e45 6 (by decide) (by decide) (by decide) (by decide) (by decide), z 0 (by decide) (by decide) (by decide) (by omega)]; exact h0
  · rw [s_z_ne (by decide), s_z_ne (by decide), s_z_at]; exact e7
  · rw [s_z_ne (by decide), s_z_at]; exact e8
  · rw [e45 9 (by decide) (by decide) (by decide) (by decide) (by decide), z 3 (by decide) (by decide) (by decide) (by omega)]; exact h3
  · rw [e45 10 (by decide) (by decide) (by decide) (by decide) (by decide), z 4 (by decide) (by decide) (by decide) (by omega)]; exact h4
  · rw [s_z_at]; exact e11
  · rw [e45 12 (by decide) (by decide) (by decide) (by decide) (by decide), z 6 (by decide) (by decide) (by decide) (by omega)]; exact h6
  · rw [e58]
    by_cases hjk : j = k
    · rw [if_pos hjk, hjk, s_z_ne (by omega), s_z_ne (by omega), s_z_ne (by omega), s_z_at]; rfl
    · rw [if_neg hjk, z _ (by omega) (by omega) (by omega) (by omega)]; exact h7 j hj
/-- a CART begins -/
theorem t_CZ.bc (h : t_CZ n Z g) (e58 : g1 58 = g 58) (e7 : (g1 45 7).toInt = 2) (e8 : (g1 45 8).toInt = a) (e11 : g1 45 11 = Int32.ofInt (Z 5 + w)) (e10 : (g1 45 10).toInt = Z 4 + 1) (e45 : ∀ j, 6 ≤ j → j ≤ 12 → j ≠ 7 → j ≠ 8 → j ≠ 11 → j ≠ 10 → g1 45 j = g 45 j) : t_CZ n (s_z (s_z (s_z (s_z Z 1 2) 2 a) 5 (Z 5 + w)) 4 (Z 4 + 1)) g1 := by
  obtain ⟨⟨h0, h1, h2, h3, h4⟩, ⟨h5, h6⟩, h7⟩ := h
  have z (j : Nat) (h1 : j ≠ 1) (h2 : j ≠ 2) (h5 : j ≠ 5) (hk : j ≠ 4) : s_z (s_z (s_z (s_z Z 1 2) 2 a) 5 (Z 5 + w)) 4 (Z 4 + 1) j = Z j := by rw [s_z_ne hk, s_z_ne h5, s_z_ne h2, s_z_ne h1]
  refine ⟨⟨?_, ?_, ?_, ?_, ?_⟩, ⟨?_, ?_⟩, h7.cg e58 (fun k _ => z _ (by omega) (by omega) (by omega) (by omega))⟩
  · rw [e45 6 (by decide) (by decide) (by decide) (by decide) (by decide) (by decide), z 0 (by decide) (by decide) (by decide) (by decide)]; exact h0
  · rw [s_z_ne (by decide), s_z_ne (by decide), s_z_ne (by decide), s_z_at]; exact e7
  · rw [s_z_ne (by decide), s_z_ne (by decide), s_z_at]; exact e8
  · rw [e45 9 (by decide) (by decide) (by decide) (by decide) (by decide) (by decide), z 3 (by decide) (by decide) (by decide) (by decide)]; exact h3
  · rw [s_z_at]; exact e10
  · rw [s_z_ne (by decide), s_z_at]; exact e11
  · rw [e45 12 (by decide) (by decide) (by decide) (by decide) (by decide) (by decide), z 6 (by decide) (by decide) (by decide) (by decide)]; exact h6
/-- WAITS grow -/
theorem t_oi_w {t u v q : Int32} {p m1 c1 : Int} (e : z = x + t) (e1 : t = u * q) (e2 : u = v - y) (hx : x = Int32.ofInt a) (hv : v.toInt = m1) (hy : y.toInt = p) (hq : q.toInt = c1) : z = Int32.ofInt (a + (m1 - p) * c1) := t_oi_add e hx (t_oi_mul e1 (t_oi_sub e2 (t_oi_of hv) (t_oi_of hy)) (t_oi_of hq))
end CDZ
