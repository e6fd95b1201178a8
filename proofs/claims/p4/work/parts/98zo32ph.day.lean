/-! ===== the class's day, in its cells ===== -/
noncomputable def t_KL (P : Nat → Nat → Int) (g : Nat → Nat → Int32) : Prop := (((g 46 0).toInt = P 0 0 ∧ (g 52 0).toInt = P 0 1) ∧ (0 ≤ P 0 0 ∧ P 0 0 ≤ 6) ∧ 0 ≤ P 0 1 ∧ P 0 1 ≤ 6) ∧ (∀ k : Nat, (k : Int) < P 0 0 → (g 48 k).toInt = P 1 k ∧ (g 49 k).toInt = P 2 k ∧ (g 50 k).toInt = P 3 k ∧ (g 51 k).toInt = P 4 k) ∧ ∀ c : Nat, (c : Int) < P 0 1 → (g 54 c).toInt = P 5 c ∧ (g 55 c).toInt = P 6 c ∧ (g 56 c).toInt = P 7 c
noncomputable def t_Cst (n : Int) (Z : Nat → Int) (g : Nat → Nat → Int32) : Prop := ∀ k : Nat, (k : Int) < n → (g 58 k).toInt = Z (10 + k)
/-- what is told of a day: WAITS and the STRUCK as numbers that go round -/
noncomputable def t_CZ (n : Int) (Z : Nat → Int) (g : Nat → Nat → Int32) : Prop := ((g 45 6).toInt = Z 0 ∧ (g 45 7).toInt = Z 1 ∧ (g 45 8).toInt = Z 2 ∧ (g 45 9).toInt = Z 3 ∧ (g 45 10).toInt = Z 4) ∧ (g 45 11 = Int32.ofInt (Z 5) ∧ g 45 12 = Int32.ofInt (Z 6)) ∧ t_Cst n Z g
/-- a state that may be -/
noncomputable def s_okz (P : Nat → Nat → Int) (Z : Nat → Int) : Prop := (Z 0 = 0 ∨ Z 0 = 1) ∧ 0 ≤ Z 4 ∧ Z 4 ≤ P 0 1 ∧ 0 ≤ Z 2 ∧ 0 ≤ Z 3 ∧ Z 3 ≤ 301
section CDY
variable {P : Nat → Nat → Int} {Z Y : Nat → Int} {g g1 : Nat → Nat → Int32} {n m : Int} {k : Nat} {x y z : Int32} {a b : Int}
theorem t_KL.fr (h : t_KL P g) (e46 : g1 46 0 = g 46 0) (e52 : g1 52 0 = g 52 0) (e48 : g1 48 = g 48) (e49 : g1 49 = g 49) (e50 : g1 50 = g 50) (e51 : g1 51 = g 51) (e54 : g1 54 = g 54) (e55 : g1 55 = g 55) (e56 : g1 56 = g 56) : t_KL P g1 := by
  unfold t_KL
  rw [e46, e52, e48, e49, e50, e51, e54, e55, e56]
  exact h
theorem t_Cst.cg (h : t_Cst n Z g) (e58 : g1 58 = g 58) (e : ∀ k : Nat, (k : Int) < n → Y (10 + k) = Z (10 + k)) : t_Cst n Y g1 := fun k hk => by rw [e58, e k hk]; exact h k hk
theorem t_oi_add (e : z = x + y) (hx : x = Int32.ofInt a) (hy : y = Int32.ofInt b) : z = Int32.ofInt (a + b) := by rw [e, hx, hy, Int32.ofInt_add]
theorem t_oi_mul (e : z = x * y) (hx : x = Int32.ofInt a) (hy : y = Int32.ofInt b) : z = Int32.ofInt (a * b) := by rw [e, hx, hy, Int32.ofInt_mul]
theorem t_oi_sub (e : z = x - y) (hx : x = Int32.ofInt a) (hy : y = Int32.ofInt b) : z = Int32.ofInt (a - b) := by rw [e, hx, hy, Int32.ofInt_sub]
theorem t_oi_of (h : x.toInt = a) : x = Int32.ofInt a := by rw [← h, Int32.ofInt_toInt]
theorem t_CZ.eq (h : t_CZ n Z g) (e45 : ∀ j, 6 ≤ j → j ≤ 12 → g1 45 j = g 45 j) (e58 : g1 58 = g 58) : t_CZ n Z g1 := by
  obtain ⟨⟨h0, h1, h2, h3, h4⟩, ⟨h5, h6⟩, h7⟩ := h
  refine ⟨⟨?_, ?_, ?_, ?_, ?_⟩, ⟨?_, ?_⟩, h7.cg e58 (fun k _ => rfl)⟩ <;> rw [e45 _ (by decide) (by decide)] <;> assumption
theorem s_okz_k2 (h : s_okz P Z) : s_okz P (s_k2 P m Z k) := by
  unfold s_k2
  split
  · unfold s_okz
    rw [s_z_ne (show 0 ≠ 6 by decide), s_z_ne (show 0 ≠ 10 + k by omega), s_z_ne (show 4 ≠ 6 by decide), s_z_ne (show 4 ≠ 10 + k by omega), s_z_ne (show 2 ≠ 6 by decide), s_z_ne (show 2 ≠ 10 + k by omega), s_z_ne (show 3 ≠ 6 by decide), s_z_ne (show 3 ≠ 10 + k by omega)]
    exact h
  · exact h
theorem s_okz_k1 (h : s_okz P Z) : s_okz P (s_k1 P m Z k) := by
  unfold s_k1
  split
  · exact h
  · exact s_okz_k2 h
/-- one is STRUCK -/
theorem t_CZ.k2 (h : t_CZ n Z g) (hk : (k : Int) < n) (e58 : ∀ j, g1 58 j = if j = k then 2 else g 58 j) (e45 : ∀ j, j ≠ 12 → g1 45 j = g 45 j) (e12 : g1 45 12 = g 45 12 + 1) : t_CZ n (s_z (s_z Z (10 + k) 2) 6 (Z 6 + 1)) g1 := by
  obtain ⟨⟨h0, h1, h2, h3, h4⟩, ⟨h5, h6⟩, h7⟩ := h
  have z (j : Nat) (h1 : j ≠ 6) (h2 : j ≠ 10 + k) : s_z (s_z Z (10 + k) 2) 6 (Z 6 + 1) j = Z j := by rw [s_z_ne h1, s_z_ne h2]
  refine ⟨⟨?_, ?_, ?_, ?_, ?_⟩, ⟨?_, ?_⟩, fun j hj => ?_⟩
  · rw [e45 _ (by decide), z 0 (by decide) (by omega)]; exact h0
  · rw [e45 _ (by decide), z 1 (by decide) (by omega)]; exact h1
  · rw [e45 _ (by decide), z 2 (by decide) (by omega)]; exact h2
  · rw [e45 _ (by decide), z 3 (by decide) (by omega)]; exact h3
  · rw [e45 _ (by decide), z 4 (by decide) (by omega)]; exact h4
  · rw [e45 _ (by decide), z 5 (by decide) (by omega)]; exact h5
  · rw [e12, s_z_at]; exact t_oi_add rfl h6 (t_oi_of rfl)
  · rw [e58]
    by_cases hjk : j = k
    · rw [if_pos hjk, hjk, s_z_ne (by omega), s_z_at]; rfl
    · rw [if_neg hjk, z _ (by omega) (by omega)]; exact h7 j hj
/-- what is over -/
theorem t_CZ.en0 (h : t_CZ n Z g) (hz : ¬ (Z 1 ≠ 0 ∧ Z 2 ≤ m)) (e45 : ∀ j, 6 ≤ j → j ≤ 12 → g1 45 j = g 45 j) (e58 : g1 58 = g 58) : t_CZ n (s_en m Z) g1 := by
  rw [show s_en m Z = Z from if_neg hz]; exact h.eq e45 e58
theorem t_CZ.en1 (h : t_CZ n Z g) (hz : Z 1 ≠ 0 ∧ Z 2 ≤ m) (h3 : Z 1 ≠ 3) (e45 : ∀ j, 6 ≤ j → j ≤ 12 → j ≠ 7 → g1 45 j = g 45 j) (e7 : (g1 45 7).toInt = 0) (e58 : g1 58 = g 58) : t_CZ n (s_en m Z) g1 := by
  rw [show s_en m Z = s_z Z 1 0 from (if_pos hz).trans (if_neg h3)]
  obtain ⟨⟨h0, h1, h2, h3, h4⟩, ⟨h5, h6⟩, h7⟩ := h
  refine ⟨⟨?_, ?_, ?_, ?_, ?_⟩, ⟨?_, ?_⟩, h7.cg e58 (fun k _ => s_z_ne (by omega))⟩
  · rw [e45 _ (by decide) (by decide) (by decide), s_z_ne (by decide)]; exact h0
  · rw [s_z_at]; exact e7
  · rw [e45 _ (by decide) (by decide) (by decide), s_z_ne (by decide)]; exact h2
  · rw [e45 _ (by decide) (by decide) (by decide), s_z_ne (by decide)]; exact h3
  · rw [e45 _ (by decide) (by decide) (by decide), s_z_ne (by decide)]; exact h4
  · rw [e45 _ (by decide) (by decide) (by decide), s_z_ne (by decide)]; exact h5
  · rw [e45 _ (by decide) (by decide) (by decide), s_z_ne (by decide)]; exact h6
theorem t_CZ.en3 (h : t_CZ n Z g) (hz : Z 1 ≠ 0 ∧ Z 2 ≤ m) (h3 : Z 1 = 3) (e6 : (g1 45 6).toInt = 1 - Z 0) (e7 : (g1 45 7).toInt = 0) (e8 : g1 45 8 = g 45 8) (e9 : g1 45 9 = g 45 8) (e45 : ∀ j, 10 ≤ j → j ≤ 12 → g1 45 j = g 45 j) (e58 : g1 58 = g 58) : t_CZ n (s_en m Z) g1 := by
  rw [show s_en m Z = s_z (s_z (s_z Z 0 (1 - Z 0)) 3 (Z 2)) 1 0 from (if_pos hz).trans (if_pos h3)]
  obtain ⟨⟨h0, h1, h2, h3, h4⟩, ⟨h5, h6⟩, h7⟩ := h
  have z (j : Nat) (h0 : j ≠ 0) (h1 : j ≠ 1) (h3 : j ≠ 3) : s_z (s_z (s_z Z 0 (1 - Z 0)) 3 (Z 2)) 1 0 j = Z j := by rw [s_z_ne h1, s_z_ne h3, s_z_ne h0]
  refine ⟨⟨?_, ?_, ?_, ?_, ?_⟩, ⟨?_, ?_⟩, h7.cg e58 (fun k _ => z _ (by omega) (by omega) (by omega))⟩
  · rw [s_z_ne (by decide), s_z_ne (by decide), s_z_at]; exact e6
  · rw [s_z_at]; exact e7
  · rw [e8, z 2 (by decide) (by decide) (by decide)]; exact h2
  · rw [e9, s_z_ne (by decide), s_z_at]; exact h2
  · rw [e45 _ (by decide) (by decide), z 4 (by decide) (by decide) (by decide)]; exact h4
  · rw [e45 _ (by decide) (by decide), z 5 (by decide) (by decide) (by decide)]; exact h5
  · rw [e45 _ (by decide) (by decide), z 6 (by decide) (by decide) (by decide)]; exact h6
end CDY
