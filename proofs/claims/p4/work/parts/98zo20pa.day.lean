/-! ===== a day of the RULES. P 0: how many SHIPS, CARTS; P 1 to P 4: a SHIP's minute, how long it takes, what it costs, its sail, by the order; P 5 to P 7: a CART's; P 8: how long a turn takes.
Z 0: open; Z 1: what is under way (0 nothing, 1 a SHIP, 2 a CART, 3 a turn), Z 2: until when; Z 3: when the last turn was over; Z 4: how many CARTS have begun; Z 5: WAITS, Z 6: STRUCK, Z 7: turns begun, Z 8: the minute in which all is over; Z (10 + k): the k-th SHIP has begun (1), is STRUCK (2) ===== -/
noncomputable def s_z (Z : Nat → Int) (i : Nat) (v : Int) : Nat → Int := fun j => if j = i then v else Z j
noncomputable def s_cu (f : Nat → Int) : Nat → Int
  | 0 => 0
  | n + 1 => s_cu f n + f n
noncomputable def s_wS (P : Nat → Nat → Int) (m : Int) (Z : Nat → Int) (k : Nat) : Int := if Z (10 + k) = 0 ∧ P 1 k ≤ m then 1 else 0
noncomputable def s_wC (P : Nat → Nat → Int) (m : Int) (k : Nat) : Int := if P 5 k ≤ m then 1 else 0
noncomputable def s_lS (Z : Nat → Int) (k : Nat) : Int := if Z (10 + k) = 0 then 1 else 0
/-- how long till the next SHIP comes, of n from k on -/
noncomputable def s_nx (f : Nat → Int) (m : Int) : Nat → Nat → Int
  | 0, _ => 300
  | n + 1, k => if m < f k then f k - m else s_nx f m n (k + 1)
noncomputable def s_FA (P : Nat → Nat → Int) (m : Int) (Z : Nat → Int) : Nat → Int
  | 0 => Z 0
  | 1 => s_cu (s_wS P m Z) (P 0 0).toNat
  | 2 => s_cu (s_wC P m) (P 0 1).toNat - s_cu (s_wC P m) (Z 4).toNat
  | 3 => s_nx (P 1) m (P 0 0).toNat 0
  | 4 => m
  | 5 => m - Z 3
  | _ => 0
/-- the first SHIP that is left, of n from k on; behind them all if none is -/
noncomputable def s_f1 (Z : Nat → Int) : Nat → Nat → Nat
  | 0, k => k
  | n + 1, k => if Z (10 + k) = 0 then k else s_f1 Z n (k + 1)
noncomputable def s_k2 (P : Nat → Nat → Int) (m : Int) (Z : Nat → Int) (k : Nat) : Nat → Int := if P 4 k ≠ 0 ∧ P 1 k = m ∧ Z (10 + k) = 0 then s_z (s_z Z (10 + k) 2) 6 (Z 6 + 1) else Z
noncomputable def s_k1 (P : Nat → Nat → Int) (m : Int) (Z : Nat → Int) (k : Nat) : Nat → Int := if Z 0 = 1 ∧ Z 1 = 0 ∧ s_f1 Z (P 0 0).toNat 0 = k then Z else s_k2 P m Z k
noncomputable def s_skz (P : Nat → Nat → Int) (m : Int) : Nat → Nat → (Nat → Int) → (Nat → Int)
  | 0, _, Z => Z
  | n + 1, k, Z => s_skz P m n (k + 1) (s_k1 P m Z k)
/-- what is over -/
noncomputable def s_en (m : Int) (Z : Nat → Int) : Nat → Int := if Z 1 ≠ 0 ∧ Z 2 ≤ m then (if Z 1 = 3 then s_z (s_z (s_z Z 0 (1 - Z 0)) 3 (Z 2)) 1 0 else s_z Z 1 0) else Z
/-- what the RULES want -/
noncomputable def s_ob (P : Nat → Nat → Int) (A : (Nat → Int) → Int) (m : Int) (Z : Nat → Int) : Nat → Int := if Z 1 = 0 ∧ ((Z 0 = 1 ∧ A (s_FA P m Z) = 1) ∨ (Z 0 ≠ 1 ∧ A (s_FA P m Z) = 0)) then s_skz P m (P 0 0).toNat 0 (s_z (s_z (s_z Z 1 3) 2 (m + P 8 m.toNat)) 7 (Z 7 + 1)) else Z
/-- who begins -/
noncomputable def s_bS1 (P : Nat → Nat → Int) (m : Int) (Z : Nat → Int) (s : Nat) : Nat → Int := s_z (s_z (s_z (s_z Z (10 + s) 1) 1 1) 2 (m + P 2 s)) 5 (Z 5 + (m - P 1 s) * P 3 s)
noncomputable def s_bC1 (P : Nat → Nat → Int) (m : Int) (Z : Nat → Int) (c : Nat) : Nat → Int := s_z (s_z (s_z (s_z Z 1 2) 2 (m + P 6 c)) 5 (Z 5 + (m - P 5 c) * P 7 c)) 4 (Z 4 + 1)
noncomputable def s_bg (P : Nat → Nat → Int) (m : Int) (Z : Nat → Int) : Nat → Int :=
  if Z 1 ≠ 0 then Z else if Z 0 = 1 ∧ ((s_f1 Z (P 0 0).toNat 0 : Nat) : Int) < P 0 0 ∧ P 1 (s_f1 Z (P 0 0).toNat 0) ≤ m then s_bS1 P m Z (s_f1 Z (P 0 0).toNat 0) else if Z 0 ≠ 1 ∧ Z 4 < P 0 1 ∧ P 5 (Z 4).toNat ≤ m then s_bC1 P m Z (Z 4).toNat else Z
noncomputable def s_mn (P : Nat → Nat → Int) (A : (Nat → Int) → Int) (m : Int) (Z : Nat → Int) : Nat → Int := s_bg P m (s_ob P A m (s_skz P m (P 0 0).toNat 0 (s_en m Z)))
noncomputable def s_done (P : Nat → Nat → Int) (Z : Nat → Int) : Prop := (P 0 0 ≤ ((s_f1 Z (P 0 0).toNat 0 : Nat) : Int) ∧ P 0 1 ≤ Z 4) ∧ Z 1 ≠ 1 ∧ Z 1 ≠ 2
noncomputable def s_dy (P : Nat → Nat → Int) (A : (Nat → Int) → Int) : Nat → Int → (Nat → Int) → (Nat → Int)
  | 0, m, Z => s_z Z 8 m
  | n + 1, m, Z => s_if (s_done P (s_en m Z)) (s_z (s_en m Z) 8 m) (s_dy P A n (m + 1) (s_mn P A m Z))
/-- how many are left -/
noncomputable def s_lf (P : Nat → Nat → Int) (Z : Nat → Int) : Int := P 0 1 - Z 4 + s_cu (s_lS Z) (P 0 0).toNat
/-! with delays: drawn one behind the other, SHIPS first -/
noncomputable def s_dr1 (x : Int) : Int := (x * 2749 + 12553) % 65536
noncomputable def s_drw (x : Int) : Nat → Int
  | 0 => x
  | n + 1 => s_dr1 (s_drw x n)
/-- the i-th delay -/
noncomputable def s_dl (seed : Int) (i : Nat) : Int := if seed = -1 then 0 else s_drw seed (i + 1) / 8 % 8
section DAY
variable {P : Nat → Nat → Int} {A : (Nat → Int) → Int} {m : Int} {Z Y : Nat → Int} {i j k n : Nat} {v : Int} {f g : Nat → Int}
theorem s_z_at : s_z Z i v i = v := if_pos rfl
theorem s_z_ne (h : j ≠ i) : s_z Z i v j = Z j := if_neg h
theorem s_cu_cg : ∀ n : Nat, (∀ k, k < n → f k = g k) → s_cu f n = s_cu g n
  | 0, _ => rfl
  | n + 1, h => by
    show s_cu f n + f n = s_cu g n + g n
    rw [s_cu_cg n (fun k hk => h k (by omega)), h n (by omega)]
theorem s_cu_0 : ∀ n : Nat, (∀ k, k < n → f k = 0) → s_cu f n = 0
  | 0, _ => rfl
  | n + 1, h => by
    show s_cu f n + f n = 0
    rw [s_cu_0 n (fun k hk => h k (by omega)), h n (by omega)]; rfl
theorem s_cu_b (h : ∀ k, 0 ≤ f k ∧ f k ≤ 1) : ∀ n : Nat, 0 ≤ s_cu f n ∧ s_cu f n ≤ (n : Int)
  | 0 => ⟨Int.le_refl _, Int.le_refl _⟩
  | n + 1 => by
    have h1 := s_cu_b h n
    have h2 := h n
    show 0 ≤ s_cu f n + f n ∧ s_cu f n + f n ≤ _
    omega
theorem s_wS_b : 0 ≤ s_wS P m Z k ∧ s_wS P m Z k ≤ 1 := by unfold s_wS; split <;> omega
theorem s_wC_b : 0 ≤ s_wC P m k ∧ s_wC P m k ≤ 1 := by unfold s_wC; split <;> omega
theorem s_lS_b : 0 ≤ s_lS Z k ∧ s_lS Z k ≤ 1 := by unfold s_lS; split <;> omega
theorem s_f1_b : ∀ (n k : Nat), k ≤ s_f1 Z n k ∧ s_f1 Z n k ≤ k + n ∧ (s_f1 Z n k < k + n → Z (10 + s_f1 Z n k) = 0) ∧ ∀ j, k ≤ j → j < s_f1 Z n k → Z (10 + j) ≠ 0
  | 0, k => ⟨Nat.le_refl _, Nat.le_refl _, fun h => absurd h (by show ¬ k < k + 0; omega), fun j h1 h2 => absurd h2 (by show ¬ j < k; omega)⟩
  | n + 1, k => by
    by_cases hz : Z (10 + k) = 0
    · have e : s_f1 Z (n + 1) k = k := if_pos hz
      rw [e]
      exact ⟨Nat.le_refl _, by omega, fun _ => hz, fun j h1 h2 => by omega⟩
    · have e : s_f1 Z (n + 1) k = s_f1 Z n (k + 1) := if_neg hz
      rw [e]
      obtain ⟨h1, h2, h3, h4⟩ := s_f1_b n (k + 1)
      refine ⟨by omega, by omega, fun h => h3 (by omega), fun j j1 j2 => ?_⟩
      by_cases hj : j = k
      · rw [hj]; exact hz
      · exact h4 j (by omega) j2
/-- what stands at k, with all ahead not left: the first -/
theorem s_f1_e (hk : k ≤ n) (h1 : ∀ j, j < k → Z (10 + j) ≠ 0) (h2 : k < n → Z (10 + k) = 0) : s_f1 Z n 0 = k := by
  obtain ⟨a, b, c, d⟩ := s_f1_b (Z := Z) n 0
  by_cases hlt : s_f1 Z n 0 < k
  · exact absurd (c (by omega)) (h1 _ hlt)
  · by_cases hgt : k < s_f1 Z n 0
    · exact absurd (h2 (by omega)) (d k (by omega) hgt)
    · omega
theorem s_f1_cg : ∀ (n k : Nat), (∀ j, k ≤ j → j < k + n → (Z (10 + j) = 0 ↔ Y (10 + j) = 0)) → s_f1 Z n k = s_f1 Y n k
  | 0, _, _ => rfl
  | n + 1, k, h => by
    have hk := h k (Nat.le_refl _) (by omega)
    have ih := s_f1_cg n (k + 1) (fun j j1 j2 => h j (by omega) (by omega))
    by_cases hz : Z (10 + k) = 0
    · have e1 : s_f1 Z (n + 1) k = k := if_pos hz
      have e2 : s_f1 Y (n + 1) k = k := if_pos (hk.mp hz)
      rw [e1, e2]
    · have e1 : s_f1 Z (n + 1) k = s_f1 Z n (k + 1) := if_neg hz
      have e2 : s_f1 Y (n + 1) k = s_f1 Y n (k + 1) := if_neg (fun x => hz (hk.mpr x))
      rw [e1, e2, ih]
theorem s_nx_s (h : m < f k) : s_nx f m (n + 1) k = f k - m := if_pos h
theorem s_nx_n (h : ¬ m < f k) : s_nx f m (n + 1) k = s_nx f m n (k + 1) := if_neg h
theorem s_nx_cg : ∀ (n k : Nat), (∀ j, k ≤ j → j < k + n → f j = g j) → s_nx f m n k = s_nx g m n k
  | 0, _, _ => rfl
  | n + 1, k, h => by
    have ih := s_nx_cg n (k + 1) (fun j j1 j2 => h j (by omega) (by omega))
    by_cases hm : m < f k
    · rw [s_nx_s hm, s_nx_s (show m < g k by rw [← h k (Nat.le_refl _) (by omega)]; exact hm), h k (Nat.le_refl _) (by omega)]
    · rw [s_nx_n hm, s_nx_n (show ¬ m < g k by rw [← h k (Nat.le_refl _) (by omega)]; exact hm), ih]
theorem s_dy_e (h : s_done P (s_en m Z)) : s_dy P A (n + 1) m Z = s_z (s_en m Z) 8 m := s_ifT h
theorem s_dy_s (h : ¬ s_done P (s_en m Z)) : s_dy P A (n + 1) m Z = s_dy P A n (m + 1) (s_mn P A m Z) := s_ifF h
theorem s_drw_b (h0 : 0 ≤ v) (h1 : v < 65536) : ∀ n : Nat, 0 ≤ s_drw v n ∧ s_drw v n < 65536
  | 0 => ⟨h0, h1⟩
  | n + 1 => by show 0 ≤ (s_drw v n * 2749 + 12553) % 65536 ∧ (s_drw v n * 2749 + 12553) % 65536 < 65536; omega
theorem s_dl_b {seed : Int} : 0 ≤ s_dl seed n ∧ s_dl seed n ≤ 7 := by unfold s_dl; split <;> omega
end DAY
/-! ===== the facts of a minute, as the other side counts them ===== -/
noncomputable def s_mwk (g : Nat → Nat → Int32) (k : Nat) : Int := if (g 99 (t_si g k)).toInt = 0 ∧ t_sa g k ≤ (g 69 59).toInt then 1 else 0
noncomputable def s_mck (g : Nat → Nat → Int32) (k : Nat) : Int := if t_ca g k ≤ (g 69 59).toInt then 1 else 0
noncomputable def s_mw (g : Nat → Nat → Int32) : Int := s_cu (s_mwk g) (t_S g) - s_cu (s_mwk g) (g 69 64).toInt.toNat
noncomputable def s_mc (g : Nat → Nat → Int32) : Int := s_cu (s_mck g) (t_C g) - s_cu (s_mck g) (g 69 65).toInt.toNat
noncomputable def s_mx (g : Nat → Nat → Int32) : Int := s_nx (t_sa g) (g 69 59).toInt (t_S g) 0
noncomputable def t_MA (F : Nat → Int) (g : Nat → Nat → Int32) : Prop := ((g 69 64).toInt ≤ (g 69 44).toInt ∧ (g 69 65).toInt ≤ (g 69 45).toInt ∧ 0 ≤ (g 69 63).toInt ∧ (g 69 63).toInt ≤ 301) ∧ F 0 = (g 69 60).toInt ∧ F 1 = s_mw g ∧ F 2 = s_mc g ∧ F 3 = s_mx g ∧ F 4 = (g 69 59).toInt ∧ F 5 = (g 69 59).toInt - (g 69 63).toInt
