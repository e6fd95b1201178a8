/-! ===== a fraction in its least terms ===== -/
noncomputable def s_eu : Nat → Nat → Nat → Nat
  | 0, d, _ => d
  | k + 1, d, r => if r = 0 then d else s_eu k r (d % r)
/-- what goes into both, the greatest -/
noncomputable def s_gc (n d : Int) : Int := ((Nat.gcd n.toNat d.toNat : Nat) : Int)
section FRC
variable {a b c d r x : Int} {k n m : Nat}
theorem s_eu_0 (k n : Nat) : s_eu k n 0 = n := by
  cases k with
  | zero => rfl
  | succ k => exact if_pos rfl
theorem s_eu_s (h : m ≠ 0) : s_eu (k + 1) n m = s_eu k m (n % m) := if_neg h
theorem s_gcd_s (n m : Nat) : Nat.gcd n m = Nat.gcd m (n % m) := by rw [Nat.gcd_comm n m, Nat.gcd_rec m n, Nat.gcd_comm]
theorem s_md2 {n m : Nat} (h : m ≤ n) (h0 : 0 < m) : n % m + m ≤ n := by
  have h1 := Nat.div_add_mod n m
  have h2 : 0 < n / m := Nat.div_pos h h0
  have h3 : m * 1 ≤ m * (n / m) := Nat.mul_le_mul_left m h2
  omega
theorem s_eu_ok : ∀ (k n m : Nat), m ≤ n → n < 2 ^ k → s_eu (2 * k) n m = Nat.gcd n m
  | 0, n, m, h, hn => by
    have h1 : n < 1 := hn
    have h2 : n = 0 := by omega
    have h3 : m = 0 := by omega
    subst h2
    subst h3
    rfl
  | k + 1, n, m, h, hn => by
    have ih := s_eu_ok k
    rw [Nat.pow_succ] at hn
    generalize 2 ^ k = p at hn ih
    rw [show 2 * (k + 1) = (2 * k + 1) + 1 by omega]
    by_cases h0 : m = 0
    · subst h0; rw [s_eu_0, Nat.gcd_zero_right]
    · rw [s_eu_s h0, s_gcd_s n m]
      by_cases h1 : n % m = 0
      · rw [h1, s_eu_0, Nat.gcd_zero_right]
      · rw [s_eu_s h1, s_gcd_s m (n % m)]
        have h2 := s_md2 h (by omega)
        have h3 := Nat.mod_lt n (show m > 0 by omega)
        have h4 := Nat.mod_lt m (show n % m > 0 by omega)
        exact ih (n % m) (m % (n % m)) (by omega) (by omega)
theorem s_tnm (ha : 0 ≤ a) (hb : 0 ≤ b) : (a % b).toNat = a.toNat % b.toNat := by
  have h : ((a.toNat % b.toNat : Nat) : Int) = (a.toNat : Int) % (b.toNat : Int) := rfl
  rw [Int.toNat_of_nonneg ha, Int.toNat_of_nonneg hb] at h
  rw [← h]; rfl
theorem s_gc_pos1 (h : 1 ≤ a) : 1 ≤ s_gc a b := by
  have h1 : 0 < Nat.gcd a.toNat b.toNat := Nat.gcd_pos_of_pos_left _ (by omega)
  unfold s_gc; omega
/-- one step of the class's -/
theorem s_eu_n {v w : Int} (h0 : 0 < r) (hd : r ≤ d) (hk : n < 64) (h : s_eu (64 - n) d.toNat r.toNat = m) : s_eu (64 - (n + 1)) r.toNat (d % r).toNat = m ∧ 0 ≤ d % r ∧ d % r ≤ r := by
  have h1 : 64 - n = (64 - (n + 1)) + 1 := by omega
  rw [h1, s_eu_s (by omega), ← s_tnm (by omega) (by omega)] at h
  exact ⟨h, Int.emod_nonneg _ (by omega), Int.le_of_lt (Int.emod_lt_of_pos _ h0)⟩
theorem s_eu_e (h0 : 0 ≤ a) (h1 : a ≤ b) (hb : b ≤ 500) (h : s_eu (64 - n) d.toNat r.toNat = s_eu 64 b.toNat a.toNat) (hd : 0 ≤ d) (hr : n = 64 ∨ r = 0) : d = s_gc b a := by
  have e : s_eu 64 b.toNat a.toNat = Nat.gcd b.toNat a.toNat := s_eu_ok 32 b.toNat a.toNat (by omega) (by have h9 : (2 : Nat) ^ 32 = 4294967296 := rfl; omega)
  have e2 : s_eu (64 - n) d.toNat r.toNat = d.toNat := by
    rcases hr with hr | hr
    · rw [hr]; rfl
    · rw [hr]; exact s_eu_0 _ _
  have e3 : d.toNat = Nat.gcd b.toNat a.toNat := e2.symm.trans (h.trans e)
  unfold s_gc; omega
theorem s_gcd_n (h0 : 0 < b) (ha : 0 ≤ a) (h : Nat.gcd a.toNat b.toNat = m) : Nat.gcd b.toNat (a % b).toNat = m := by
  rw [s_tnm ha (by omega), ← s_gcd_s]; exact h
theorem s_gcd_e (h : Nat.gcd a.toNat b.toNat = Nat.gcd c.toNat d.toNat) (hb : b = 0) (ha : 0 ≤ a) : a = s_gc d c := by
  have h1 : b.toNat = 0 := by omega
  rw [h1, Nat.gcd_zero_right] at h
  unfold s_gc
  rw [Nat.gcd_comm d.toNat c.toNat]; omega
theorem t_dvL {x y w : Int64} (e : w = x / y) (hx : x.toInt = a) (h0 : 0 ≤ a) (hy : y.toInt = b) (h1 : 1 ≤ b) : w.toInt = a / b := by
  have hlt := Int64.toInt_lt x
  have h2 : a / b ≤ a := Int.ediv_le_self b h0
  have h3 : 0 ≤ a / b := Int.ediv_nonneg h0 (by omega)
  rw [e, Int64.toInt_div, hx, hy, Int.tdiv_eq_ediv_of_nonneg h0, Int.bmod_eq_of_le] <;> omega
theorem t_rmL {x y w : Int64} (e : w = x - x / y * y) (hx : x.toInt = a) (h0 : 0 ≤ a) (hy : y.toInt = b) (h1 : 1 ≤ b) : w.toInt = a % b := by
  have hlt := Int64.toInt_lt x
  have hq : (x / y).toInt = a / b := t_dvL rfl hx h0 hy h1
  have h3 : 0 ≤ a / b := Int.ediv_nonneg h0 (by omega)
  have h4 : a / b * b ≤ a := Int.ediv_mul_le a (by omega)
  have h5 : 0 ≤ a / b * b := Int.mul_nonneg h3 (by omega)
  have hm : (x / y * y).toInt = a / b * b := by rw [Int64.toInt_mul, hq, hy, Int.bmod_eq_of_le] <;> omega
  rw [e, Int64.toInt_sub, hx, hm, Int.bmod_eq_of_le, Int.emod_def, Int.mul_comm b]
  · omega
  · omega
end FRC
