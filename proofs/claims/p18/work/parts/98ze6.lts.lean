/-! ===== LASTS: how many BEATS a number has ===== -/
/-- v is how many digits h has, to the base of two -/
noncomputable def s_lg2 (h v : Int) : Prop := 0 ≤ v ∧ h < 2 ^ v.toNat ∧ (0 < v → 2 ^ (v.toNat - 1) ≤ h)
theorem s_lg2_u {h v w : Int} (a : s_lg2 h v) (b : s_lg2 h w) : v = w := by
  have key : ∀ {v w : Int}, s_lg2 h v → s_lg2 h w → ¬ v < w := by
    intro v w a b hlt
    have h1 := a.2.1
    have h2 := b.2.2 (by have := a.1; omega)
    have h3 : v.toNat ≤ w.toNat - 1 := by have := a.1; omega
    have h4 : (2 : Int) ^ v.toNat ≤ 2 ^ (w.toNat - 1) := by
      have := Nat.pow_le_pow_right (n := 2) (by decide) h3
      exact_mod_cast this
    omega
  have h1 := key a b
  have h2 := key b a
  omega
/-- halved so often -/
noncomputable def s_lw (h n v : Int) : Prop := 0 ≤ n ∧ v = h / 2 ^ n.toNat ∧ (0 < n → 2 ^ (n.toNat - 1) ≤ h)
theorem s_lw_0 (h : Int) : s_lw h 0 h := ⟨Int.le_refl 0, by simp, fun hh => absurd hh (by decide)⟩
theorem s_lw_s {h n n' v v' : Int} (a : s_lw h n v) (h0 : 0 ≤ h) (hv : 0 < v) (e : v' = v / 2) (en : n' = n + 1) : s_lw h n' v' := by
  obtain ⟨a0, a1, a2⟩ := a
  have hp : (0 : Int) < 2 ^ n.toNat := Int.pow_pos (by decide)
  have hn : n'.toNat = n.toNat + 1 := by omega
  refine ⟨by omega, ?_, fun _ => ?_⟩
  · rw [e, a1, hn, Int.pow_succ, Int.ediv_ediv_of_nonneg (Int.le_of_lt hp)]
  · rw [hn, Nat.add_sub_cancel]
    have h1 : 1 ≤ h / 2 ^ n.toNat := by omega
    have h2 := (Int.le_ediv_iff_mul_le hp).mp h1
    omega
theorem s_lw_b {h n v : Int} (a : s_lw h n v) (h1 : h < 8589934592) : n ≤ 33 := by
  obtain ⟨a0, a1, a2⟩ := a
  by_cases hc : n ≤ 33
  · exact hc
  · have h3 := a2 (by omega)
    have h4 : 33 ≤ n.toNat - 1 := by omega
    have h5 : (2 : Nat) ^ 33 ≤ 2 ^ (n.toNat - 1) := Nat.pow_le_pow_right (by decide) h4
    have h6 : ((2 : Nat) ^ 33 : Int) ≤ 2 ^ (n.toNat - 1) := by exact_mod_cast h5
    have h7 : ((2 : Nat) ^ 33 : Int) = 8589934592 := by decide
    omega
theorem s_lw_b2 {h n v : Int} (a : s_lw h n v) (h0 : 0 ≤ h) (h1 : h < 8589934592) (hv : 0 < v) : n ≤ 32 := by
  have h2 := s_lw_b (s_lw_s a h0 hv rfl rfl) h1
  omega
theorem s_lw_e {h n v : Int} (a : s_lw h n v) (h0 : 0 ≤ h) (hv : v ≤ 0) : s_lg2 h n := by
  obtain ⟨a0, a1, a2⟩ := a
  have hp : (0 : Int) < 2 ^ n.toNat := Int.pow_pos (by decide)
  refine ⟨a0, ?_, a2⟩
  have h1 : h / 2 ^ n.toNat ≤ 0 := by omega
  by_cases hc : h < 2 ^ n.toNat
  · exact hc
  · have h2 := (Int.le_ediv_iff_mul_le hp).mpr (by omega : 1 * 2 ^ n.toNat ≤ h)
    omega
theorem s_lg2_k {h w : Int} (k : Nat) (e : w = (k : Int) + 1) (h1 : (2 : Int) ^ k ≤ h) (h2 : h < 2 ^ (k + 1)) : s_lg2 h w := by
  have e2 : w.toNat = k + 1 := by omega
  refine ⟨by omega, by rw [e2]; exact h2, fun _ => ?_⟩
  rw [e2, Nat.add_sub_cancel]; exact h1
theorem s_lg2_0 : s_lg2 0 0 := ⟨Int.le_refl 0, by decide, fun h => absurd h (by decide)⟩
theorem s_lg2_hi {h w : Int} (a : s_lg2 (h / 4294967296) w) (hp : 0 < h / 4294967296) : s_lg2 h (w + 32) := by
  obtain ⟨a0, a1, a2⟩ := a
  have hw : 0 < w := by
    by_cases hc : 0 < w
    · exact hc
    · have e : w.toNat = 0 := by omega
      rw [e] at a1
      have a1 : h / 4294967296 < 1 := a1
      omega
  have a3 := a2 hw
  have hn : (w + 32).toNat = w.toNat + 32 := by omega
  have hk : (w + 32).toNat - 1 = (w.toNat - 1) + 32 := by omega
  refine ⟨by omega, ?_, fun _ => ?_⟩
  · rw [hn, Int.pow_add]
    have e : (2 : Int) ^ 32 = 4294967296 := by decide
    rw [e]; omega
  · rw [hk, Int.pow_add]
    have e : (2 : Int) ^ 32 = 4294967296 := by decide
    rw [e]; omega
theorem s_lg2_w {h v w : Int} (a : s_lg2 h v) (e : v = w) : s_lg2 h w := e ▸ a
theorem s_isub {a z v : Int32} (e : v = a - z) (h0 : 0 ≤ a.toInt) (h1 : a.toInt ≤ 64) (z0 : 0 ≤ z.toInt) (z1 : z.toInt ≤ 64) : v.toInt = a.toInt - z.toInt := by
  rw [e, Int32.toInt_sub, Int.bmod_eq_of_le] <;> omega
theorem s_iadd {a z v : Int32} (e : v = a + z) (h0 : 0 ≤ a.toInt) (h1 : a.toInt ≤ 64) (z0 : 0 ≤ z.toInt) (z1 : z.toInt ≤ 64) : v.toInt = a.toInt + z.toInt := by
  rw [e, Int32.toInt_add, Int.bmod_eq_of_le] <;> omega
theorem t_us {x z c : Int32} {k : Nat} (e : z = (x.toUInt32 >>> (c.toUInt32 &&& Int32.toUInt32 31)).toInt32) (hc : ((c.toUInt32 &&& Int32.toUInt32 31).toBitVec % 32).toNat = k) (h0 : 0 ≤ x.toInt) : z.toInt = x.toInt / 2 ^ k := by
  subst e
  have hx : x.toInt = (x.toBitVec.toNat : Int) := by
    have h1 : x.toInt = x.toBitVec.toInt := rfl
    rw [h1] at h0 ⊢
    rw [BitVec.toInt_eq_toNat_cond] at h0 ⊢
    split <;> rename_i hh
    · rfl
    · rw [if_neg hh] at h0
      have := x.toBitVec.isLt
      omega
  have hlt : 2 * x.toBitVec.toNat < 2 ^ 32 := by
    have h1 : x.toInt < 2 ^ 31 := x.toInt_lt
    omega
  show (x.toBitVec >>> ((c.toUInt32 &&& Int32.toUInt32 31).toBitVec % 32)).toInt = _
  have hn : (x.toBitVec >>> ((c.toUInt32 &&& Int32.toUInt32 31).toBitVec % 32)).toNat = x.toBitVec.toNat / 2 ^ k := by
    rw [← hc]
    show (x.toBitVec >>> ((c.toUInt32 &&& Int32.toUInt32 31).toBitVec % 32).toNat).toNat = _
    rw [BitVec.toNat_ushiftRight, Nat.shiftRight_eq_div_pow]
  have hle : x.toBitVec.toNat / 2 ^ k ≤ x.toBitVec.toNat := Nat.div_le_self _ _
  rw [BitVec.toInt_eq_toNat_of_lt (by rw [hn]; omega), hn, hx]
  simp
theorem t_us64 {x z : Int64} {k : Nat} {c : UInt64} (e : z = (x.toUInt64 >>> c).toInt64) (hc : (c.toBitVec % 64).toNat = k) (h0 : 0 ≤ x.toInt) : z.toInt = x.toInt / 2 ^ k := by
  subst e
  have hx : x.toInt = (x.toBitVec.toNat : Int) := by
    have h1 : x.toInt = x.toBitVec.toInt := rfl
    rw [h1] at h0 ⊢
    rw [BitVec.toInt_eq_toNat_cond] at h0 ⊢
    split <;> rename_i hh
    · rfl
    · rw [if_neg hh] at h0
      have := x.toBitVec.isLt
      omega
  have hlt : 2 * x.toBitVec.toNat < 2 ^ 64 := by
    have h1 : x.toInt < 2 ^ 63 := x.toInt_lt
    omega
  show (x.toBitVec >>> (c.toBitVec % 64)).toInt = _
  have hn : (x.toBitVec >>> (c.toBitVec % 64)).toNat = x.toBitVec.toNat / 2 ^ k := by
    rw [← hc]
    show (x.toBitVec >>> (c.toBitVec % 64).toNat).toNat = _
    rw [BitVec.toNat_ushiftRight, Nat.shiftRight_eq_div_pow]
  have hle : x.toBitVec.toNat / 2 ^ k ≤ x.toBitVec.toNat := Nat.div_le_self _ _
  rw [BitVec.toInt_eq_toNat_of_lt (by rw [hn]; omega), hn, hx]
  simp
theorem t_l2iB {x : Int64} {y : Int32} (e : y = x.toInt32) : y.toInt = Int.bmod x.toInt 4294967296 := by
  rw [e, Int64.toInt_toInt32]
theorem t_sh1B {x z : Int64} (e : z = x >>> ((1 : Int32).toInt64 &&& 63)) : z.toInt = x.toInt / 2 := by
  rw [e]
  have h1 : (((1 : Int32).toInt64 &&& 63).toBitVec.smod 64#64).toNat = 1 := by decide
  rw [t_shr h1, Int.shiftRight_eq_div_pow]; rfl
theorem t_lgp {v : Int64} {c : Int32} (ec : c = lg_cmp v 0) (h : ¬ c ≤ 0) : 0 < v.toInt := by
  have h1 : ¬ v ≤ 0 := fun q => h (ec ▸ (lg_cmp_le v 0).mpr q)
  have h2 : 0 < v := Int64.not_le.mp h1
  have := Int64.lt_iff_toInt_lt.mp h2
  have h0 : (0 : Int64).toInt = 0 := rfl
  omega
theorem t_lgn {v : Int64} {c : Int32} (ec : c = lg_cmp v 0) (h : c ≤ 0) : v.toInt ≤ 0 := by
  have h1 : v ≤ 0 := (lg_cmp_le v 0).mp (ec ▸ h)
  have := Int64.le_iff_toInt_le.mp h1
  have h0 : (0 : Int64).toInt = 0 := rfl
  omega
