/-! ===== a CASE as the class holds it, and by its number ===== -/
section CAS
variable {F : Nat → Int} {x y z : Int32} {c : Int}
theorem s_cs_v (h : s_cdr x y z c) (h0 : F 0 = 0 ∨ F 0 = 1) (n1 : c ≠ 20) (n2 : c ≠ 19) (n3 : c ≠ 18) : (0 ≤ y.toInt ∧ y.toInt ≤ 5 ∧ 0 ≤ x.toInt ∧ x.toInt ≤ 2) ∧ s_cs F c = (if x.toInt = 0 then (if F y.toInt.toNat < z.toInt then 1 else 0) else if x.toInt = 1 then (if z.toInt < F y.toInt.toNat then 1 else 0) else (if F y.toInt.toNat = z.toInt then 1 else 0)) := by
  unfold s_cdr at h
  rcases h with h | h | h | ⟨h, hx, hy, hz⟩ | ⟨h, hx, hy, hz⟩ | ⟨h, hx, hy, hz⟩
  · exact absurd h.1 n1
  · exact absurd h.1 n2
  · exact absurd h.1 n3
  · refine ⟨by omega, ?_⟩
    unfold s_cs
    rw [if_pos h, if_neg (show ¬ x.toInt = 0 by omega), if_neg (show ¬ x.toInt = 1 by omega), hy, hz]; rfl
  · refine ⟨by omega, ?_⟩
    unfold s_cs
    rw [if_neg (show ¬ c = 15 by omega), if_pos h, if_neg (show ¬ x.toInt = 0 by omega), if_neg (show ¬ x.toInt = 1 by omega), hy, hz]
    show _ = if F 0 = 0 then (1 : Int) else 0
    rcases h0 with h0 | h0
    · rw [if_neg (show ¬ F 0 = 1 by omega), if_pos h0]
    · rw [if_pos h0, if_neg (show ¬ F 0 = 0 by omega)]
  · refine ⟨by omega, ?_⟩
    unfold s_cs
    rw [if_neg (show ¬ c = 15 by omega), if_neg (show ¬ c = 16 by omega), show c / 1000 % 100 = x.toInt by omega, show c % 1000 = z.toInt by omega, show c / 100000 - 21 = y.toInt by omega]
/-- a step as the class lays it: what kind it is -/
theorem s_cdr_20 (h : s_cdr x y z c) : (x.toInt = 3 ↔ c = 20) ∧ (x.toInt = 4 ↔ c = 19) ∧ (x.toInt = 5 ↔ c = 18) := by
  unfold s_cdr at h
  rcases h with h | h | h | h | h | h
  · omega
  · omega
  · omega
  · omega
  · omega
  · obtain ⟨h1, h2, h3, h4⟩ := h; omega
end CAS
section DVR
variable {x y z : Int32} {c : Int}
theorem t_dvE (e : z = x / y) (hy : y.toInt = c) (hc : 0 < c) (h0 : 0 ≤ x.toInt) : z.toInt = x.toInt / c := by
  have hne : y ≠ -1 := fun h => by rw [h] at hy; have h1 : (-1 : Int32).toInt = -1 := rfl; omega
  rw [e, Int32.toInt_div_of_ne_right x y hne, hy, Int.tdiv_eq_ediv_of_nonneg h0]
theorem t_rmE (e : z = x - x / y * y) (hy : y.toInt = c) (hc : 0 < c) (h0 : 0 ≤ x.toInt) : z.toInt = x.toInt % c := by
  have hd := t_dvE (z := x / y) rfl hy hc h0
  have h1 := Int.ediv_nonneg h0 (Int.le_of_lt hc)
  have h2 : x.toInt / c * c ≤ x.toInt := Int.ediv_mul_le _ (by omega)
  have h3 : 0 ≤ x.toInt / c * c := Int.mul_nonneg h1 (Int.le_of_lt hc)
  have h4 := t_hi x
  have hm : (x / y * y).toInt = x.toInt / c * c := by rw [Int32.toInt_mul, hd, hy]; exact t_bm (by omega) (by omega)
  have h5 := Int.emod_add_mul_ediv x.toInt c
  have h6 : c * (x.toInt / c) = x.toInt / c * c := Int.mul_comm _ _
  rw [e, Int32.toInt_sub, hm, t_bm (by omega) (by omega)]
  omega
end DVR
