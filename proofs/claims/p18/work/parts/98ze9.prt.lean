/-! ===== PARTS: the PORTS whose HEARD lies in a number ===== -/
noncomputable def s_pt (D : s_D) (x : Int64) : Nat → Int32
  | 0 => 0
  | k + 1 => s_if (s_hd D (k : Int) &&& (x ^^^ (-1)) = 0) (s_pt D x k ||| (1 <<< (Int32.ofInt (k : Int) &&& 31))) (s_pt D x k)
section PRT
variable {D : s_D} {x w y w2 : Int64} {v v' m k k' c : Int32}
theorem s_pt_k (k0 : 0 ≤ k.toInt) (kz : k'.toInt = k.toInt + 1) : s_pt D x k'.toNatClampNeg = s_if (s_hd D k.toInt &&& (x ^^^ (-1)) = 0) (s_pt D x k.toNatClampNeg ||| (1 <<< (k &&& 31))) (s_pt D x k.toNatClampNeg) := by
  have c1 := t_clamp (i := k) k0
  have c2 := t_clamp (i := k') (by omega)
  rw [show k'.toNatClampNeg = k.toNatClampNeg + 1 by omega]
  show s_if (s_hd D ((k.toNatClampNeg : Nat) : Int) &&& (x ^^^ (-1)) = 0) (s_pt D x k.toNatClampNeg ||| (1 <<< (Int32.ofInt ((k.toNatClampNeg : Nat) : Int) &&& 31))) (s_pt D x k.toNatClampNeg) = _
  rw [c1, Int32.ofInt_toInt]
theorem s_pt_s1 (hv : v = s_pt D x k.toNatClampNeg) (k0 : 0 ≤ k.toInt) (hw : w = s_hd D k.toInt) (ey : y = x ^^^ (-1)) (ea : w2 = w &&& y) (hz : w2 = 0) (em : m = 1 <<< (k &&& 31)) (eo : v' = v ||| m) (kz : k'.toInt = k.toInt + 1) : v' = s_pt D x k'.toNatClampNeg := by
  rw [s_pt_k k0 kz, s_ifT (by rw [← hw, ← ey, ← ea]; exact hz), eo, em, hv]
theorem s_pt_s0 (hv : v = s_pt D x k.toNatClampNeg) (k0 : 0 ≤ k.toInt) (hw : w = s_hd D k.toInt) (ey : y = x ^^^ (-1)) (ea : w2 = w &&& y) (hz : ¬ w2 = 0) (kz : k'.toInt = k.toInt + 1) : v = s_pt D x k'.toNatClampNeg := by
  rw [s_pt_k k0 kz, s_ifF (by rw [← hw, ← ey, ← ea]; exact hz), hv]
theorem s_or0 (eo : v' = v ||| 0) : v' = v := by
  rw [eo]; apply Int32.toBitVec_inj.mp; show v.toBitVec ||| 0#32 = v.toBitVec; simp
theorem t_lc0 {z : Int64} (ec : c = lg_cmp z 0) (h : c = 0) : z = 0 := (lg_cmp_eq _ _).mp (ec.symm.trans h)
theorem t_lc1 {z : Int64} (ec : c = lg_cmp z 0) (h : ¬ c = 0) : ¬ z = 0 := fun hh => h (ec.trans ((lg_cmp_eq _ _).mpr hh))
end PRT
theorem t_lt1n {v : Int64} {c : Int32} (ec : c = lg_cmp v 1) (h : c < 0) : v.toInt < 1 := by
  have h1 : v < 1 := (lg_cmp_lt v 1).mp (ec ▸ h)
  have := Int64.lt_iff_toInt_lt.mp h1
  have h0 : (1 : Int64).toInt = 1 := rfl
  omega
theorem t_lt1p {v : Int64} {c : Int32} (ec : c = lg_cmp v 1) (h : ¬ c < 0) : 1 ≤ v.toInt := by
  have h1 : ¬ v < 1 := fun q => h (ec ▸ (lg_cmp_lt v 1).mpr q)
  have h2 := Int64.not_lt.mp h1
  have := Int64.le_iff_toInt_le.mp h2
  have h0 : (1 : Int64).toInt = 1 := rfl
  omega
theorem t_lt1q {v : Int64} {c : Int32} (ec : c = lg_cmp v 1) (h : ¬ 0 ≤ c) : v.toInt < 1 := t_lt1n ec (Int32.not_le.mp h)
theorem t_lt1r {v : Int64} {c : Int32} (ec : c = lg_cmp v 1) (h : 0 ≤ c) : 1 ≤ v.toInt := t_lt1p ec (Int32.not_lt.mpr h)
