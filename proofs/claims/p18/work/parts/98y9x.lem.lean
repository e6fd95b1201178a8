/-! ===== what is fed, byte by byte ===== -/
/-- a byte of four -/
noncomputable def s_by (x : Int32) (s : Int) : Int32 := (x >>> (Int32.ofInt s &&& 31)).toInt8.toInt32
theorem s_by_b (x : Int32) (s : Int) : -128 ≤ (s_by x s).toInt ∧ (s_by x s).toInt ≤ 127 := by
  unfold s_by
  rw [Int8.toInt_toInt32]
  have h1 := Int8.le_toInt (x >>> (Int32.ofInt s &&& 31)).toInt8
  have h2 := Int8.toInt_lt (x >>> (Int32.ofInt s &&& 31)).toInt8
  omega
theorem s_by_m {x y z z' w : Int32} {s : Int} (e1 : z = x >>> (y &&& 31)) (e2 : z' = z.toInt8.toInt32) (e3 : w = z'.toInt8.toInt32) (hs : y.toInt = s) : w = s_by x s := by
  subst hs e1 e2 e3
  unfold s_by
  rw [Int32.ofInt_toInt, Int8.toInt8_toInt32]
theorem s_shr8 (x : BitVec 32) (k : Nat) (hk : k ≤ 24) : (x >>> k).setWidth 8 = (x.sshiftRight k).setWidth 8 := by
  apply BitVec.eq_of_getLsbD_eq
  intro i hi
  rw [BitVec.getLsbD_setWidth, BitVec.getLsbD_setWidth, BitVec.getLsbD_ushiftRight, BitVec.getLsbD_sshiftRight]
  rw [if_pos (by omega : k + i < 32)]
  simp [show ¬ 32 ≤ i by omega]
theorem s_sh8_0 (x : Int32) : (x.toUInt32 >>> 0).toInt32.toInt8.toBitVec = (x >>> 0).toInt8.toBitVec := by
  show ((x.toUInt32 >>> 0).toBitVec).signExtend 8 = ((x >>> 0).toBitVec).signExtend 8
  rw [BitVec.signExtend_eq_setWidth_of_le _ (by decide), BitVec.signExtend_eq_setWidth_of_le _ (by decide)]
  rw [UInt32.toBitVec_shiftRight, Int32.toBitVec_shiftRight]
  rw [show ((0 : UInt32).toBitVec % 32) = 0#32 from by decide, show ((0 : Int32).toBitVec.smod 32) = 0#32 from by decide]
  exact s_shr8 x.toBitVec 0 (by decide)
theorem s_sh8_8 (x : Int32) : (x.toUInt32 >>> 8).toInt32.toInt8.toBitVec = (x >>> 8).toInt8.toBitVec := by
  show ((x.toUInt32 >>> 8).toBitVec).signExtend 8 = ((x >>> 8).toBitVec).signExtend 8
  rw [BitVec.signExtend_eq_setWidth_of_le _ (by decide), BitVec.signExtend_eq_setWidth_of_le _ (by decide)]
  rw [UInt32.toBitVec_shiftRight, Int32.toBitVec_shiftRight]
  rw [show ((8 : UInt32).toBitVec % 32) = 8#32 from by decide, show ((8 : Int32).toBitVec.smod 32) = 8#32 from by decide]
  exact s_shr8 x.toBitVec 8 (by decide)
theorem s_sh8_16 (x : Int32) : (x.toUInt32 >>> 16).toInt32.toInt8.toBitVec = (x >>> 16).toInt8.toBitVec := by
  show ((x.toUInt32 >>> 16).toBitVec).signExtend 8 = ((x >>> 16).toBitVec).signExtend 8
  rw [BitVec.signExtend_eq_setWidth_of_le _ (by decide), BitVec.signExtend_eq_setWidth_of_le _ (by decide)]
  rw [UInt32.toBitVec_shiftRight, Int32.toBitVec_shiftRight]
  rw [show ((16 : UInt32).toBitVec % 32) = 16#32 from by decide, show ((16 : Int32).toBitVec.smod 32) = 16#32 from by decide]
  exact s_shr8 x.toBitVec 16 (by decide)
theorem s_sh8_24 (x : Int32) : (x.toUInt32 >>> 24).toInt32.toInt8.toBitVec = (x >>> 24).toInt8.toBitVec := by
  show ((x.toUInt32 >>> 24).toBitVec).signExtend 8 = ((x >>> 24).toBitVec).signExtend 8
  rw [BitVec.signExtend_eq_setWidth_of_le _ (by decide), BitVec.signExtend_eq_setWidth_of_le _ (by decide)]
  rw [UInt32.toBitVec_shiftRight, Int32.toBitVec_shiftRight]
  rw [show ((24 : UInt32).toBitVec % 32) = 24#32 from by decide, show ((24 : Int32).toBitVec.smod 32) = 24#32 from by decide]
  exact s_shr8 x.toBitVec 24 (by decide)
theorem s_by_h {x y z z' w : Int32} {s : Int} (e1 : z = (x.toUInt32 >>> (y.toUInt32 &&& Int32.toUInt32 31)).toInt32) (e2 : z' = z.toInt8.toInt32) (e3 : w = z'.toInt8.toInt32) (hs : y.toInt = s) (h4 : s = 0 ∨ s = 8 ∨ s = 16 ∨ s = 24) : w = s_by x s := by
  have hy : y = Int32.ofInt s := by rw [← hs, Int32.ofInt_toInt]
  subst e3 e2 e1
  unfold s_by
  rw [Int8.toInt8_toInt32]
  congr 1
  apply Int8.toBitVec_inj.mp
  rcases h4 with rfl | rfl | rfl | rfl
  · subst hy
    rw [show ((Int32.ofInt 0).toUInt32 &&& Int32.toUInt32 31) = 0 from by decide, show (Int32.ofInt 0 &&& 31 : Int32) = 0 from by decide]
    exact s_sh8_0 x
  · subst hy
    rw [show ((Int32.ofInt 8).toUInt32 &&& Int32.toUInt32 31) = 8 from by decide, show (Int32.ofInt 8 &&& 31 : Int32) = 8 from by decide]
    exact s_sh8_8 x
  · subst hy
    rw [show ((Int32.ofInt 16).toUInt32 &&& Int32.toUInt32 31) = 16 from by decide, show (Int32.ofInt 16 &&& 31 : Int32) = 16 from by decide]
    exact s_sh8_16 x
  · subst hy
    rw [show ((Int32.ofInt 24).toUInt32 &&& Int32.toUInt32 31) = 24 from by decide, show (Int32.ofInt 24 &&& 31 : Int32) = 24 from by decide]
    exact s_sh8_24 x
noncomputable def s_fe (f : Nat → Int32) (c e : Int) (x : Int32) (j : Nat) : Int32 := if c ≤ (j : Int) ∧ (j : Int) < e then s_by x (24 - 8 * ((j : Int) - c)) else f j
noncomputable def s_fd (f : Nat → Int32) (c : Int) (x : Int32) : Nat → Int32 := s_fe f c (c + 4) x
noncomputable def s_f5 (f : Nat → Int32) (c : Int) (x1 x2 x3 x4 x5 : Int32) : Nat → Int32 := s_fd (s_fd (s_fd (s_fd (s_fd f c x1) (c + 4) x2) (c + 4 + 4) x3) (c + 4 + 4 + 4) x4) (c + 4 + 4 + 4 + 4) x5
theorem t_fe_0 {f : Nat → Int32} {c e : Int} {x : Int32} (h : e ≤ c) (j : Nat) : s_fe f c e x j = f j := by
  unfold s_fe; rw [if_neg (by omega)]
theorem t_fe_s {f g g2 : Nat → Int32} {c e e' s : Int} {x v i : Int32} (h : ∀ j, g j = s_fe f c e x j) (h0 : 0 ≤ i.toInt) (hi : i.toInt = e) (hc : c ≤ e) (hs : s = 24 - 8 * (e - c)) (hv : v = s_by x s) (e2 : ∀ j, g2 j = if j = i.toNatClampNeg then v else g j) (he : e' = e + 1) : ∀ j, g2 j = s_fe f c e' x j := by
  intro j
  have hk := t_clamp h0
  rw [e2 j]
  unfold s_fe
  by_cases hj : j = i.toNatClampNeg
  · rw [if_pos hj, if_pos (by omega), hv, hs, show (j : Int) - c = e - c by omega]
  · rw [if_neg hj, h j]
    unfold s_fe
    by_cases hr : c ≤ (j : Int) ∧ (j : Int) < e
    · rw [if_pos hr, if_pos (by omega)]
    · rw [if_neg hr, if_neg (by omega)]
theorem t_f5 {g0 g1 g2 g3 g4 g5 : Nat → Int32} {c0 c1 c2 c3 c4 : Int} {x1 x2 x3 x4 x5 : Int32} (h1 : ∀ j, g1 j = s_fd g0 c0 x1 j) (e1 : c1 = c0 + 4) (h2 : ∀ j, g2 j = s_fd g1 c1 x2 j) (e2 : c2 = c1 + 4) (h3 : ∀ j, g3 j = s_fd g2 c2 x3 j) (e3 : c3 = c2 + 4) (h4 : ∀ j, g4 j = s_fd g3 c3 x4 j) (e4 : c4 = c3 + 4) (h5 : ∀ j, g5 j = s_fd g4 c4 x5 j) : ∀ j, g5 j = s_f5 g0 c0 x1 x2 x3 x4 x5 j := by
  subst e1 e2 e3 e4
  obtain rfl := funext h1
  obtain rfl := funext h2
  obtain rfl := funext h3
  obtain rfl := funext h4
  exact h5
/-- tapes that agree so far, in bytes -/
noncomputable def t_ag (f g : Nat → Int32) (c : Int) : Prop := ∀ j : Nat, (j : Int) < c → f j = g j ∧ -128 ≤ (f j).toInt ∧ (f j).toInt ≤ 127
theorem t_ag_4 {f g : Nat → Int32} {c : Int} {x : Int32} (h : t_ag f g c) : t_ag (s_fd f c x) (s_fd g c x) (c + 4) := by
  intro j hj
  unfold s_fd s_fe
  by_cases hr : c ≤ (j : Int) ∧ (j : Int) < c + 4
  · rw [if_pos hr, if_pos hr]; exact ⟨rfl, s_by_b _ _⟩
  · rw [if_neg hr, if_neg hr]; exact h j (by omega)
theorem t_ag_20 {f g : Nat → Int32} {c : Int} {x1 x2 x3 x4 x5 : Int32} (h : t_ag f g c) : t_ag (s_f5 f c x1 x2 x3 x4 x5) (s_f5 g c x1 x2 x3 x4 x5) (c + 4 + 4 + 4 + 4 + 4) := t_ag_4 (t_ag_4 (t_ag_4 (t_ag_4 (t_ag_4 h))))
