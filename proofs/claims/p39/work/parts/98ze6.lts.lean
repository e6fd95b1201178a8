/-! ===== LASTS: how many BEATS a number has ===== -/
/-- v is how many digits h has, to the base of two -/
noncomputable def s_lg2 (h v : Int) : Prop := 0 ≤ v ∧ h < 2 ^ v.toNat ∧ (0 < v → 2 ^ (v.toNat - 1) ≤ h)
theorem s_lg2_u {h v w : Int} (a : s_lg2 h v) (b : s_lg2 h w) : v = w := by
  have key : ∀ {v w : Int}, s_lg2 h v → s_lg2 h w → ¬ v < w := by
    intro v w a b hlt
    have h1 := a.2.1
    have h2 := b.2.2 (by have := a.1; omega)
    have h3 : v.toNat ≤ w.toNat - 1 := by have := a.1; omega
    have h4 : (2 : Int) ^ v.toNat ≤ 2 ^ (w.toNat - 1) := by
      have := Nat.pow_le_pow_right (n := 2) (by decide) h3
      exact_mod_cast this
    omega
  have h1 := key a b
  have h2 := key b a
  omega
/-- halved so often -/
noncomputable def s_lw (h n v : Int) : Prop := 0 ≤ n ∧ v = h / 2 ^ n.toNat ∧ (0 < n → 2 ^ (n.toNat - 1) ≤ h)
theorem s_lw_0 (h : Int) : s_lw h 0 h := ⟨Int.le_refl 0, by simp, fun hh => absurd hh (by decide)⟩
theorem s_lw_s {h n n' v v' : Int} (a : s_lw h n v) (h0 : 0 ≤ h) (hv : 0 < v) (e : v' = v / 2) (en : n' = n + 1) : s_lw h n' v' := by
  obtain ⟨a0, a1, a2⟩ := a
  have hp : (0 : Int) < 2 ^ n.toNat := Int.pow_pos (by decide)
  have hn : n'.toNat = n.toNat + 1 := by omega
  refine ⟨by omega, ?_, fun _ => ?_⟩
  · rw [e, a1, hn, Int.pow_succ, Int.ediv_ediv_of_nonneg (Int.le_of_lt hp)]
  · rw [hn, Nat.add_sub_cancel]
    have h1 : 1 ≤ h / 2 ^ n.toNat := by omega
    have h2 := (Int.le_ediv_iff_mul_le hp).mp h1
    omega
theorem s_lw_b {h n v : Int} (a : s_lw h n v) (h1 : h < 8589934592) : n ≤ 33 := by
  obtain ⟨a0, a1, a2⟩ := a
  by_cases hc : n ≤ 33
  · exact hc
  · have h3 := a2 (by omega)
    have h4 : 33 ≤ n.toNat - 1 := by omega
    have h5 : (2 : Nat) ^ 33 ≤ 2 ^ (n.toNat - 1) := Nat.pow_le_pow_right (by decide) h4
    have h6 : ((2 : Nat) ^ 33 : Int) ≤ 2 ^ (n.toNat - 1) := by exact_mod_cast h5
    have h7 : ((2 : Nat) ^ 33 : Int) = 8589934592 := by decide
    omega
theorem s_lw_b2 {h n v : Int} (a : s_lw h n v) (h0 : 0 ≤ h) (h1 : h < 8589934592) (hv : 0 < v) : n ≤ 32 := by
  have h2 := s_lw_b (s_lw_s a h0 hv rfl rfl) h1
  omega
theorem s_lw_e {h n v : Int} (a : s_lw h n v) (h0 : 0 ≤ h) (hv : v ≤ 0) : s_lg2 h n := by
  obtain ⟨a0, a1, a2⟩ := a
  have hp : (0 : Int) < 2 ^ n.toNat := Int.pow_pos (by decide)
  refine ⟨a0, ?_, a2⟩
  have h1 : h / 2 ^ n.toNat ≤ 0 := by omega
  by_cases hc : h < 2 ^ n.toNat
  · exact hc
  · have h2 := (Int.le_ediv_iff_mul_le hp).mpr (by omega : 1 * 2 ^ n.toNat ≤ h)
    omega
theorem s_lg2_k {h w : Int} (k : Nat) (e : w = (k : Int) + 1) (h1 : (2 : Int) ^ k ≤ h) (h2 : h < 2 ^ (k + 1)) : s_lg2 h w := by
  have e2 : w.toNat = k + 1 := by omega
  refine ⟨by omega, by rw [e2]; exact h2, fun _ => ?_⟩
  rw [e2, Nat.add_sub_cancel]; exact h1
theorem s_lg2_0 : s_lg2 0 0 := ⟨Int.le_refl 0, by decide, fun h => absurd h (by decide)⟩
theorem s_lg2_hi {h w : Int} (a : s_lg2 (h / 4294967296) w) (hp : 0 < h / 4294967296) : s_lg2 h (w + 32) := by
  obtain ⟨a0, a1, a2⟩ := a
  have hw : 0 < w := by
    by_cases hc : 0 < w
    · exact hc
    · have e : w.toNat = 0 := by omega
      rw [e] at a1
      have a1 : h / 4294967296 < 1 := a1
      omega
  have a3 := a2 hw
  have hn : (w + 32).toNat = w.toNat + 32 := by omega
  have hk : (w + 32).toNat - 1 = (w.toNat - 1) + 32 := by omega
  refine ⟨by omega, ?_, fun _ => ?_⟩
  · rw [hn, Int.pow_add]
    have e : (2 : Int) ^ 32 = 4294967296 := by decide
    rw [e]; omega
  · rw [hk, Int.pow_add]
    have e : (2 : Int) ^ 32 = 4294967296 := by decide
    rw [e]; omega
theorem s_lg2_w {h v w : Int} (a : s_lg2 h v) (e : v = w) : s_lg2 h w := e ▸ a
theorem s_isub {a z v : Int32} (e : v = a - z) (h0 : 0 ≤ a.toInt) (h1 : a.toInt ≤ 64) (z0 : 0 ≤ z.toInt) (z1 : z.toInt ≤ 64) : v.toInt = a.toInt - z.toInt := by
  rw [e, Int32.toInt_sub, Int.bmod_eq_of_le] <;> omega
theorem s_iadd {a z v : Int32} (e : v = a + z) (h0 : 0 ≤ a.toInt) (h1 : a.toInt ≤ 64) (z0 : 0 ≤ z.toInt) (z1 : z.toInt ≤ 64) : v.toInt = a.toInt + z.toInt := by
  rw [e, Int32.toInt_add, Int.bmod_eq_of_le] <;> omega
theorem t_us {x z c : Int32} {k : Nat} (e : z = (x.toUInt32 >>> (c.toUInt32 &&& Int32.toUInt32 31)).toInt32) (hc : ((c.toUInt32 &&& Int32.toUInt32 31).toBitVec % 32).toNat = k) (h0 : 0 ≤ x.toInt) : z.toInt = x.toInt / 2 ^ k := by
  subst e
  have hx : x.toInt = (x.toBitVec.toNat : Int) := by
    have h1 : x.toInt = x.toBitVec.toInt := rfl
    rw [h1] at h0 ⊢
    rw [BitVec.toInt_eq_toNat_cond] at h0 ⊢
    split <;> rename_i hh
    · rfl
    · rw [if_neg hh] at h0
      have := x.toBitVec.isLt
      omega
  have hlt : 2 * x.toBitVec.toNat < 2 ^ 32 := by
    have h1 : x.toInt < 2 ^ 31 := x.toInt_lt
    omega
  show (x.toBitVec >>> ((c.toUInt32 &&& Int32.toUInt32 31).toBitVec % 32)).toInt = _
  have hn : (x.toBitVec >>> ((c.toUInt32 &&& Int32.toUInt32 31).toBitVec % 32)).toNat = x.toBitVec.toNat / 2 ^ k := by
    rw [← hc]
    show (x.toBitVec >>> ((c.toUInt32 &&& Int32.toUInt32 31).toBitVec % 32).toNat).toNat = _
    rw [BitVec.toNat_ushiftRight, Nat.shiftRight_eq_div_pow]
  have hle : x.toBitVec.toNat / 2 ^ k ≤ x.toBitVec.toNat := Nat.div_le_self _ _
  rw [BitVec.toInt_eq_toNat_of_lt (by rw [hn]; omega), hn, hx]
  simp
theorem t_us64 {x z : Int64} {k : Nat} {c : UInt64} (e : z = (x.toUInt64 >>> c).toInt64) (hc : (c.toBitVec % 64).toNat = k) (h0 : 0 ≤ x.toInt) : z.toInt = x.toInt / 2 ^ k := by
  subst e
  have hx : x.toInt = (x.toBitVec.toNat : Int) := by
    have h1 : x.toInt = x.toBitVec.toInt := rfl
    rw [h1] at h0 ⊢
    rw [BitVec.toInt_eq_toNat_cond] at h0 ⊢
    split <;> rename_i hh
    · rfl
    · rw [if_neg hh] at h0
      have := x.toBitVec.isLt
      omega
  have hlt : 2 * x.toBitVec.toNat < 2 ^ 64 := by
    have h1 : x.toInt < 2 ^ 63 := x.toInt_lt
    omega
  show (x.toBitVec >>> (c.toBitVec % 64)).toInt = _
  have hn : (x.toBitVec >>> (c.toBitVec % 64)).toNat = x.toBitVec.toNat / 2 ^ k := by
    rw [← hc]
    show (x.toBitVec >>> (c.toBitVec % 64).toNat).toNat = _
    rw [BitVec.toNat_ushiftRight, Nat.shiftRight_eq_div_pow]
  have hle : x.toBitVec.toNat / 2 ^ k ≤ x.toBitVec.toNat := Nat.div_le_self _ _
  rw [BitVec.toInt_eq_toNat_of_lt (by rw [hn]; omega), hn, hx]
  simp
theorem t_l2iB {x : Int64} {y : Int32} (e : y = x.toInt32) : y.toInt = Int.bmod x.toInt 4294967296 := by
  rw [e, Int64.toInt_toInt32]
theorem t_sh1B {x z : Int64} (e : z = x >>> ((1 : Int32).toInt64 &&& 63)) : z.toInt = x.toInt / 2 := by
  rw [e]
  have h1 : (((1 : Int32).toInt64 &&& 63).toBitVec.smod 64#64).toNat = 1 := by decide
  rw [t_shr h1, Int.shiftRight_eq_div_pow]; rfl
theorem t_lgp {v : Int64} {c : Int32} (ec : c = lg_cmp v 0) (h : ¬ c ≤ 0) : 0 < v.toInt := by
  have h1 : ¬ v ≤ 0 := fun q => h (ec ▸ (lg_cmp_le v 0).mpr q)
  have h2 : 0 < v := Int64.not_le.mp h1
  have := Int64.lt_iff_toInt_lt.mp h2
  have h0 : (0 : Int64).toInt = 0 := rfl
  omega
theorem t_lgn {v : Int64} {c : Int32} (ec : c = lg_cmp v 0) (h : c ≤ 0) : v.toInt ≤ 0 := by
  have h1 : v ≤ 0 := (lg_cmp_le v 0).mp (ec ▸ h)
  have := Int64.le_iff_toInt_le.mp h1
  have h0 : (0 : Int64).toInt = 0 := rfl
  omega
/-! ===== printed by riv.py: LASTS ===== -/
noncomputable def wl_j_nlz : List (Nat × Nat) := []
noncomputable def Q_j_nlz (gi : Nat → Nat → Int32) (gl : Nat → Nat → Int64) (gr : Nat → Nat → Value) (ar0 : Int32) : Int32 → (Nat → Nat → Int32) → (Nat → Nat → Int64) → (Nat → Nat → Value) → Prop := fun (v : Int32) (gi2 : Nat → Nat → Int32) (gl2 : Nat → Nat → Int64) (gr2 : Nat → Nat → Value) => (0 ≤ v.toInt ∧ v.toInt ≤ 32) ∧ (0 < ar0.toInt → s_lg2 ar0.toInt (32 - v.toInt)) ∧ (ar0.toInt = 0 → v.toInt = 32) ∧ (ar0.toInt < 0 → v.toInt = 0)
theorem c_j_nlz {X : x_Ext} {d : Nat} {sh : List (Nat ⊕ (Nat × Nat))} {gi : Nat → Nat → Int32} {gl : Nat → Nat → Int64} {gr : Nat → Nat → Value} (hI : t_I sh gi gr) (ar0 : Int32) : x_Me X (d + 1) n_J6_numberOfLeadingZeros_0f7a4 [.int ar0] (sh, gi, gl, gr) (t_PI wl_j_nlz sh gi gl gr (-2147483648) 2147483647 (Q_j_nlz gi gl gr ar0)) := by
  have hX : t_X wl_j_nlz sh gi gl gr gi gl gr := t_X.rf
  refine me_s f_J6_numberOfLeadingZeros_0f7a4 rfl rfl ?_
  refine ev_loc f_J6_numberOfLeadingZeros_0f7a4 (nx := 1) rfl rfl rfl rfl ?_
  refine ev_if f_J6_numberOfLeadingZeros_0f7a4 (t1 := 15) (t2 := 4) rfl rfl rfl (fun h1 => ?_) (fun h1 => ?_)
  · have l2 : 1 ≤ ar0.toInt := t_ltl h1 (by decide : (0:Int) ≤ (0:Int32).toInt) rfl
    refine ev_bp f_J6_numberOfLeadingZeros_0f7a4 (nx := 17) (v := 31) rfl (by decide) rfl ?_
    refine ev_loc f_J6_numberOfLeadingZeros_0f7a4 (nx := 18) (lo' := [(1, .int 31), (0, .int ar0)]) rfl rfl rfl rfl ?_
    refine ev_loc f_J6_numberOfLeadingZeros_0f7a4 (nx := 19) rfl rfl rfl rfl ?_
    refine ev_ldW f_J6_numberOfLeadingZeros_0f7a4 (nx := 22) (v := 65536) rfl (by decide) rfl ?_
    refine ev_if f_J6_numberOfLeadingZeros_0f7a4 (t1 := 33) (t2 := 25) rfl rfl rfl (fun h3 => ?_) (fun h3 => ?_)
    · have u4 : ar0.toInt ≤ 65535 := t_ltu h3 (by decide : (65536:Int32).toInt ≤ (65536:Int)) rfl
      refine ev_loc f_J6_numberOfLeadingZeros_0f7a4 (nx := 34) rfl rfl rfl rfl ?_
      refine ev_sp f_J6_numberOfLeadingZeros_0f7a4 (nx := 37) (v := 256) rfl (by decide) rfl ?_
      refine ev_if f_J6_numberOfLeadingZeros_0f7a4 (t1 := 48) (t2 := 40) rfl rfl rfl (fun h5 => ?_) (fun h5 => ?_)
      · have u6 : ar0.toInt ≤ 255 := t_ltu h5 (by decide : (256:Int32).toInt ≤ (256:Int)) rfl
        refine ev_loc f_J6_numberOfLeadingZeros_0f7a4 (nx := 49) rfl rfl rfl rfl ?_
        refine ev_bp f_J6_numberOfLeadingZeros_0f7a4 (nx := 51) (v := 16) rfl (by decide) rfl ?_
        refine ev_if f_J6_numberOfLeadingZeros_0f7a4 (t1 := 61) (t2 := 54) rfl rfl rfl (fun h7 => ?_) (fun h7 => ?_)
        · have u8 : ar0.toInt ≤ 15 := t_ltu h7 (by decide : (16:Int32).toInt ≤ (16:Int)) rfl
          refine ev_loc f_J6_numberOfLeadingZeros_0f7a4 (nx := 62) rfl rfl rfl rfl ?_
          refine ev_ic f_J6_numberOfLeadingZeros_0f7a4 (nx := 63) (v := 4) rfl (by decide) rfl ?_
          refine ev_if f_J6_numberOfLeadingZeros_0f7a4 (t1 := 73) (t2 := 66) rfl rfl rfl (fun h9 => ?_) (fun h9 => ?_)
          · have u10 : ar0.toInt ≤ 3 := t_ltu h9 (by decide : (4:Int32).toInt ≤ (4:Int)) rfl
            refine ev_loc f_J6_numberOfLeadingZeros_0f7a4 (nx := 74) rfl rfl rfl rfl ?_
            refine ev_loc f_J6_numberOfLeadingZeros_0f7a4 (nx := 75) rfl rfl rfl rfl ?_
            refine ev_ic f_J6_numberOfLeadingZeros_0f7a4 (nx := 76) (v := 1) rfl (by decide) rfl ?_
            refine ev_anyIE f_J6_numberOfLeadingZeros_0f7a4 (nx := 77) rfl rfl rfl rfl (fun z11 e11 => ?_)
            refine ev_anyIE f_J6_numberOfLeadingZeros_0f7a4 (nx := 78) rfl rfl rfl rfl (fun z12 e12 => ?_)
            exact ev_ret f_J6_numberOfLeadingZeros_0f7a4 rfl rfl rfl ⟨_, _, _, rfl, hI, hX, ⟨_, rfl, (t_lo z12), (t_hi z12), (show (0 ≤ z12.toInt ∧ z12.toInt ≤ 32) ∧ (0 < ar0.toInt → s_lg2 ar0.toInt (32 - z12.toInt)) ∧ (ar0.toInt = 0 → z12.toInt = 32) ∧ (ar0.toInt < 0 → z12.toInt = 0) from (by
                                                            have hl : ar0.toInt < 2147483648 := ar0.toInt_lt
                                                            have u76 := t_us (k := 1) e11 (by decide) (by omega)
                                                            have ua : (31 : Int32).toInt = 31 := rfl
                                                            have us := s_isub (a := (31 : Int32)) e12 (by omega) (by omega) (by omega) (by omega)
                                                            refine ⟨by omega, fun _ => ?_, fun h => absurd h (by omega), fun h => absurd h (by omega)⟩
                                                            rcases (show z11.toInt = 0 ∨ z11.toInt = 1 by omega) with hz | hz
                                                            · exact s_lg2_k 0 (by omega) (by omega) (by omega)
                                                            · exact s_lg2_k 1 (by omega) (by omega) (by omega)))⟩⟩
          · have l13 : 4 ≤ ar0.toInt := t_lel (t_nlt h9) (by decide : (4:Int) ≤ (4:Int32).toInt)
            refine ev_incv f_J6_numberOfLeadingZeros_0f7a4 (nx := 69) (c := -2) (w := 29) (lo' := [(1, .int 29), (0, .int ar0)]) rfl rfl (by decide) (by decide) rfl rfl rfl ?_
            refine ev_loc f_J6_numberOfLeadingZeros_0f7a4 (nx := 70) rfl rfl rfl rfl ?_
            refine ev_ic f_J6_numberOfLeadingZeros_0f7a4 (nx := 71) (v := 2) rfl (by decide) rfl ?_
            refine ev_anyIE f_J6_numberOfLeadingZeros_0f7a4 (nx := 72) rfl rfl rfl rfl (fun z14 e14 => ?_)
            refine ev_loc f_J6_numberOfLeadingZeros_0f7a4 (nx := 73) (lo' := [(0, .int z14), (1, .int 29)]) rfl rfl rfl rfl ?_
            refine ev_loc f_J6_numberOfLeadingZeros_0f7a4 (nx := 74) rfl rfl rfl rfl ?_
            refine ev_loc f_J6_numberOfLeadingZeros_0f7a4 (nx := 75) rfl rfl rfl rfl ?_
            refine ev_ic f_J6_numberOfLeadingZeros_0f7a4 (nx := 76) (v := 1) rfl (by decide) rfl ?_
            refine ev_anyIE f_J6_numberOfLeadingZeros_0f7a4 (nx := 77) rfl rfl rfl rfl (fun z15 e15 => ?_)
            refine ev_anyIE f_J6_numberOfLeadingZeros_0f7a4 (nx := 78) rfl rfl rfl rfl (fun z16 e16 => ?_)
            exact ev_ret f_J6_numberOfLeadingZeros_0f7a4 rfl rfl rfl ⟨_, _, _, rfl, hI, hX, ⟨_, rfl, (t_lo z16), (t_hi z16), (show (0 ≤ z16.toInt ∧ z16.toInt ≤ 32) ∧ (0 < ar0.toInt → s_lg2 ar0.toInt (32 - z16.toInt)) ∧ (ar0.toInt = 0 → z16.toInt = 32) ∧ (ar0.toInt < 0 → z16.toInt = 0) from (by
                                                            have hl : ar0.toInt < 2147483648 := ar0.toInt_lt
                                                            have u71 := t_us (k := 2) e14 (by decide) (by omega)
                                                            have u76 := t_us (k := 1) e15 (by decide) (by omega)
                                                            have ua : (29 : Int32).toInt = 29 := rfl
                                                            have us := s_isub (a := (29 : Int32)) e16 (by omega) (by omega) (by omega) (by omega)
                                                            refine ⟨by omega, fun _ => ?_, fun h => absurd h (by omega), fun h => absurd h (by omega)⟩
                                                            rcases (show z15.toInt = 0 ∨ z15.toInt = 1 by omega) with hz | hz
                                                            · exact s_lg2_k 2 (by omega) (by omega) (by omega)
                                                            · exact s_lg2_k 3 (by omega) (by omega) (by omega)))⟩⟩
        · have l17 : 16 ≤ ar0.toInt := t_lel (t_nlt h7) (by decide : (16:Int) ≤ (16:Int32).toInt)
          refine ev_incv f_J6_numberOfLeadingZeros_0f7a4 (nx := 57) (c := -4) (w := 27) (lo' := [(1, .int 27), (0, .int ar0)]) rfl rfl (by decide) (by decide) rfl rfl rfl ?_
          refine ev_loc f_J6_numberOfLeadingZeros_0f7a4 (nx := 58) rfl rfl rfl rfl ?_
          refine ev_ic f_J6_numberOfLeadingZeros_0f7a4 (nx := 59) (v := 4) rfl (by decide) rfl ?_
          refine ev_anyIE f_J6_numberOfLeadingZeros_0f7a4 (nx := 60) rfl rfl rfl rfl (fun z18 e18 => ?_)
          refine ev_loc f_J6_numberOfLeadingZeros_0f7a4 (nx := 61) (lo' := [(0, .int z18), (1, .int 27)]) rfl rfl rfl rfl ?_
          refine ev_loc f_J6_numberOfLeadingZeros_0f7a4 (nx := 62) rfl rfl rfl rfl ?_
          refine ev_ic f_J6_numberOfLeadingZeros_0f7a4 (nx := 63) (v := 4) rfl (by decide) rfl ?_
          refine ev_if f_J6_numberOfLeadingZeros_0f7a4 (t1 := 73) (t2 := 66) rfl rfl rfl (fun h19 => ?_) (fun h19 => ?_)
          · have u20 : z18.toInt ≤ 3 := t_ltu h19 (by decide : (4:Int32).toInt ≤ (4:Int)) rfl
            refine ev_loc f_J6_numberOfLeadingZeros_0f7a4 (nx := 74) rfl rfl rfl rfl ?_
            refine ev_loc f_J6_numberOfLeadingZeros_0f7a4 (nx := 75) rfl rfl rfl rfl ?_
            refine ev_ic f_J6_numberOfLeadingZeros_0f7a4 (nx := 76) (v := 1) rfl (by decide) rfl ?_
            refine ev_anyIE f_J6_numberOfLeadingZeros_0f7a4 (nx := 77) rfl rfl rfl rfl (fun z21 e21 => ?_)
            refine ev_anyIE f_J6_numberOfLeadingZeros_0f7a4 (nx := 78) rfl rfl rfl rfl (fun z22 e22 => ?_)
            exact ev_ret f_J6_numberOfLeadingZeros_0f7a4 rfl rfl rfl ⟨_, _, _, rfl, hI, hX, ⟨_, rfl, (t_lo z22), (t_hi z22), (show (0 ≤ z22.toInt ∧ z22.toInt ≤ 32) ∧ (0 < ar0.toInt → s_lg2 ar0.toInt (32 - z22.toInt)) ∧ (ar0.toInt = 0 → z22.toInt = 32) ∧ (ar0.toInt < 0 → z22.toInt = 0) from (by
                                                            have hl : ar0.toInt < 2147483648 := ar0.toInt_lt
                                                            have u59 := t_us (k := 4) e18 (by decide) (by omega)
                                                            have u76 := t_us (k := 1) e21 (by decide) (by omega)
                                                            have ua : (27 : Int32).toInt = 27 := rfl
                                                            have us := s_isub (a := (27 : Int32)) e22 (by omega) (by omega) (by omega) (by omega)
                                                            refine ⟨by omega, fun _ => ?_, fun h => absurd h (by omega), fun h => absurd h (by omega)⟩
                                                            rcases (show z21.toInt = 0 ∨ z21.toInt = 1 by omega) with hz | hz
                                                            · exact s_lg2_k 4 (by omega) (by omega) (by omega)
                                                            · exact s_lg2_k 5 (by omega) (by omega) (by omega)))⟩⟩
          · have l23 : 4 ≤ z18.toInt := t_lel (t_nlt h19) (by decide : (4:Int) ≤ (4:Int32).toInt)
            refine ev_incv f_J6_numberOfLeadingZeros_0f7a4 (nx := 69) (c := -2) (w := 25) (lo' := [(1, .int 25), (0, .int z18)]) rfl rfl (by decide) (by decide) rfl rfl rfl ?_
            refine ev_loc f_J6_numberOfLeadingZeros_0f7a4 (nx := 70) rfl rfl rfl rfl ?_
            refine ev_ic f_J6_numberOfLeadingZeros_0f7a4 (nx := 71) (v := 2) rfl (by decide) rfl ?_
            refine ev_anyIE f_J6_numberOfLeadingZeros_0f7a4 (nx := 72) rfl rfl rfl rfl (fun z24 e24 => ?_)
            refine ev_loc f_J6_numberOfLeadingZeros_0f7a4 (nx := 73) (lo' := [(0, .int z24), (1, .int 25)]) rfl rfl rfl rfl ?_
            refine ev_loc f_J6_numberOfLeadingZeros_0f7a4 (nx := 74) rfl rfl rfl rfl ?_
            refine ev_loc f_J6_numberOfLeadingZeros_0f7a4 (nx := 75) rfl rfl rfl rfl ?_
            refine ev_ic f_J6_numberOfLeadingZeros_0f7a4 (nx := 76) (v := 1) rfl (by decide) rfl ?_
            refine ev_anyIE f_J6_numberOfLeadingZeros_0f7a4 (nx := 77) rfl rfl rfl rfl (fun z25 e25 => ?_)
            refine ev_anyIE f_J6_numberOfLeadingZeros_0f7a4 (nx := 78) rfl rfl rfl rfl (fun z26 e26 => ?_)
            exact ev_ret f_J6_numberOfLeadingZeros_0f7a4 rfl rfl rfl ⟨_, _, _, rfl, hI, hX, ⟨_, rfl, (t_lo z26), (t_hi z26), (show (0 ≤ z26.toInt ∧ z26.toInt ≤ 32) ∧ (0 < ar0.toInt → s_lg2 ar0.toInt (32 - z26.toInt)) ∧ (ar0.toInt = 0 → z26.toInt = 32) ∧ (ar0.toInt < 0 → z26.toInt = 0) from (by
                                                            have hl : ar0.toInt < 2147483648 := ar0.toInt_lt
                                                            have u59 := t_us (k := 4) e18 (by decide) (by omega)
                                                            have u71 := t_us (k := 2) e24 (by decide) (by omega)
                                                            have u76 := t_us (k := 1) e25 (by decide) (by omega)
                                                            have ua : (25 : Int32).toInt = 25 := rfl
                                                            have us := s_isub (a := (25 : Int32)) e26 (by omega) (by omega) (by omega) (by omega)
                                                            refine ⟨by omega, fun _ => ?_, fun h => absurd h (by omega), fun h => absurd h (by omega)⟩
                                                            rcases (show z25.toInt = 0 ∨ z25.toInt = 1 by omega) with hz | hz
                                                            · exact s_lg2_k 6 (by omega) (by omega) (by omega)
                                                            · exact s_lg2_k 7 (by omega) (by omega) (by omega)))⟩⟩
      · have l27 : 256 ≤ ar0.toInt := t_lel (t_nlt h5) (by decide : (256:Int) ≤ (256:Int32).toInt)
        refine ev_incv f_J6_numberOfLeadingZeros_0f7a4 (nx := 43) (c := -8) (w := 23) (lo' := [(1, .int 23), (0, .int ar0)]) rfl rfl (by decide) (by decide) rfl rfl rfl ?_
        refine ev_loc f_J6_numberOfLeadingZeros_0f7a4 (nx := 44) rfl rfl rfl rfl ?_
        refine ev_bp f_J6_numberOfLeadingZeros_0f7a4 (nx := 46) (v := 8) rfl (by decide) rfl ?_
        refine ev_anyIE f_J6_numberOfLeadingZeros_0f7a4 (nx := 47) rfl rfl rfl rfl (fun z28 e28 => ?_)
        refine ev_loc f_J6_numberOfLeadingZeros_0f7a4 (nx := 48) (lo' := [(0, .int z28), (1, .int 23)]) rfl rfl rfl rfl ?_
        refine ev_loc f_J6_numberOfLeadingZeros_0f7a4 (nx := 49) rfl rfl rfl rfl ?_
        refine ev_bp f_J6_numberOfLeadingZeros_0f7a4 (nx := 51) (v := 16) rfl (by decide) rfl ?_
        refine ev_if f_J6_numberOfLeadingZeros_0f7a4 (t1 := 61) (t2 := 54) rfl rfl rfl (fun h29 => ?_) (fun h29 => ?_)
        · have u30 : z28.toInt ≤ 15 := t_ltu h29 (by decide : (16:Int32).toInt ≤ (16:Int)) rfl
          refine ev_loc f_J6_numberOfLeadingZeros_0f7a4 (nx := 62) rfl rfl rfl rfl ?_
          refine ev_ic f_J6_numberOfLeadingZeros_0f7a4 (nx := 63) (v := 4) rfl (by decide) rfl ?_
          refine ev_if f_J6_numberOfLeadingZeros_0f7a4 (t1 := 73) (t2 := 66) rfl rfl rfl (fun h31 => ?_) (fun h31 => ?_)
          · have u32 : z28.toInt ≤ 3 := t_ltu h31 (by decide : (4:Int32).toInt ≤ (4:Int)) rfl
            refine ev_loc f_J6_numberOfLeadingZeros_0f7a4 (nx := 74) rfl rfl rfl rfl ?_
            refine ev_loc f_J6_numberOfLeadingZeros_0f7a4 (nx := 75) rfl rfl rfl rfl ?_
            refine ev_ic f_J6_numberOfLeadingZeros_0f7a4 (nx := 76) (v := 1) rfl (by decide) rfl ?_
            refine ev_anyIE f_J6_numberOfLeadingZeros_0f7a4 (nx := 77) rfl rfl rfl rfl (fun z33 e33 => ?_)
            refine ev_anyIE f_J6_numberOfLeadingZeros_0f7a4 (nx := 78) rfl rfl rfl rfl (fun z34 e34 => ?_)
            exact ev_ret f_J6_numberOfLeadingZeros_0f7a4 rfl rfl rfl ⟨_, _, _, rfl, hI, hX, ⟨_, rfl, (t_lo z34), (t_hi z34), (show (0 ≤ z34.toInt ∧ z34.toInt ≤ 32) ∧ (0 < ar0.toInt → s_lg2 ar0.toInt (32 - z34.toInt)) ∧ (ar0.toInt = 0 → z34.toInt = 32) ∧ (ar0.toInt < 0 → z34.toInt = 0) from (by
                                                            have hl : ar0.toInt < 2147483648 := ar0.toInt_lt
                                                            have u46 := t_us (k := 8) e28 (by decide) (by omega)
                                                            have u76 := t_us (k := 1) e33 (by decide) (by omega)
                                                            have ua : (23 : Int32).toInt = 23 := rfl
                                                            have us := s_isub (a := (23 : Int32)) e34 (by omega) (by omega) (by omega) (by omega)
                                                            refine ⟨by omega, fun _ => ?_, fun h => absurd h (by omega), fun h => absurd h (by omega)⟩
                                                            rcases (show z33.toInt = 0 ∨ z33.toInt = 1 by omega) with hz | hz
                                                            · exact s_lg2_k 8 (by omega) (by omega) (by omega)
                                                            · exact s_lg2_k 9 (by omega) (by omega) (by omega)))⟩⟩
          · have l35 : 4 ≤ z28.toInt := t_lel (t_nlt h31) (by decide : (4:Int) ≤ (4:Int32).toInt)
            refine ev_incv f_J6_numberOfLeadingZeros_0f7a4 (nx := 69) (c := -2) (w := 21) (lo' := [(1, .int 21), (0, .int z28)]) rfl rfl (by decide) (by decide) rfl rfl rfl ?_
            refine ev_loc f_J6_numberOfLeadingZeros_0f7a4 (nx := 70) rfl rfl rfl rfl ?_
            refine ev_ic f_J6_numberOfLeadingZeros_0f7a4 (nx := 71) (v := 2) rfl (by decide) rfl ?_
            refine ev_anyIE f_J6_numberOfLeadingZeros_0f7a4 (nx := 72) rfl rfl rfl rfl (fun z36 e36 => ?_)
            refine ev_loc f_J6_numberOfLeadingZeros_0f7a4 (nx := 73) (lo' := [(0, .int z36), (1, .int 21)]) rfl rfl rfl rfl ?_
            refine ev_loc f_J6_numberOfLeadingZeros_0f7a4 (nx := 74) rfl rfl rfl rfl ?_
            refine ev_loc f_J6_numberOfLeadingZeros_0f7a4 (nx := 75) rfl rfl rfl rfl ?_
            refine ev_ic f_J6_numberOfLeadingZeros_0f7a4 (nx := 76) (v := 1) rfl (by decide) rfl ?_
            refine ev_anyIE f_J6_numberOfLeadingZeros_0f7a4 (nx := 77) rfl rfl rfl rfl (fun z37 e37 => ?_)
            refine ev_anyIE f_J6_numberOfLeadingZeros_0f7a4 (nx := 78) rfl rfl rfl rfl (fun z38 e38 => ?_)
            exact ev_ret f_J6_numberOfLeadingZeros_0f7a4 rfl rfl rfl ⟨_, _, _, rfl, hI, hX, ⟨_, rfl, (t_lo z38), (t_hi z38), (show (0 ≤ z38.toInt ∧ z38.toInt ≤ 32) ∧ (0 < ar0.toInt → s_lg2 ar0.toInt (32 - z38.toInt)) ∧ (ar0.toInt = 0 → z38.toInt = 32) ∧ (ar0.toInt < 0 → z38.toInt = 0) from (by
                                                            have hl : ar0.toInt < 2147483648 := ar0.toInt_lt
                                                            have u46 := t_us (k := 8) e28 (by decide) (by omega)
                                                            have u71 := t_us (k := 2) e36 (by decide) (by omega)
                                                            have u76 := t_us (k := 1) e37 (by decide) (by omega)
                                                            have ua : (21 : Int32).toInt = 21 := rfl
                                                            have us := s_isub (a := (21 : Int32)) e38 (by omega) (by omega) (by omega) (by omega)
                                                            refine ⟨by omega, fun _ => ?_, fun h => absurd h (by omega), fun h => absurd h (by omega)⟩
                                                            rcases (show z37.toInt = 0 ∨ z37.toInt = 1 by omega) with hz | hz
                                                            · exact s_lg2_k 10 (by omega) (by omega) (by omega)
                                                            · exact s_lg2_k 11 (by omega) (by omega) (by omega)))⟩⟩
        · have l39 : 16 ≤ z28.toInt := t_lel (t_nlt h29) (by decide : (16:Int) ≤ (16:Int32).toInt)
          refine ev_incv f_J6_numberOfLeadingZeros_0f7a4 (nx := 57) (c := -4) (w := 19) (lo' := [(1, .int 19), (0, .int z28)]) rfl rfl (by decide) (by decide) rfl rfl rfl ?_
          refine ev_loc f_J6_numberOfLeadingZeros_0f7a4 (nx := 58) rfl rfl rfl rfl ?_
          refine ev_ic f_J6_numberOfLeadingZeros_0f7a4 (nx := 59) (v := 4) rfl (by decide) rfl ?_
          refine ev_anyIE f_J6_numberOfLeadingZeros_0f7a4 (nx := 60) rfl rfl rfl rfl (fun z40 e40 => ?_)
          refine ev_loc f_J6_numberOfLeadingZeros_0f7a4 (nx := 61) (lo' := [(0, .int z40), (1, .int 19)]) rfl rfl rfl rfl ?_
          refine ev_loc f_J6_numberOfLeadingZeros_0f7a4 (nx := 62) rfl rfl rfl rfl ?_
          refine ev_ic f_J6_numberOfLeadingZeros_0f7a4 (nx := 63) (v := 4) rfl (by decide) rfl ?_
          refine ev_if f_J6_numberOfLeadingZeros_0f7a4 (t1 := 73) (t2 := 66) rfl rfl rfl (fun h41 => ?_) (fun h41 => ?_)
          · have u42 : z40.toInt ≤ 3 := t_ltu h41 (by decide : (4:Int32).toInt ≤ (4:Int)) rfl
            refine ev_loc f_J6_numberOfLeadingZeros_0f7a4 (nx := 74) rfl rfl rfl rfl ?_
            refine ev_loc f_J6_numberOfLeadingZeros_0f7a4 (nx := 75) rfl rfl rfl rfl ?_
            refine ev_ic f_J6_numberOfLeadingZeros_0f7a4 (nx := 76) (v := 1) rfl (by decide) rfl ?_
            refine ev_anyIE f_J6_numberOfLeadingZeros_0f7a4 (nx := 77) rfl rfl rfl rfl (fun z43 e43 => ?_)
            refine ev_anyIE f_J6_numberOfLeadingZeros_0f7a4 (nx := 78) rfl rfl rfl rfl (fun z44 e44 => ?_)
            exact ev_ret f_J6_numberOfLeadingZeros_0f7a4 rfl rfl rfl ⟨_, _, _, rfl, hI, hX, ⟨_, rfl, (t_lo z44), (t_hi z44), (show (0 ≤ z44.toInt ∧ z44.toInt ≤ 32) ∧ (0 < ar0.toInt → s_lg2 ar0.toInt (32 - z44.toInt)) ∧ (ar0.toInt = 0 → z44.toInt = 32) ∧ (ar0.toInt < 0 → z44.toInt = 0) from (by
                                                            have hl : ar0.toInt < 2147483648 := ar0.toInt_lt
                                                            have u46 := t_us (k := 8) e28 (by decide) (by omega)
                                                            have u59 := t_us (k := 4) e40 (by decide) (by omega)
                                                            have u76 := t_us (k := 1) e43 (by decide) (by omega)
                                                            have ua : (19 : Int32).toInt = 19 := rfl
                                                            have us := s_isub (a := (19 : Int32)) e44 (by omega) (by omega) (by omega) (by omega)
                                                            refine ⟨by omega, fun _ => ?_, fun h => absurd h (by omega), fun h => absurd h (by omega)⟩
                                                            rcases (show z43.toInt = 0 ∨ z43.toInt = 1 by omega) with hz | hz
                                                            · exact s_lg2_k 12 (by omega) (by omega) (by omega)
                                                            · exact s_lg2_k 13 (by omega) (by omega) (by omega)))⟩⟩
          · have l45 : 4 ≤ z40.toInt := t_lel (t_nlt h41) (by decide : (4:Int) ≤ (4:Int32).toInt)
            refine ev_incv f_J6_numberOfLeadingZeros_0f7a4 (nx := 69) (c := -2) (w := 17) (lo' := [(1, .int 17), (0, .int z40)]) rfl rfl (by decide) (by decide) rfl rfl rfl ?_
            refine ev_loc f_J6_numberOfLeadingZeros_0f7a4 (nx := 70) rfl rfl rfl rfl ?_
            refine ev_ic f_J6_numberOfLeadingZeros_0f7a4 (nx := 71) (v := 2) rfl (by decide) rfl ?_
            refine ev_anyIE f_J6_numberOfLeadingZeros_0f7a4 (nx := 72) rfl rfl rfl rfl (fun z46 e46 => ?_)
            refine ev_loc f_J6_numberOfLeadingZeros_0f7a4 (nx := 73) (lo' := [(0, .int z46), (1, .int 17)]) rfl rfl rfl rfl ?_
            refine ev_loc f_J6_numberOfLeadingZeros_0f7a4 (nx := 74) rfl rfl rfl rfl ?_
            refine ev_loc f_J6_numberOfLeadingZeros_0f7a4 (nx := 75) rfl rfl rfl rfl ?_
            refine ev_ic f_J6_numberOfLeadingZeros_0f7a4 (nx := 76) (v := 1) rfl (by decide) rfl ?_
            refine ev_anyIE f_J6_numberOfLeadingZeros_0f7a4 (nx := 77) rfl rfl rfl rfl (fun z47 e47 => ?_)
            refine ev_anyIE f_J6_numberOfLeadingZeros_0f7a4 (nx := 78) rfl rfl rfl rfl (fun z48 e48 => ?_)
            exact ev_ret f_J6_numberOfLeadingZeros_0f7a4 rfl rfl rfl ⟨_, _, _, rfl, hI, hX, ⟨_, rfl, (t_lo z48), (t_hi z48), (show (0 ≤ z48.toInt ∧ z48.toInt ≤ 32) ∧ (0 < ar0.toInt → s_lg2 ar0.toInt (32 - z48.toInt)) ∧ (ar0.toInt = 0 → z48.toInt = 32) ∧ (ar0.toInt < 0 → z48.toInt = 0) from (by
                                                            have hl : ar0.toInt < 2147483648 := ar0.toInt_lt
                                                            have u46 := t_us (k := 8) e28 (by decide) (by omega)
                                                            have u59 := t_us (k := 4) e40 (by decide) (by omega)
                                                            have u71 := t_us (k := 2) e46 (by decide) (by omega)
                                                            have u76 := t_us (k := 1) e47 (by decide) (by omega)
                                                            have ua : (17 : Int32).toInt = 17 := rfl
                                                            have us := s_isub (a := (17 : Int32)) e48 (by omega) (by omega) (by omega) (by omega)
                                                            refine ⟨by omega, fun _ => ?_, fun h => absurd h (by omega), fun h => absurd h (by omega)⟩
                                                            rcases (show z47.toInt = 0 ∨ z47.toInt = 1 by omega) with hz | hz
                                                            · exact s_lg2_k 14 (by omega) (by omega) (by omega)
                                                            · exact s_lg2_k 15 (by omega) (by omega) (by omega)))⟩⟩
    · have l49 : 65536 ≤ ar0.toInt := t_lel (t_nlt h3) (by decide : (65536:Int) ≤ (65536:Int32).toInt)
      refine ev_incv f_J6_numberOfLeadingZeros_0f7a4 (nx := 28) (c := -16) (w := 15) (lo' := [(1, .int 15), (0, .int ar0)]) rfl rfl (by decide) (by decide) rfl rfl rfl ?_
      refine ev_loc f_J6_numberOfLeadingZeros_0f7a4 (nx := 29) rfl rfl rfl rfl ?_
      refine ev_bp f_J6_numberOfLeadingZeros_0f7a4 (nx := 31) (v := 16) rfl (by decide) rfl ?_
      refine ev_anyIE f_J6_numberOfLeadingZeros_0f7a4 (nx := 32) rfl rfl rfl rfl (fun z50 e50 => ?_)
      refine ev_loc f_J6_numberOfLeadingZeros_0f7a4 (nx := 33) (lo' := [(0, .int z50), (1, .int 15)]) rfl rfl rfl rfl ?_
      refine ev_loc f_J6_numberOfLeadingZeros_0f7a4 (nx := 34) rfl rfl rfl rfl ?_
      refine ev_sp f_J6_numberOfLeadingZeros_0f7a4 (nx := 37) (v := 256) rfl (by decide) rfl ?_
      refine ev_if f_J6_numberOfLeadingZeros_0f7a4 (t1 := 48) (t2 := 40) rfl rfl rfl (fun h51 => ?_) (fun h51 => ?_)
      · have u52 : z50.toInt ≤ 255 := t_ltu h51 (by decide : (256:Int32).toInt ≤ (256:Int)) rfl
        refine ev_loc f_J6_numberOfLeadingZeros_0f7a4 (nx := 49) rfl rfl rfl rfl ?_
        refine ev_bp f_J6_numberOfLeadingZeros_0f7a4 (nx := 51) (v := 16) rfl (by decide) rfl ?_
        refine ev_if f_J6_numberOfLeadingZeros_0f7a4 (t1 := 61) (t2 := 54) rfl rfl rfl (fun h53 => ?_) (fun h53 => ?_)
        · have u54 : z50.toInt ≤ 15 := t_ltu h53 (by decide : (16:Int32).toInt ≤ (16:Int)) rfl
          refine ev_loc f_J6_numberOfLeadingZeros_0f7a4 (nx := 62) rfl rfl rfl rfl ?_
          refine ev_ic f_J6_numberOfLeadingZeros_0f7a4 (nx := 63) (v := 4) rfl (by decide) rfl ?_
          refine ev_if f_J6_numberOfLeadingZeros_0f7a4 (t1 := 73) (t2 := 66) rfl rfl rfl (fun h55 => ?_) (fun h55 => ?_)
          · have u56 : z50.toInt ≤ 3 := t_ltu h55 (by decide : (4:Int32).toInt ≤ (4:Int)) rfl
            refine ev_loc f_J6_numberOfLeadingZeros_0f7a4 (nx := 74) rfl rfl rfl rfl ?_
            refine ev_loc f_J6_numberOfLeadingZeros_0f7a4 (nx := 75) rfl rfl rfl rfl ?_
            refine ev_ic f_J6_numberOfLeadingZeros_0f7a4 (nx := 76) (v := 1) rfl (by decide) rfl ?_
            refine ev_anyIE f_J6_numberOfLeadingZeros_0f7a4 (nx := 77) rfl rfl rfl rfl (fun z57 e57 => ?_)
            refine ev_anyIE f_J6_numberOfLeadingZeros_0f7a4 (nx := 78) rfl rfl rfl rfl (fun z58 e58 => ?_)
            exact ev_ret f_J6_numberOfLeadingZeros_0f7a4 rfl rfl rfl ⟨_, _, _, rfl, hI, hX, ⟨_, rfl, (t_lo z58), (t_hi z58), (show (0 ≤ z58.toInt ∧ z58.toInt ≤ 32) ∧ (0 < ar0.toInt → s_lg2 ar0.toInt (32 - z58.toInt)) ∧ (ar0.toInt = 0 → z58.toInt = 32) ∧ (ar0.toInt < 0 → z58.toInt = 0) from (by
                                                            have hl : ar0.toInt < 2147483648 := ar0.toInt_lt
                                                            have u31 := t_us (k := 16) e50 (by decide) (by omega)
                                                            have u76 := t_us (k := 1) e57 (by decide) (by omega)
                                                            have ua : (15 : Int32).toInt = 15 := rfl
                                                            have us := s_isub (a := (15 : Int32)) e58 (by omega) (by omega) (by omega) (by omega)
                                                            refine ⟨by omega, fun _ => ?_, fun h => absurd h (by omega), fun h => absurd h (by omega)⟩
                                                            rcases (show z57.toInt = 0 ∨ z57.toInt = 1 by omega) with hz | hz
                                                            · exact s_lg2_k 16 (by omega) (by omega) (by omega)
                                                            · exact s_lg2_k 17 (by omega) (by omega) (by omega)))⟩⟩
          · have l59 : 4 ≤ z50.toInt := t_lel (t_nlt h55) (by decide : (4:Int) ≤ (4:Int32).toInt)
            refine ev_incv f_J6_numberOfLeadingZeros_0f7a4 (nx := 69) (c := -2) (w := 13) (lo' := [(1, .int 13), (0, .int z50)]) rfl rfl (by decide) (by decide) rfl rfl rfl ?_
            refine ev_loc f_J6_numberOfLeadingZeros_0f7a4 (nx := 70) rfl rfl rfl rfl ?_
            refine ev_ic f_J6_numberOfLeadingZeros_0f7a4 (nx := 71) (v := 2) rfl (by decide) rfl ?_
            refine ev_anyIE f_J6_numberOfLeadingZeros_0f7a4 (nx := 72) rfl rfl rfl rfl (fun z60 e60 => ?_)
            refine ev_loc f_J6_numberOfLeadingZeros_0f7a4 (nx := 73) (lo' := [(0, .int z60), (1, .int 13)]) rfl rfl rfl rfl ?_
            refine ev_loc f_J6_numberOfLeadingZeros_0f7a4 (nx := 74) rfl rfl rfl rfl ?_
            refine ev_loc f_J6_numberOfLeadingZeros_0f7a4 (nx := 75) rfl rfl rfl rfl ?_
            refine ev_ic f_J6_numberOfLeadingZeros_0f7a4 (nx := 76) (v := 1) rfl (by decide) rfl ?_
            refine ev_anyIE f_J6_numberOfLeadingZeros_0f7a4 (nx := 77) rfl rfl rfl rfl (fun z61 e61 => ?_)
            refine ev_anyIE f_J6_numberOfLeadingZeros_0f7a4 (nx := 78) rfl rfl rfl rfl (fun z62 e62 => ?_)
            exact ev_ret f_J6_numberOfLeadingZeros_0f7a4 rfl rfl rfl ⟨_, _, _, rfl, hI, hX, ⟨_, rfl, (t_lo z62), (t_hi z62), (show (0 ≤ z62.toInt ∧ z62.toInt ≤ 32) ∧ (0 < ar0.toInt → s_lg2 ar0.toInt (32 - z62.toInt)) ∧ (ar0.toInt = 0 → z62.toInt = 32) ∧ (ar0.toInt < 0 → z62.toInt = 0) from (by
                                                            have hl : ar0.toInt < 2147483648 := ar0.toInt_lt
                                                            have u31 := t_us (k := 16) e50 (by decide) (by omega)
                                                            have u71 := t_us (k := 2) e60 (by decide) (by omega)
                                                            have u76 := t_us (k := 1) e61 (by decide) (by omega)
                                                            have ua : (13 : Int32).toInt = 13 := rfl
                                                            have us := s_isub (a := (13 : Int32)) e62 (by omega) (by omega) (by omega) (by omega)
                                                            refine ⟨by omega, fun _ => ?_, fun h => absurd h (by omega), fun h => absurd h (by omega)⟩
                                                            rcases (show z61.toInt = 0 ∨ z61.toInt = 1 by omega) with hz | hz
                                                            · exact s_lg2_k 18 (by omega) (by omega) (by omega)
                                                            · exact s_lg2_k 19 (by omega) (by omega) (by omega)))⟩⟩
        · have l63 : 16 ≤ z50.toInt := t_lel (t_nlt h53) (by decide : (16:Int) ≤ (16:Int32).toInt)
          refine ev_incv f_J6_numberOfLeadingZeros_0f7a4 (nx := 57) (c := -4) (w := 11) (lo' := [(1, .int 11), (0, .int z50)]) rfl rfl (by decide) (by decide) rfl rfl rfl ?_
          refine ev_loc f_J6_numberOfLeadingZeros_0f7a4 (nx := 58) rfl rfl rfl rfl ?_
          refine ev_ic f_J6_numberOfLeadingZeros_0f7a4 (nx := 59) (v := 4) rfl (by decide) rfl ?_
          refine ev_anyIE f_J6_numberOfLeadingZeros_0f7a4 (nx := 60) rfl rfl rfl rfl (fun z64 e64 => ?_)
          refine ev_loc f_J6_numberOfLeadingZeros_0f7a4 (nx := 61) (lo' := [(0, .int z64), (1, .int 11)]) rfl rfl rfl rfl ?_
          refine ev_loc f_J6_numberOfLeadingZeros_0f7a4 (nx := 62) rfl rfl rfl rfl ?_
          refine ev_ic f_J6_numberOfLeadingZeros_0f7a4 (nx := 63) (v := 4) rfl (by decide) rfl ?_
          refine ev_if f_J6_numberOfLeadingZeros_0f7a4 (t1 := 73) (t2 := 66) rfl rfl rfl (fun h65 => ?_) (fun h65 => ?_)
          · have u66 : z64.toInt ≤ 3 := t_ltu h65 (by decide : (4:Int32).toInt ≤ (4:Int)) rfl
            refine ev_loc f_J6_numberOfLeadingZeros_0f7a4 (nx := 74) rfl rfl rfl rfl ?_
            refine ev_loc f_J6_numberOfLeadingZeros_0f7a4 (nx := 75) rfl rfl rfl rfl ?_
            refine ev_ic f_J6_numberOfLeadingZeros_0f7a4 (nx := 76) (v := 1) rfl (by decide) rfl ?_
            refine ev_anyIE f_J6_numberOfLeadingZeros_0f7a4 (nx := 77) rfl rfl rfl rfl (fun z67 e67 => ?_)
            refine ev_anyIE f_J6_numberOfLeadingZeros_0f7a4 (nx := 78) rfl rfl rfl rfl (fun z68 e68 => ?_)
            exact ev_ret f_J6_numberOfLeadingZeros_0f7a4 rfl rfl rfl ⟨_, _, _, rfl, hI, hX, ⟨_, rfl, (t_lo z68), (t_hi z68), (show (0 ≤ z68.toInt ∧ z68.toInt ≤ 32) ∧ (0 < ar0.toInt → s_lg2 ar0.toInt (32 - z68.toInt)) ∧ (ar0.toInt = 0 → z68.toInt = 32) ∧ (ar0.toInt < 0 → z68.toInt = 0) from (by
                                                            have hl : ar0.toInt < 2147483648 := ar0.toInt_lt
                                                            have u31 := t_us (k := 16) e50 (by decide) (by omega)
                                                            have u59 := t_us (k := 4) e64 (by decide) (by omega)
                                                            have u76 := t_us (k := 1) e67 (by decide) (by omega)
                                                            have ua : (11 : Int32).toInt = 11 := rfl
                                                            have us := s_isub (a := (11 : Int32)) e68 (by omega) (by omega) (by omega) (by omega)
                                                            refine ⟨by omega, fun _ => ?_, fun h => absurd h (by omega), fun h => absurd h (by omega)⟩
                                                            rcases (show z67.toInt = 0 ∨ z67.toInt = 1 by omega) with hz | hz
                                                            · exact s_lg2_k 20 (by omega) (by omega) (by omega)
                                                            · exact s_lg2_k 21 (by omega) (by omega) (by omega)))⟩⟩
          · have l69 : 4 ≤ z64.toInt := t_lel (t_nlt h65) (by decide : (4:Int) ≤ (4:Int32).toInt)
            refine ev_incv f_J6_numberOfLeadingZeros_0f7a4 (nx := 69) (c := -2) (w := 9) (lo' := [(1, .int 9), (0, .int z64)]) rfl rfl (by decide) (by decide) rfl rfl rfl ?_
            refine ev_loc f_J6_numberOfLeadingZeros_0f7a4 (nx := 70) rfl rfl rfl rfl ?_
            refine ev_ic f_J6_numberOfLeadingZeros_0f7a4 (nx := 71) (v := 2) rfl (by decide) rfl ?_
            refine ev_anyIE f_J6_numberOfLeadingZeros_0f7a4 (nx := 72) rfl rfl rfl rfl (fun z70 e70 => ?_)
            refine ev_loc f_J6_numberOfLeadingZeros_0f7a4 (nx := 73) (lo' := [(0, .int z70), (1, .int 9)]) rfl rfl rfl rfl ?_
            refine ev_loc f_J6_numberOfLeadingZeros_0f7a4 (nx := 74) rfl rfl rfl rfl ?_
            refine ev_loc f_J6_numberOfLeadingZeros_0f7a4 (nx := 75) rfl rfl rfl rfl ?_
            refine ev_ic f_J6_numberOfLeadingZeros_0f7a4 (nx := 76) (v := 1) rfl (by decide) rfl ?_
            refine ev_anyIE f_J6_numberOfLeadingZeros_0f7a4 (nx := 77) rfl rfl rfl rfl (fun z71 e71 => ?_)
            refine ev_anyIE f_J6_numberOfLeadingZeros_0f7a4 (nx := 78) rfl rfl rfl rfl (fun z72 e72 => ?_)
            exact ev_ret f_J6_numberOfLeadingZeros_0f7a4 rfl rfl rfl ⟨_, _, _, rfl, hI, hX, ⟨_, rfl, (t_lo z72), (t_hi z72), (show (0 ≤ z72.toInt ∧ z72.toInt ≤ 32) ∧ (0 < ar0.toInt → s_lg2 ar0.toInt (32 - z72.toInt)) ∧ (ar0.toInt = 0 → z72.toInt = 32) ∧ (ar0.toInt < 0 → z72.toInt = 0) from (by
                                                            have hl : ar0.toInt < 2147483648 := ar0.toInt_lt
                                                            have u31 := t_us (k := 16) e50 (by decide) (by omega)
                                                            have u59 := t_us (k := 4) e64 (by decide) (by omega)
                                                            have u71 := t_us (k := 2) e70 (by decide) (by omega)
                                                            have u76 := t_us (k := 1) e71 (by decide) (by omega)
                                                            have ua : (9 : Int32).toInt = 9 := rfl
                                                            have us := s_isub (a := (9 : Int32)) e72 (by omega) (by omega) (by omega) (by omega)
                                                            refine ⟨by omega, fun _ => ?_, fun h => absurd h (by omega), fun h => absurd h (by omega)⟩
                                                            rcases (show z71.toInt = 0 ∨ z71.toInt = 1 by omega) with hz | hz
                                                            · exact s_lg2_k 22 (by omega) (by omega) (by omega)
                                                            · exact s_lg2_k 23 (by omega) (by omega) (by omega)))⟩⟩
      · have l73 : 256 ≤ z50.toInt := t_lel (t_nlt h51) (by decide : (256:Int) ≤ (256:Int32).toInt)
        refine ev_incv f_J6_numberOfLeadingZeros_0f7a4 (nx := 43) (c := -8) (w := 7) (lo' := [(1, .int 7), (0, .int z50)]) rfl rfl (by decide) (by decide) rfl rfl rfl ?_
        refine ev_loc f_J6_numberOfLeadingZeros_0f7a4 (nx := 44) rfl rfl rfl rfl ?_
        refine ev_bp f_J6_numberOfLeadingZeros_0f7a4 (nx := 46) (v := 8) rfl (by decide) rfl ?_
        refine ev_anyIE f_J6_numberOfLeadingZeros_0f7a4 (nx := 47) rfl rfl rfl rfl (fun z74 e74 => ?_)
        refine ev_loc f_J6_numberOfLeadingZeros_0f7a4 (nx := 48) (lo' := [(0, .int z74), (1, .int 7)]) rfl rfl rfl rfl ?_
        refine ev_loc f_J6_numberOfLeadingZeros_0f7a4 (nx := 49) rfl rfl rfl rfl ?_
        refine ev_bp f_J6_numberOfLeadingZeros_0f7a4 (nx := 51) (v := 16) rfl (by decide) rfl ?_
        refine ev_if f_J6_numberOfLeadingZeros_0f7a4 (t1 := 61) (t2 := 54) rfl rfl rfl (fun h75 => ?_) (fun h75 => ?_)
        · have u76 : z74.toInt ≤ 15 := t_ltu h75 (by decide : (16:Int32).toInt ≤ (16:Int)) rfl
          refine ev_loc f_J6_numberOfLeadingZeros_0f7a4 (nx := 62) rfl rfl rfl rfl ?_
          refine ev_ic f_J6_numberOfLeadingZeros_0f7a4 (nx := 63) (v := 4) rfl (by decide) rfl ?_
          refine ev_if f_J6_numberOfLeadingZeros_0f7a4 (t1 := 73) (t2 := 66) rfl rfl rfl (fun h77 => ?_) (fun h77 => ?_)
          · have u78 : z74.toInt ≤ 3 := t_ltu h77 (by decide : (4:Int32).toInt ≤ (4:Int)) rfl
            refine ev_loc f_J6_numberOfLeadingZeros_0f7a4 (nx := 74) rfl rfl rfl rfl ?_
            refine ev_loc f_J6_numberOfLeadingZeros_0f7a4 (nx := 75) rfl rfl rfl rfl ?_
            refine ev_ic f_J6_numberOfLeadingZeros_0f7a4 (nx := 76) (v := 1) rfl (by decide) rfl ?_
            refine ev_anyIE f_J6_numberOfLeadingZeros_0f7a4 (nx := 77) rfl rfl rfl rfl (fun z79 e79 => ?_)
            refine ev_anyIE f_J6_numberOfLeadingZeros_0f7a4 (nx := 78) rfl rfl rfl rfl (fun z80 e80 => ?_)
            exact ev_ret f_J6_numberOfLeadingZeros_0f7a4 rfl rfl rfl ⟨_, _, _, rfl, hI, hX, ⟨_, rfl, (t_lo z80), (t_hi z80), (show (0 ≤ z80.toInt ∧ z80.toInt ≤ 32) ∧ (0 < ar0.toInt → s_lg2 ar0.toInt (32 - z80.toInt)) ∧ (ar0.toInt = 0 → z80.toInt = 32) ∧ (ar0.toInt < 0 → z80.toInt = 0) from (by
                                                            have hl : ar0.toInt < 2147483648 := ar0.toInt_lt
                                                            have u31 := t_us (k := 16) e50 (by decide) (by omega)
                                                            have u46 := t_us (k := 8) e74 (by decide) (by omega)
                                                            have u76 := t_us (k := 1) e79 (by decide) (by omega)
                                                            have ua : (7 : Int32).toInt = 7 := rfl
                                                            have us := s_isub (a := (7 : Int32)) e80 (by omega) (by omega) (by omega) (by omega)
                                                            refine ⟨by omega, fun _ => ?_, fun h => absurd h (by omega), fun h => absurd h (by omega)⟩
                                                            rcases (show z79.toInt = 0 ∨ z79.toInt = 1 by omega) with hz | hz
                                                            · exact s_lg2_k 24 (by omega) (by omega) (by omega)
                                                            · exact s_lg2_k 25 (by omega) (by omega) (by omega)))⟩⟩
          · have l81 : 4 ≤ z74.toInt := t_lel (t_nlt h77) (by decide : (4:Int) ≤ (4:Int32).toInt)
            refine ev_incv f_J6_numberOfLeadingZeros_0f7a4 (nx := 69) (c := -2) (w := 5) (lo' := [(1, .int 5), (0, .int z74)]) rfl rfl (by decide) (by decide) rfl rfl rfl ?_
            refine ev_loc f_J6_numberOfLeadingZeros_0f7a4 (nx := 70) rfl rfl rfl rfl ?_
            refine ev_ic f_J6_numberOfLeadingZeros_0f7a4 (nx := 71) (v := 2) rfl (by decide) rfl ?_
            refine ev_anyIE f_J6_numberOfLeadingZeros_0f7a4 (nx := 72) rfl rfl rfl rfl (fun z82 e82 => ?_)
            refine ev_loc f_J6_numberOfLeadingZeros_0f7a4 (nx := 73) (lo' := [(0, .int z82), (1, .int 5)]) rfl rfl rfl rfl ?_
            refine ev_loc f_J6_numberOfLeadingZeros_0f7a4 (nx := 74) rfl rfl rfl rfl ?_
            refine ev_loc f_J6_numberOfLeadingZeros_0f7a4 (nx := 75) rfl rfl rfl rfl ?_
            refine ev_ic f_J6_numberOfLeadingZeros_0f7a4 (nx := 76) (v := 1) rfl (by decide) rfl ?_
            refine ev_anyIE f_J6_numberOfLeadingZeros_0f7a4 (nx := 77) rfl rfl rfl rfl (fun z83 e83 => ?_)
            refine ev_anyIE f_J6_numberOfLeadingZeros_0f7a4 (nx := 78) rfl rfl rfl rfl (fun z84 e84 => ?_)
            exact ev_ret f_J6_numberOfLeadingZeros_0f7a4 rfl rfl rfl ⟨_, _, _, rfl, hI, hX, ⟨_, rfl, (t_lo z84), (t_hi z84), (show (0 ≤ z84.toInt ∧ z84.toInt ≤ 32) ∧ (0 < ar0.toInt → s_lg2 ar0.toInt (32 - z84.toInt)) ∧ (ar0.toInt = 0 → z84.toInt = 32) ∧ (ar0.toInt < 0 → z84.toInt = 0) from (by
                                                            have hl : ar0.toInt < 2147483648 := ar0.toInt_lt
                                                            have u31 := t_us (k := 16) e50 (by decide) (by omega)
                                                            have u46 := t_us (k := 8) e74 (by decide) (by omega)
                                                            have u71 := t_us (k := 2) e82 (by decide) (by omega)
                                                            have u76 := t_us (k := 1) e83 (by decide) (by omega)
                                                            have ua : (5 : Int32).toInt = 5 := rfl
                                                            have us := s_isub (a := (5 : Int32)) e84 (by omega) (by omega) (by omega) (by omega)
                                                            refine ⟨by omega, fun _ => ?_, fun h => absurd h (by omega), fun h => absurd h (by omega)⟩
                                                            rcases (show z83.toInt = 0 ∨ z83.toInt = 1 by omega) with hz | hz
                                                            · exact s_lg2_k 26 (by omega) (by omega) (by omega)
                                                            · exact s_lg2_k 27 (by omega) (by omega) (by omega)))⟩⟩
        · have l85 : 16 ≤ z74.toInt := t_lel (t_nlt h75) (by decide : (16:Int) ≤ (16:Int32).toInt)
          refine ev_incv f_J6_numberOfLeadingZeros_0f7a4 (nx := 57) (c := -4) (w := 3) (lo' := [(1, .int 3), (0, .int z74)]) rfl rfl (by decide) (by decide) rfl rfl rfl ?_
          refine ev_loc f_J6_numberOfLeadingZeros_0f7a4 (nx := 58) rfl rfl rfl rfl ?_
          refine ev_ic f_J6_numberOfLeadingZeros_0f7a4 (nx := 59) (v := 4) rfl (by decide) rfl ?_
          refine ev_anyIE f_J6_numberOfLeadingZeros_0f7a4 (nx := 60) rfl rfl rfl rfl (fun z86 e86 => ?_)
          refine ev_loc f_J6_numberOfLeadingZeros_0f7a4 (nx := 61) (lo' := [(0, .int z86), (1, .int 3)]) rfl rfl rfl rfl ?_
          refine ev_loc f_J6_numberOfLeadingZeros_0f7a4 (nx := 62) rfl rfl rfl rfl ?_
          refine ev_ic f_J6_numberOfLeadingZeros_0f7a4 (nx := 63) (v := 4) rfl (by decide) rfl ?_
          refine ev_if f_J6_numberOfLeadingZeros_0f7a4 (t1 := 73) (t2 := 66) rfl rfl rfl (fun h87 => ?_) (fun h87 => ?_)
          · have u88 : z86.toInt ≤ 3 := t_ltu h87 (by decide : (4:Int32).toInt ≤ (4:Int)) rfl
            refine ev_loc f_J6_numberOfLeadingZeros_0f7a4 (nx := 74) rfl rfl rfl rfl ?_
            refine ev_loc f_J6_numberOfLeadingZeros_0f7a4 (nx := 75) rfl rfl rfl rfl ?_
            refine ev_ic f_J6_numberOfLeadingZeros_0f7a4 (nx := 76) (v := 1) rfl (by decide) rfl ?_
            refine ev_anyIE f_J6_numberOfLeadingZeros_0f7a4 (nx := 77) rfl rfl rfl rfl (fun z89 e89 => ?_)
            refine ev_anyIE f_J6_numberOfLeadingZeros_0f7a4 (nx := 78) rfl rfl rfl rfl (fun z90 e90 => ?_)
            exact ev_ret f_J6_numberOfLeadingZeros_0f7a4 rfl rfl rfl ⟨_, _, _, rfl, hI, hX, ⟨_, rfl, (t_lo z90), (t_hi z90), (show (0 ≤ z90.toInt ∧ z90.toInt ≤ 32) ∧ (0 < ar0.toInt → s_lg2 ar0.toInt (32 - z90.toInt)) ∧ (ar0.toInt = 0 → z90.toInt = 32) ∧ (ar0.toInt < 0 → z90.toInt = 0) from (by
                                                            have hl : ar0.toInt < 2147483648 := ar0.toInt_lt
                                                            have u31 := t_us (k := 16) e50 (by decide) (by omega)
                                                            have u46 := t_us (k := 8) e74 (by decide) (by omega)
                                                            have u59 := t_us (k := 4) e86 (by decide) (by omega)
                                                            have u76 := t_us (k := 1) e89 (by decide) (by omega)
                                                            have ua : (3 : Int32).toInt = 3 := rfl
                                                            have us := s_isub (a := (3 : Int32)) e90 (by omega) (by omega) (by omega) (by omega)
                                                            refine ⟨by omega, fun _ => ?_, fun h => absurd h (by omega), fun h => absurd h (by omega)⟩
                                                            rcases (show z89.toInt = 0 ∨ z89.toInt = 1 by omega) with hz | hz
                                                            · exact s_lg2_k 28 (by omega) (by omega) (by omega)
                                                            · exact s_lg2_k 29 (by omega) (by omega) (by omega)))⟩⟩
          · have l91 : 4 ≤ z86.toInt := t_lel (t_nlt h87) (by decide : (4:Int) ≤ (4:Int32).toInt)
            refine ev_incv f_J6_numberOfLeadingZeros_0f7a4 (nx := 69) (c := -2) (w := 1) (lo' := [(1, .int 1), (0, .int z86)]) rfl rfl (by decide) (by decide) rfl rfl rfl ?_
            refine ev_loc f_J6_numberOfLeadingZeros_0f7a4 (nx := 70) rfl rfl rfl rfl ?_
            refine ev_ic f_J6_numberOfLeadingZeros_0f7a4 (nx := 71) (v := 2) rfl (by decide) rfl ?_
            refine ev_anyIE f_J6_numberOfLeadingZeros_0f7a4 (nx := 72) rfl rfl rfl rfl (fun z92 e92 => ?_)
            refine ev_loc f_J6_numberOfLeadingZeros_0f7a4 (nx := 73) (lo' := [(0, .int z92), (1, .int 1)]) rfl rfl rfl rfl ?_
            refine ev_loc f_J6_numberOfLeadingZeros_0f7a4 (nx := 74) rfl rfl rfl rfl ?_
            refine ev_loc f_J6_numberOfLeadingZeros_0f7a4 (nx := 75) rfl rfl rfl rfl ?_
            refine ev_ic f_J6_numberOfLeadingZeros_0f7a4 (nx := 76) (v := 1) rfl (by decide) rfl ?_
            refine ev_anyIE f_J6_numberOfLeadingZeros_0f7a4 (nx := 77) rfl rfl rfl rfl (fun z93 e93 => ?_)
            refine ev_anyIE f_J6_numberOfLeadingZeros_0f7a4 (nx := 78) rfl rfl rfl rfl (fun z94 e94 => ?_)
            exact ev_ret f_J6_numberOfLeadingZeros_0f7a4 rfl rfl rfl ⟨_, _, _, rfl, hI, hX, ⟨_, rfl, (t_lo z94), (t_hi z94), (show (0 ≤ z94.toInt ∧ z94.toInt ≤ 32) ∧ (0 < ar0.toInt → s_lg2 ar0.toInt (32 - z94.toInt)) ∧ (ar0.toInt = 0 → z94.toInt = 32) ∧ (ar0.toInt < 0 → z94.toInt = 0) from (by
                                                            have hl : ar0.toInt < 2147483648 := ar0.toInt_lt
                                                            have u31 := t_us (k := 16) e50 (by decide) (by omega)
                                                            have u46 := t_us (k := 8) e74 (by decide) (by omega)
                                                            have u59 := t_us (k := 4) e86 (by decide) (by omega)
                                                            have u71 := t_us (k := 2) e92 (by decide) (by omega)
                                                            have u76 := t_us (k := 1) e93 (by decide) (by omega)
                                                            have ua : (1 : Int32).toInt = 1 := rfl
                                                            have us := s_isub (a := (1 : Int32)) e94 (by omega) (by omega) (by omega) (by omega)
                                                            refine ⟨by omega, fun _ => ?_, fun h => absurd h (by omega), fun h => absurd h (by omega)⟩
                                                            rcases (show z93.toInt = 0 ∨ z93.toInt = 1 by omega) with hz | hz
                                                            · exact s_lg2_k 30 (by omega) (by omega) (by omega)
                                                            · exact s_lg2_k 31 (by omega) (by omega) (by omega)))⟩⟩
  · have u95 : ar0.toInt ≤ 0 := t_leu (t_nlt h1) (by decide : (0:Int32).toInt ≤ (0:Int))
    refine ev_loc f_J6_numberOfLeadingZeros_0f7a4 (nx := 5) rfl rfl rfl rfl ?_
    refine ev_if f_J6_numberOfLeadingZeros_0f7a4 (t1 := 8) (t2 := 13) rfl rfl rfl (fun h96 => ?_) (fun h96 => ?_)
    · have l97 : 0 ≤ ar0.toInt := t_eql h96 (by decide : (0:Int) ≤ (0:Int32).toInt)
      refine ev_bp f_J6_numberOfLeadingZeros_0f7a4 (nx := 10) (v := 32) rfl (by decide) rfl ?_
      refine ev_jmp f_J6_numberOfLeadingZeros_0f7a4 (nx := 14) rfl rfl rfl ?_
      exact ev_ret f_J6_numberOfLeadingZeros_0f7a4 rfl rfl rfl ⟨_, _, _, rfl, hI, hX, ⟨_, rfl, (Int.le_trans (by decide : ((-2147483648):Int) ≤ 32) (by decide : (32:Int) ≤ (32:Int32).toInt)), (Int.le_trans (by decide : (32:Int32).toInt ≤ (32:Int)) (by decide : (32:Int) ≤ 2147483647)), (show (0 ≤ (32 : Int) ∧ (32 : Int) ≤ 32) ∧ (0 < ar0.toInt → s_lg2 ar0.toInt (32 - (32 : Int))) ∧ (ar0.toInt = 0 → (32 : Int) = 32) ∧ (ar0.toInt < 0 → (32 : Int) = 0) from ⟨by decide, fun h => absurd h (by omega), fun _ => rfl, fun h => absurd h (by omega)⟩)⟩⟩
    · have r98 : ar0.toInt ≠ 0 := fun e => h96 (Int32.toInt_inj.mp (e.trans (by decide : (0:Int) = (0 : Int32).toInt)))
      have u99 : ar0.toInt ≤ (-1) := t_neu h96 u95 rfl rfl
      refine ev_ic f_J6_numberOfLeadingZeros_0f7a4 (nx := 14) (v := 0) rfl (by decide) rfl ?_
      exact ev_ret f_J6_numberOfLeadingZeros_0f7a4 rfl rfl rfl ⟨_, _, _, rfl, hI, hX, ⟨_, rfl, (Int.le_trans (by decide : ((-2147483648):Int) ≤ 0) (by decide : (0:Int) ≤ (0:Int32).toInt)), (Int.le_trans (by decide : (0:Int32).toInt ≤ (0:Int)) (by decide : (0:Int) ≤ 2147483647)), (show (0 ≤ (0 : Int) ∧ (0 : Int) ≤ 32) ∧ (0 < ar0.toInt → s_lg2 ar0.toInt (32 - (0 : Int))) ∧ (ar0.toInt = 0 → (0 : Int) = 32) ∧ (ar0.toInt < 0 → (0 : Int) = 0) from ⟨by decide, fun h => absurd h (by omega), fun h => absurd h (by omega), fun _ => rfl⟩)⟩⟩
noncomputable def wl_j_nlzl : List (Nat × Nat) := []
noncomputable def Q_j_nlzl (gi : Nat → Nat → Int32) (gl : Nat → Nat → Int64) (gr : Nat → Nat → Value) (ar0 : Int64) : Int32 → (Nat → Nat → Int32) → (Nat → Nat → Int64) → (Nat → Nat → Value) → Prop := fun (v : Int32) (gi2 : Nat → Nat → Int32) (gl2 : Nat → Nat → Int64) (gr2 : Nat → Nat → Value) => 0 ≤ ar0.toInt → (0 ≤ v.toInt ∧ v.toInt ≤ 64) ∧ s_lg2 ar0.toInt (64 - v.toInt)
theorem c_j_nlzl {X : x_Ext} {d : Nat} {sh : List (Nat ⊕ (Nat × Nat))} {gi : Nat → Nat → Int32} {gl : Nat → Nat → Int64} {gr : Nat → Nat → Value} (hI : t_I sh gi gr) (ar0 : Int64) : x_Me X (d + 2) n_J13_numberOfLeadingZeros_95d88 [.long ar0] (sh, gi, gl, gr) (t_PI wl_j_nlzl sh gi gl gr (-2147483648) 2147483647 (Q_j_nlzl gi gl gr ar0)) := by
  have hX : t_X wl_j_nlzl sh gi gl gr gi gl gr := t_X.rf
  refine me_s f_J13_numberOfLeadingZeros_95d88 rfl rfl ?_
  refine ev_loc f_J13_numberOfLeadingZeros_95d88 (nx := 1) rfl rfl rfl rfl ?_
  refine ev_bp f_J13_numberOfLeadingZeros_95d88 (nx := 3) (v := 32) rfl (by decide) rfl ?_
  refine ev_anyLE f_J13_numberOfLeadingZeros_95d88 (nx := 4) rfl rfl rfl rfl (fun z1 e1 => ?_)
  refine ev_anyIE f_J13_numberOfLeadingZeros_95d88 (nx := 5) rfl rfl rfl rfl (fun z2 e2 => ?_)
  refine ev_loc f_J13_numberOfLeadingZeros_95d88 (nx := 6) (lo' := [(2, .int z2), (0, .long ar0)]) rfl rfl rfl rfl ?_
  refine ev_loc f_J13_numberOfLeadingZeros_95d88 (nx := 7) rfl rfl rfl rfl ?_
  refine ev_if f_J13_numberOfLeadingZeros_95d88 (t1 := 10) (t2 := 21) rfl rfl rfl (fun h3 => ?_) (fun h3 => ?_)
  · have u4 : z2.toInt ≤ 0 := t_equ h3 (by decide : (0:Int32).toInt ≤ (0:Int))
    have l5 : 0 ≤ z2.toInt := t_eql h3 (by decide : (0:Int) ≤ (0:Int32).toInt)
    refine ev_bp f_J13_numberOfLeadingZeros_95d88 (nx := 12) (v := 32) rfl (by decide) rfl ?_
    refine ev_loc f_J13_numberOfLeadingZeros_95d88 (nx := 13) rfl rfl rfl rfl ?_
    refine ev_anyIE f_J13_numberOfLeadingZeros_95d88 (nx := 14) rfl rfl rfl rfl (fun z6 e6 => ?_)
    refine ev_qI0 f_J13_numberOfLeadingZeros_95d88 (nx := 17) (r := [.int 32]) rfl rfl rfl rfl rfl rfl rfl (c_j_nlz hI (z6)) rfl (fun w7 l7 u7 q7 => ?_)
    have q7 : (0 ≤ w7.toInt ∧ w7.toInt ≤ 32) ∧ (0 < z6.toInt → s_lg2 z6.toInt (32 - w7.toInt)) ∧ (z6.toInt = 0 → w7.toInt = 32) ∧ (z6.toInt < 0 → w7.toInt = 0) := q7
    refine ev_anyIE f_J13_numberOfLeadingZeros_95d88 (nx := 18) rfl rfl rfl rfl (fun z8 e8 => ?_)
    refine ev_jmp f_J13_numberOfLeadingZeros_95d88 (nx := 25) rfl rfl rfl ?_
    exact ev_ret f_J13_numberOfLeadingZeros_95d88 rfl rfl rfl ⟨_, _, _, rfl, hI, hX, ⟨_, rfl, (t_lo z8), (t_hi z8), (show 0 ≤ ar0.toInt → (0 ≤ z8.toInt ∧ z8.toInt ≤ 64) ∧ s_lg2 ar0.toInt (64 - z8.toInt) from (by
                                                            intro h0
                                                            have uz := t_us64 (k := 32) e1 (by decide) h0
                                                            have e32 : (2 : Int) ^ 32 = 4294967296 := by decide
                                                            rw [e32] at uz
                                                            have ux := t_l2iB e2
                                                            have hl : ar0.toInt < 9223372036854775808 := ar0.toInt_lt
                                                            rw [uz, Int.bmod_eq_of_le (by omega) (by omega)] at ux
                                                            have uy := t_l2iB e6
                                                            have hq := q7
                                                            have u32 : (32 : Int32).toInt = 32 := rfl
                                                            have ua := s_iadd (a := 32) e8 (by omega) (by omega) hq.1.1 (by omega)
                                                            have hh : ar0.toInt < 4294967296 := by omega
                                                            refine ⟨by omega, ?_⟩
                                                            by_cases h1 : ar0.toInt < 2147483648
                                                            · rw [Int.bmod_eq_of_le (by omega) (by omega)] at uy
                                                              by_cases h2 : ar0.toInt = 0
                                                              · have h3 := hq.2.2.1 (by omega)
                                                                rw [h2]; exact s_lg2_w s_lg2_0 (by omega)
                                                              · have h3 := hq.2.1 (by omega)
                                                                rw [uy] at h3; exact s_lg2_w h3 (by omega)
                                                            · have h3 : Int.bmod ar0.toInt 4294967296 = ar0.toInt - 4294967296 := by rw [Int.bmod_def]; omega
                                                              have h4 := hq.2.2.2 (by omega)
                                                              exact s_lg2_k 31 (by omega) (by omega) (by omega)))⟩⟩
  · have r9 : z2.toInt ≠ 0 := fun e => h3 (Int32.toInt_inj.mp (e.trans (by decide : (0:Int) = (0 : Int32).toInt)))
    refine ev_loc f_J13_numberOfLeadingZeros_95d88 (nx := 22) rfl rfl rfl rfl ?_
    refine ev_qI0 f_J13_numberOfLeadingZeros_95d88 (nx := 25) (r := []) rfl rfl rfl rfl rfl rfl rfl (c_j_nlz hI (z2)) rfl (fun w10 l10 u10 q10 => ?_)
    have q10 : (0 ≤ w10.toInt ∧ w10.toInt ≤ 32) ∧ (0 < z2.toInt → s_lg2 z2.toInt (32 - w10.toInt)) ∧ (z2.toInt = 0 → w10.toInt = 32) ∧ (z2.toInt < 0 → w10.toInt = 0) := q10
    exact ev_ret f_J13_numberOfLeadingZeros_95d88 rfl rfl rfl ⟨_, _, _, rfl, hI, hX, ⟨_, rfl, l10, u10, (show 0 ≤ ar0.toInt → (0 ≤ w10.toInt ∧ w10.toInt ≤ 64) ∧ s_lg2 ar0.toInt (64 - w10.toInt) from (by
                                                            intro h0
                                                            have uz := t_us64 (k := 32) e1 (by decide) h0
                                                            have e32 : (2 : Int) ^ 32 = 4294967296 := by decide
                                                            rw [e32] at uz
                                                            have ux := t_l2iB e2
                                                            have hl : ar0.toInt < 9223372036854775808 := ar0.toInt_lt
                                                            rw [uz, Int.bmod_eq_of_le (by omega) (by omega)] at ux
                                                            have hq := q10
                                                            have h3 := hq.2.1 (by omega)
                                                            rw [ux] at h3
                                                            exact ⟨by omega, s_lg2_w (s_lg2_hi h3 (by omega)) (by omega)⟩))⟩⟩
noncomputable def wl_d_lasts : List (Nat × Nat) := [(0, 0)]
noncomputable def Q_d_lasts (gi : Nat → Nat → Int32) (gl : Nat → Nat → Int64) (gr : Nat → Nat → Value) (ar1 : Int32) : Int32 → (Nat → Nat → Int32) → (Nat → Nat → Int64) → (Nat → Nat → Value) → Prop := fun (v : Int32) (gi2 : Nat → Nat → Int32) (gl2 : Nat → Nat → Int64) (gr2 : Nat → Nat → Value) => ∀ (u : Nat) (D : s_D), gr 0 6 = .ref u → t_VL gr u → t_CV gi gl u D → t_Cb D → ((0 ≤ ar1.toInt ∧ ar1.toInt < D 0) → 0 ≤ (s_hd D ar1.toInt).toInt → s_lg2 (s_hd D ar1.toInt).toInt v.toInt) ∧ (¬ (0 ≤ ar1.toInt ∧ ar1.toInt < D 0) → v.toInt = -1)
theorem c_d_lasts {X : x_Ext} {d : Nat} {sh : List (Nat ⊕ (Nat × Nat))} {gi : Nat → Nat → Int32} {gl : Nat → Nat → Int64} {gr : Nat → Nat → Value} (hI : t_I sh gi gr) (ar1 : Int32) : x_Me X (d + 3) n_X11_lasts [.ref 0, .int ar1] (sh, gi, gl, gr) (t_PI wl_d_lasts sh gi gl gr (-2147483648) 2147483647 (Q_d_lasts gi gl gr ar1)) := by
  have hX : t_X wl_d_lasts sh gi gl gr gi gl gr := t_X.rf
  refine me_i f_X11_lasts (hI.wf.s rfl) rfl rfl rfl ?_
  refine ev_loc f_X11_lasts (nx := 1) rfl rfl rfl rfl ?_
  refine ev_loc f_X11_lasts (nx := 2) rfl rfl rfl rfl ?_
  refine ev_inV2 f_X11_lasts (nx := 5) (lo2 := [(0, .ref 0), (1, .int ar1)]) rfl rfl rfl rfl f_X11_isPort (hI.wf.s rfl) rfl rfl rfl rfl rfl ?_
  refine ev_loc f_X11_isPort (nx := 1) rfl rfl rfl rfl ?_
  refine ev_if f_X11_isPort (t1 := 19) (t2 := 4) rfl rfl rfl (fun h1 => ?_) (fun h1 => ?_)
  · have u2 : ar1.toInt ≤ (-1) := t_ltu h1 (by decide : (0:Int32).toInt ≤ (0:Int)) rfl
    refine ev_ic f_X11_isPort (nx := 20) (v := 0) rfl (by decide) rfl ?_
    refine ev_retK1 f_X11_isPort rfl rfl rfl ?_
    refine ev_t f_X11_lasts (t1 := 8) (t2 := 14) rfl rfl rfl (by decide) ?_
    refine ev_loc f_X11_lasts (nx := 9) rfl rfl rfl rfl ?_
    refine ev_ic f_X11_lasts (nx := 10) (v := 1) rfl (by decide) rfl ?_
    refine ev_inV2 f_X11_lasts (nx := 13) (lo2 := [(0, .ref 0), (1, .int 1)]) rfl rfl rfl rfl f_X11_refuse (hI.wf.s rfl) rfl rfl rfl rfl rfl ?_
    refine ev_loc f_X11_refuse (nx := 1) rfl rfl rfl rfl ?_
    refine ev_loc f_X11_refuse (nx := 2) rfl rfl rfl rfl ?_
    refine ev_putIT f_X11_refuse (nx := 5) rfl (hI.wf.s rfl) rfl rfl rfl (hI.put0 (hI.wf.s rfl) rfl rfl) (hX.upI rfl) (fun g3 e3 hI hX => ?_)
    refine ev_ic f_X11_refuse (nx := 6) (v := -1) rfl (by decide) rfl ?_
    refine ev_retK1 f_X11_refuse rfl rfl rfl ?_
    exact ev_ret f_X11_lasts rfl rfl rfl ⟨_, _, _, rfl, hI, hX, ⟨_, rfl, (Int.le_trans (by decide : ((-2147483648):Int) ≤ (-1)) (by decide : ((-1):Int) ≤ ((-1):Int32).toInt)), (Int.le_trans (by decide : ((-1):Int32).toInt ≤ ((-1):Int)) (by decide : ((-1):Int) ≤ 2147483647)), (show ∀ (u : Nat) (D : s_D), gr 0 6 = .ref u → t_VL gr u → t_CV gi gl u D → t_Cb D → ((0 ≤ ar1.toInt ∧ ar1.toInt < D 0) → 0 ≤ (s_hd D ar1.toInt).toInt → s_lg2 (s_hd D ar1.toInt).toInt ((-1) : Int)) ∧ (¬ (0 ≤ ar1.toInt ∧ ar1.toInt < D 0) → ((-1) : Int) = -1) from (by
                                                            intro u D hu hl hc hb
                                                            have hm := hc.1.1
                                                            exact ⟨fun h => absurd h (by omega), fun _ => rfl⟩))⟩⟩
  · have l4 : 0 ≤ ar1.toInt := t_lel (t_nlt h1) (by decide : (0:Int) ≤ (0:Int32).toInt)
    refine ev_loc f_X11_isPort (nx := 5) rfl rfl rfl rfl ?_
    refine ev_loc f_X11_isPort (nx := 6) rfl rfl rfl rfl ?_
    obtain ⟨a5, e5, p5⟩ := hI.2.2.2.1.1
    refine ev_getR f_X11_isPort (nx := 9) rfl (hI.wf.s rfl) rfl rfl e5 rfl rfl ?_
    refine ev_getI f_X11_isPort (nx := 12) rfl p5.1 rfl rfl rfl ?_
    obtain ⟨l6, u6⟩ := hI.b p5.1 (t_bdK rfl : t_bd 4 0 = some (0, 6))
    refine ev_if f_X11_isPort (t1 := 19) (t2 := 15) rfl rfl rfl (fun h7 => ?_) (fun h7 => ?_)
    · have r8 : (gi a5 0).toInt ≤ ar1.toInt := Int32.le_iff_toInt_le.mp h7
      refine ev_ic f_X11_isPort (nx := 20) (v := 0) rfl (by decide) rfl ?_
      refine ev_retK1 f_X11_isPort rfl rfl rfl ?_
      refine ev_t f_X11_lasts (t1 := 8) (t2 := 14) rfl rfl rfl (by decide) ?_
      refine ev_loc f_X11_lasts (nx := 9) rfl rfl rfl rfl ?_
      refine ev_ic f_X11_lasts (nx := 10) (v := 1) rfl (by decide) rfl ?_
      refine ev_inV2 f_X11_lasts (nx := 13) (lo2 := [(0, .ref 0), (1, .int 1)]) rfl rfl rfl rfl f_X11_refuse (hI.wf.s rfl) rfl rfl rfl rfl rfl ?_
      refine ev_loc f_X11_refuse (nx := 1) rfl rfl rfl rfl ?_
      refine ev_loc f_X11_refuse (nx := 2) rfl rfl rfl rfl ?_
      refine ev_putIT f_X11_refuse (nx := 5) rfl (hI.wf.s rfl) rfl rfl rfl (hI.put0 (hI.wf.s rfl) rfl rfl) (hX.upI rfl) (fun g9 e9 hI hX => ?_)
      refine ev_ic f_X11_refuse (nx := 6) (v := -1) rfl (by decide) rfl ?_
      refine ev_retK1 f_X11_refuse rfl rfl rfl ?_
      exact ev_ret f_X11_lasts rfl rfl rfl ⟨_, _, _, rfl, hI, hX, ⟨_, rfl, (Int.le_trans (by decide : ((-2147483648):Int) ≤ (-1)) (by decide : ((-1):Int) ≤ ((-1):Int32).toInt)), (Int.le_trans (by decide : ((-1):Int32).toInt ≤ ((-1):Int)) (by decide : ((-1):Int) ≤ 2147483647)), (show ∀ (u : Nat) (D : s_D), gr 0 6 = .ref u → t_VL gr u → t_CV gi gl u D → t_Cb D → ((0 ≤ ar1.toInt ∧ ar1.toInt < D 0) → 0 ≤ (s_hd D ar1.toInt).toInt → s_lg2 (s_hd D ar1.toInt).toInt ((-1) : Int)) ∧ (¬ (0 ≤ ar1.toInt ∧ ar1.toInt < D 0) → ((-1) : Int) = -1) from (by
                                                            intro u D hu hl hc hb
                                                            have ha : a5 = u := Value.ref.inj (e5.symm.trans hu)
                                                            subst ha
                                                            have hm := hc.1.1
                                                            exact ⟨fun h => absurd h (by omega), fun _ => rfl⟩))⟩⟩
    · have r10 : ar1.toInt < (gi a5 0).toInt := Int32.lt_iff_toInt_lt.mp (t_nle h7)
      have u11 : ar1.toInt ≤ 5 := t_ltu (t_nle h7) u6 rfl
      have l12 : 1 ≤ (gi a5 0).toInt := t_ltl (t_nle h7) l4 rfl
      refine ev_ic f_X11_isPort (nx := 16) (v := 1) rfl (by decide) rfl ?_
      refine ev_jmp f_X11_isPort (nx := 20) rfl rfl rfl ?_
      refine ev_retK1 f_X11_isPort rfl rfl rfl ?_
      refine ev_f f_X11_lasts (t1 := 8) (t2 := 14) rfl rfl rfl (by decide) ?_
      refine ev_loc f_X11_lasts (nx := 15) rfl rfl rfl rfl ?_
      refine ev_bp f_X11_lasts (nx := 17) (v := 64) rfl (by decide) rfl ?_
      refine ev_loc f_X11_lasts (nx := 18) rfl rfl rfl rfl ?_
      refine ev_getR f_X11_lasts (nx := 21) (v := .ref a5) rfl (hI.wf.s rfl) rfl rfl e5 rfl rfl ?_
      refine ev_loc f_X11_lasts (nx := 22) rfl rfl rfl rfl ?_
      refine ev_qL0 f_X11_lasts (nx := 25) (r := [.int 64, .ref 0]) rfl rfl rfl rfl rfl rfl rfl (c_d_heardOf hI (a5) p5 (ar1)) rfl (fun w13 q13 => ?_)
      have q13 : ∀ D : s_D, t_VL gr a5 → t_CV gi gl a5 D → w13 = s_hd D ar1.toInt := q13
      refine ev_qI0 f_X11_lasts (nx := 28) (r := [.int 64, .ref 0]) rfl rfl rfl rfl rfl rfl rfl (c_j_nlzl hI (w13)) rfl (fun w14 l14 u14 q14 => ?_)
      have q14 : 0 ≤ w13.toInt → (0 ≤ w14.toInt ∧ w14.toInt ≤ 64) ∧ s_lg2 w13.toInt (64 - w14.toInt) := q14
      refine ev_anyIE f_X11_lasts (nx := 29) rfl rfl rfl rfl (fun z15 e15 => ?_)
      refine ev_inV2 f_X11_lasts (nx := 32) (lo2 := [(0, .ref 0), (1, .int z15)]) rfl rfl rfl rfl f_X11_answer (hI.wf.s rfl) rfl rfl rfl rfl rfl ?_
      refine ev_loc f_X11_answer (nx := 1) rfl rfl rfl rfl ?_
      refine ev_ic f_X11_answer (nx := 2) (v := 0) rfl (by decide) rfl ?_
      refine ev_putIT f_X11_answer (nx := 5) rfl (hI.wf.s rfl) rfl rfl rfl (hI.put0 (hI.wf.s rfl) rfl rfl) (hX.upI rfl) (fun g16 e16 hI hX => ?_)
      refine ev_loc f_X11_answer (nx := 6) rfl rfl rfl rfl ?_
      refine ev_retK1 f_X11_answer rfl rfl rfl ?_
      exact ev_ret f_X11_lasts rfl rfl rfl ⟨_, _, _, rfl, hI, hX, ⟨_, rfl, (t_lo z15), (t_hi z15), (show ∀ (u : Nat) (D : s_D), gr 0 6 = .ref u → t_VL gr u → t_CV gi gl u D → t_Cb D → ((0 ≤ ar1.toInt ∧ ar1.toInt < D 0) → 0 ≤ (s_hd D ar1.toInt).toInt → s_lg2 (s_hd D ar1.toInt).toInt z15.toInt) ∧ (¬ (0 ≤ ar1.toInt ∧ ar1.toInt < D 0) → z15.toInt = -1) from (by
                                                            intro u D hu hl hc hb
                                                            have ha : a5 = u := Value.ref.inj (e5.symm.trans hu)
                                                            subst ha
                                                            have hm := hc.1.1
                                                            refine ⟨fun _ hz => ?_, fun h => absurd (show _ from ⟨by omega, by omega⟩) h⟩
                                                            have hh := q13 D hl hc
                                                            rw [← hh] at hz ⊢
                                                            have hq := q14 hz
                                                            have u64 : (64 : Int32).toInt = 64 := rfl
                                                            have us := s_isub (a := 64) e15 (by omega) (by omega) hq.1.1 hq.1.2
                                                            exact s_lg2_w hq.2 (by omega)))⟩⟩
noncomputable def wl_e_lasts : List (Nat × Nat) := [(69, 2)]
noncomputable def Q_e_lasts (gi : Nat → Nat → Int32) (gl : Nat → Nat → Int64) (gr : Nat → Nat → Value) (ar1 : Int32) : Int32 → (Nat → Nat → Int32) → (Nat → Nat → Int64) → (Nat → Nat → Value) → Prop := fun (v : Int32) (gi2 : Nat → Nat → Int32) (gl2 : Nat → Nat → Int64) (gr2 : Nat → Nat → Value) => ∀ D : s_D, t_ME 0 gi D → t_Cb D → ((0 ≤ ar1.toInt ∧ ar1.toInt < D 0) → 0 ≤ (s_hd D ar1.toInt).toInt ∧ s_lg2 (s_hd D ar1.toInt).toInt v.toInt) ∧ (¬ (0 ≤ ar1.toInt ∧ ar1.toInt < D 0) → v.toInt = -1)
theorem c_e_lasts {X : x_Ext} {d : Nat} {sh : List (Nat ⊕ (Nat × Nat))} {gi : Nat → Nat → Int32} {gl : Nat → Nat → Int64} {gr : Nat → Nat → Value} (hI : t_I sh gi gr) (ar1 : Int32) : x_Me X (d + 4) n_X12_lasts [.ref 69, .int ar1] (sh, gi, gl, gr) (t_PI wl_e_lasts sh gi gl gr (-1) 34 (Q_e_lasts gi gl gr ar1)) := by
  have hX : t_X wl_e_lasts sh gi gl gr gi gl gr := t_X.rf
  refine me_i f_X12_lasts (hI.wf.s rfl) rfl rfl rfl ?_
  refine ev_loc f_X12_lasts (nx := 1) rfl rfl rfl rfl ?_
  refine ev_loc f_X12_lasts (nx := 2) rfl rfl rfl rfl ?_
  refine ev_inV2 f_X12_lasts (nx := 5) (lo2 := [(0, .ref 69), (1, .int ar1)]) rfl rfl rfl rfl f_X12_isPort (hI.wf.s rfl) rfl rfl rfl rfl rfl ?_
  refine ev_loc f_X12_isPort (nx := 1) rfl rfl rfl rfl ?_
  refine ev_if f_X12_isPort (t1 := 18) (t2 := 4) rfl rfl rfl (fun h1 => ?_) (fun h1 => ?_)
  · have u2 : ar1.toInt ≤ (-1) := t_ltu h1 (by decide : (0:Int32).toInt ≤ (0:Int)) rfl
    refine ev_ic f_X12_isPort (nx := 19) (v := 0) rfl (by decide) rfl ?_
    refine ev_retK1 f_X12_isPort rfl rfl rfl ?_
    refine ev_t f_X12_lasts (t1 := 8) (t2 := 14) rfl rfl rfl (by decide) ?_
    refine ev_loc f_X12_lasts (nx := 9) rfl rfl rfl rfl ?_
    refine ev_ic f_X12_lasts (nx := 10) (v := 1) rfl (by decide) rfl ?_
    refine ev_inV2 f_X12_lasts (nx := 13) (lo2 := [(0, .ref 69), (1, .int 1)]) rfl rfl rfl rfl f_X12_refuse (hI.wf.s rfl) rfl rfl rfl rfl rfl ?_
    refine ev_loc f_X12_refuse (nx := 1) rfl rfl rfl rfl ?_
    refine ev_loc f_X12_refuse (nx := 2) rfl rfl rfl rfl ?_
    refine ev_putIT f_X12_refuse (nx := 5) rfl (hI.wf.s rfl) rfl rfl rfl (hI.put0 (hI.wf.s rfl) rfl rfl) (hX.upI rfl) (fun g3 e3 hI hX => ?_)
    refine ev_ic f_X12_refuse (nx := 6) (v := -1) rfl (by decide) rfl ?_
    refine ev_retK1 f_X12_refuse rfl rfl rfl ?_
    exact ev_ret f_X12_lasts rfl rfl rfl ⟨_, _, _, rfl, hI, hX, ⟨_, rfl, (by decide : ((-1):Int) ≤ ((-1):Int32).toInt), (Int.le_trans (by decide : ((-1):Int32).toInt ≤ ((-1):Int)) (by decide : ((-1):Int) ≤ 34)), (show ∀ D : s_D, t_ME 0 gi D → t_Cb D → ((0 ≤ ar1.toInt ∧ ar1.toInt < D 0) → 0 ≤ (s_hd D ar1.toInt).toInt ∧ s_lg2 (s_hd D ar1.toInt).toInt ((-1) : Int)) ∧ (¬ (0 ≤ ar1.toInt ∧ ar1.toInt < D 0) → ((-1) : Int) = -1) from (by
                                                            intro D hm hb
                                                            have h0 : (gi 70 0).toInt = D 0 := hm.1.1.1
                                                            exact ⟨fun h => absurd h (by omega), fun _ => rfl⟩))⟩⟩
  · have l4 : 0 ≤ ar1.toInt := t_lel (t_nlt h1) (by decide : (0:Int) ≤ (0:Int32).toInt)
    refine ev_loc f_X12_isPort (nx := 5) rfl rfl rfl rfl ?_
    refine ev_loc f_X12_isPort (nx := 6) rfl rfl rfl rfl ?_
    refine ev_getR f_X12_isPort (nx := 9) rfl (hI.wf.s rfl) rfl rfl (hI.wf.r rfl) rfl rfl ?_
    refine ev_ic f_X12_isPort (nx := 10) (v := 0) rfl (by decide) rfl ?_
    obtain ⟨l5, u5⟩ := hI.ab (by decide +kernel : t_abr 70 0 0 0 6 = true) (Nat.le_refl _) (Nat.le_refl _)
    refine ev_ialdv f_X12_isPort (nx := 11) (w := (gi 70 0)) rfl (hI.wf.s rfl) (by decide) (rfl : (0 : Int32).toNatClampNeg = 0) (by decide) rfl rfl ?_
    refine ev_if f_X12_isPort (t1 := 18) (t2 := 14) rfl rfl rfl (fun h6 => ?_) (fun h6 => ?_)
    · have r7 : (gi 70 0).toInt ≤ ar1.toInt := Int32.le_iff_toInt_le.mp h6
      refine ev_ic f_X12_isPort (nx := 19) (v := 0) rfl (by decide) rfl ?_
      refine ev_retK1 f_X12_isPort rfl rfl rfl ?_
      refine ev_t f_X12_lasts (t1 := 8) (t2 := 14) rfl rfl rfl (by decide) ?_
      refine ev_loc f_X12_lasts (nx := 9) rfl rfl rfl rfl ?_
      refine ev_ic f_X12_lasts (nx := 10) (v := 1) rfl (by decide) rfl ?_
      refine ev_inV2 f_X12_lasts (nx := 13) (lo2 := [(0, .ref 69), (1, .int 1)]) rfl rfl rfl rfl f_X12_refuse (hI.wf.s rfl) rfl rfl rfl rfl rfl ?_
      refine ev_loc f_X12_refuse (nx := 1) rfl rfl rfl rfl ?_
      refine ev_loc f_X12_refuse (nx := 2) rfl rfl rfl rfl ?_
      refine ev_putIT f_X12_refuse (nx := 5) rfl (hI.wf.s rfl) rfl rfl rfl (hI.put0 (hI.wf.s rfl) rfl rfl) (hX.upI rfl) (fun g8 e8 hI hX => ?_)
      refine ev_ic f_X12_refuse (nx := 6) (v := -1) rfl (by decide) rfl ?_
      refine ev_retK1 f_X12_refuse rfl rfl rfl ?_
      exact ev_ret f_X12_lasts rfl rfl rfl ⟨_, _, _, rfl, hI, hX, ⟨_, rfl, (by decide : ((-1):Int) ≤ ((-1):Int32).toInt), (Int.le_trans (by decide : ((-1):Int32).toInt ≤ ((-1):Int)) (by decide : ((-1):Int) ≤ 34)), (show ∀ D : s_D, t_ME 0 gi D → t_Cb D → ((0 ≤ ar1.toInt ∧ ar1.toInt < D 0) → 0 ≤ (s_hd D ar1.toInt).toInt ∧ s_lg2 (s_hd D ar1.toInt).toInt ((-1) : Int)) ∧ (¬ (0 ≤ ar1.toInt ∧ ar1.toInt < D 0) → ((-1) : Int) = -1) from (by
                                                            intro D hm hb
                                                            have h0 : (gi 70 0).toInt = D 0 := hm.1.1.1
                                                            exact ⟨fun h => absurd h (by omega), fun _ => rfl⟩))⟩⟩
    · have r9 : ar1.toInt < (gi 70 0).toInt := Int32.lt_iff_toInt_lt.mp (t_nle h6)
      have u10 : ar1.toInt ≤ 5 := t_ltu (t_nle h6) u5 rfl
      have l11 : 1 ≤ (gi 70 0).toInt := t_ltl (t_nle h6) l4 rfl
      refine ev_ic f_X12_isPort (nx := 15) (v := 1) rfl (by decide) rfl ?_
      refine ev_jmp f_X12_isPort (nx := 19) rfl rfl rfl ?_
      refine ev_retK1 f_X12_isPort rfl rfl rfl ?_
      refine ev_f f_X12_lasts (t1 := 8) (t2 := 14) rfl rfl rfl (by decide) ?_
      refine ev_ic f_X12_lasts (nx := 15) (v := 0) rfl (by decide) rfl ?_
      refine ev_loc f_X12_lasts (nx := 16) (lo' := [(2, .int 0), (0, .ref 69), (1, .int ar1)]) rfl rfl rfl rfl ?_
      refine ev_loc f_X12_lasts (nx := 17) rfl rfl rfl rfl ?_
      refine ev_loc f_X12_lasts (nx := 18) rfl rfl rfl rfl ?_
      refine ev_qL0 f_X12_lasts (nx := 21) (r := []) rfl rfl rfl rfl rfl rfl rfl (c_n_heardOf hI (ar1) l4 u10) rfl (fun w12 q12 => ?_)
      have q12 : (0 ≤ w12.toInt ∧ w12.toInt < 8589934592) ∧ ∀ D : s_D, t_ME 0 gi D → ar1.toInt < D 0 → w12 = s_ec (s_so D ar1.toNatClampNeg) (D 7) := q12
      refine ev_loc f_X12_lasts (nx := 22) (lo' := [(3, .long w12), (2, .int 0), (0, .ref 69), (1, .int ar1)]) rfl rfl rfl rfl ?_
      have L13 : ∀ (m13 : Nat) (y13_3 : Int64) (y13_2 : Int32), 0 ≤ y13_2.toInt → y13_2.toInt ≤ 34 → y13_2.toInt ≤ 33 → (∃ h : Int, 0 ≤ h ∧ h < 8589934592 ∧ s_lw h y13_2.toInt y13_3.toInt ∧ ∀ D : s_D, t_ME 0 gi D → ar1.toInt < D 0 → h = (s_hd D ar1.toInt).toInt) → y13_3.toInt.toNat = m13 → x_Ev X (d + 4) n_X12_lasts 22 [(3, .long y13_3), (2, .int y13_2), (0, .ref 69), (1, .int ar1)] [] (sh, gi, gl, gr) (t_PI wl_e_lasts sh gi gl gr (-1) 34 (Q_e_lasts gi gl gr ar1)) := by
        intro m13
        induction m13 using Nat.strongRecOn with
        | _ m13 ih13 =>
        intro y13_3 y13_2 l13_2 u13_2 j13_0 j13_1 hm13
        refine ev_loc f_X12_lasts (nx := 23) rfl rfl rfl rfl ?_
        refine ev_lc f_X12_lasts (nx := 24) (v := 0) rfl (by decide) rfl ?_
        refine ev_anyIE f_X12_lasts (nx := 25) rfl rfl rfl rfl (fun z14 e14 => ?_)
        refine ev_if f_X12_lasts (t1 := 38) (t2 := 28) rfl rfl rfl (fun h15 => ?_) (fun h15 => ?_)
        · have u16 : z14.toInt ≤ 0 := t_leu h15 (by decide : (0:Int32).toInt ≤ (0:Int))
          refine ev_loc f_X12_lasts (nx := 39) rfl rfl rfl rfl ?_
          refine ev_loc f_X12_lasts (nx := 40) rfl rfl rfl rfl ?_
          refine ev_inV2 f_X12_lasts (nx := 43) (lo2 := [(0, .ref 69), (1, .int y13_2)]) rfl rfl rfl rfl f_X12_gives (hI.wf.s rfl) rfl rfl rfl rfl rfl ?_
          refine ev_loc f_X12_gives (nx := 1) rfl rfl rfl rfl ?_
          refine ev_ic f_X12_gives (nx := 2) (v := 0) rfl (by decide) rfl ?_
          refine ev_putIT f_X12_gives (nx := 5) rfl (hI.wf.s rfl) rfl rfl rfl (hI.put0 (hI.wf.s rfl) rfl rfl) (hX.upI rfl) (fun g17 e17 hI hX => ?_)
          refine ev_loc f_X12_gives (nx := 6) rfl rfl rfl rfl ?_
          refine ev_retK1 f_X12_gives rfl rfl rfl ?_
          exact ev_ret f_X12_lasts rfl rfl rfl ⟨_, _, _, rfl, hI, hX, ⟨_, rfl, (Int.le_trans (by decide : ((-1):Int) ≤ 0) l13_2), u13_2, (show ∀ D : s_D, t_ME 0 gi D → t_Cb D → ((0 ≤ ar1.toInt ∧ ar1.toInt < D 0) → 0 ≤ (s_hd D ar1.toInt).toInt ∧ s_lg2 (s_hd D ar1.toInt).toInt y13_2.toInt) ∧ (¬ (0 ≤ ar1.toInt ∧ ar1.toInt < D 0) → y13_2.toInt = -1) from (by
                                                            intro D hm hb
                                                            have h0 : (gi 70 0).toInt = D 0 := hm.1.1.1
                                                            refine ⟨fun hin => ?_, fun h => absurd (show _ from ⟨by omega, by omega⟩) h⟩
                                                            obtain ⟨hh, g0, g1, h2, h3⟩ := j13_1
                                                            have h4 := h3 D hm hin.2
                                                            rw [← h4]
                                                            exact ⟨g0, s_lw_e h2 g0 (t_lgn e14 h15)⟩))⟩⟩
        · have l18 : 1 ≤ z14.toInt := t_ltl (t_nle h15) (by decide : (0:Int) ≤ (0:Int32).toInt) rfl
          refine ev_incR f_X12_lasts (nx := 31) (c := 1) (l := 1) (u := 35) rfl rfl (by decide) (by decide) l13_2 u13_2 rfl rfl (by decide) (by decide) rfl (fun z19 e19 l19 u19 => ?_)
          refine ev_loc f_X12_lasts (nx := 32) rfl rfl rfl rfl ?_
          refine ev_ic f_X12_lasts (nx := 33) (v := 1) rfl (by decide) rfl ?_
          refine ev_anyLE f_X12_lasts (nx := 34) rfl rfl rfl rfl (fun z20 e20 => ?_)
          refine ev_loc f_X12_lasts (nx := 35) (lo' := [(3, .long z20), (2, .int z19), (0, .ref 69), (1, .int ar1)]) rfl rfl rfl rfl ?_
          refine ev_jmp f_X12_lasts (nx := 22) rfl rfl rfl ?_
          refine ev_sub (lo := [(3, .long z20), (2, .int z19), (0, .ref 69), (1, .int ar1)]) rfl (t_sc rfl (t_sc rfl (t_sc rfl (t_sc rfl t_sn)))) ?_
          exact ih13 _ (by have := t_shr1 e14 h15 e20; omega) (z20) (z19) (Int.le_trans (by decide : (0:Int) ≤ 1) l19) (by omega : z19.toInt ≤ (34:Int)) (by obtain ⟨hh, h0, h1, h2, h3⟩ := j13_1; have h4 := s_lw_b2 h2 h0 h1 (t_lgp e14 h15); omega) (by
                                                            obtain ⟨hh, h0, h1, h2, h3⟩ := j13_1
                                                            have hv : 0 < y13_3.toInt := (t_lgp e14 h15)
                                                            refine ⟨hh, h0, h1, s_lw_s h2 h0 hv ?_ (by omega), h3⟩
                                                            have hs := t_sh1B e20
                                                            exact hs) rfl
      refine ev_sub (lo := [(3, .long w12), (2, .int 0), (0, .ref 69), (1, .int ar1)]) rfl (t_sc rfl (t_sc rfl (t_sc rfl (t_sc rfl t_sn)))) ?_
      exact L13 _ (w12) (0) (by decide : (0:Int) ≤ (0:Int32).toInt) (Int.le_trans (by decide : (0:Int32).toInt ≤ (0:Int)) (by decide : (0:Int) ≤ 34)) (by decide) (by
                                                            have hb := q12.1
                                                            refine ⟨w12.toInt, hb.1, hb.2, s_lw_0 _, fun D hm hp => ?_⟩
                                                            exact congrArg Int64.toInt ((q12.2 D hm hp).trans (((s_hd_i (D := D) (p := ar1.toInt) (by omega) hp).trans (by rw [show ar1.toInt.toNat = ar1.toNatClampNeg from (by have := t_clamp (i := ar1) (by omega); omega)])).symm))) rfl
section LSTL
variable {sh : List (Nat ⊕ (Nat × Nat))} {gi g1 g2 : Nat → Nat → Int32} {gl l1 l2 : Nat → Nat → Int64} {gr r1 r2 : Nat → Nat → Value} {w1 : List (Nat × Nat)} {A : Int32} {x1 x2 : Int32}
theorem t_L_lasts (hD : t_DR sh.length gi gl gr) (f1 : t_F w1 gi gl gr g1 l1 r1) (h70 : t_nc w1 70 = true) (q1 : Q_d_lasts gi gl gr A x1 g1 l1 r1) (q2 : Q_e_lasts g1 l1 r1 A x2 g2 l2 r2) : x1 = x2 := by
  obtain ⟨u, D, hu, hl, hc, hb, hm, -⟩ := t_D_0 hD f1 h70
  have k1 := q1 u D hu hl hc hb
  have k2 := q2 D hm hb
  apply Int32.toInt_inj.mp
  by_cases hin : 0 ≤ A.toInt ∧ A.toInt < D 0
  · have h2 := k2.1 hin
    exact s_lg2_u (k1.1 hin h2.1) h2.2
  · rw [k1.2 hin, k2.2 hin]
end LSTL
/-! ===== PARTS: the PORTS whose HEARD lies in a number ===== -/
noncomputable def s_pt (D : s_D) (x : Int64) : Nat → Int32
  | 0 => 0
  | k + 1 => s_if (s_hd D (k : Int) &&& (x ^^^ (-1)) = 0) (s_pt D x k ||| (1 <<< (Int32.ofInt (k : Int) &&& 31))) (s_pt D x k)
section PRT
variable {D : s_D} {x w y w2 : Int64} {v v' m k k' c : Int32}
theorem s_pt_k (k0 : 0 ≤ k.toInt) (kz : k'.toInt = k.toInt + 1) : s_pt D x k'.toNatClampNeg = s_if (s_hd D k.toInt &&& (x ^^^ (-1)) = 0) (s_pt D x k.toNatClampNeg ||| (1 <<< (k &&& 31))) (s_pt D x k.toNatClampNeg) := by
  have c1 := t_clamp (i := k) k0
  have c2 := t_clamp (i := k') (by omega)
  rw [show k'.toNatClampNeg = k.toNatClampNeg + 1 by omega]
  show s_if (s_hd D ((k.toNatClampNeg : Nat) : Int) &&& (x ^^^ (-1)) = 0) (s_pt D x k.toNatClampNeg ||| (1 <<< (Int32.ofInt ((k.toNatClampNeg : Nat) : Int) &&& 31))) (s_pt D x k.toNatClampNeg) = _
  rw [c1, Int32.ofInt_toInt]
theorem s_pt_s1 (hv : v = s_pt D x k.toNatClampNeg) (k0 : 0 ≤ k.toInt) (hw : w = s_hd D k.toInt) (ey : y = x ^^^ (-1)) (ea : w2 = w &&& y) (hz : w2 = 0) (em : m = 1 <<< (k &&& 31)) (eo : v' = v ||| m) (kz : k'.toInt = k.toInt + 1) : v' = s_pt D x k'.toNatClampNeg := by
  rw [s_pt_k k0 kz, s_ifT (by rw [← hw, ← ey, ← ea]; exact hz), eo, em, hv]
theorem s_pt_s0 (hv : v = s_pt D x k.toNatClampNeg) (k0 : 0 ≤ k.toInt) (hw : w = s_hd D k.toInt) (ey : y = x ^^^ (-1)) (ea : w2 = w &&& y) (hz : ¬ w2 = 0) (kz : k'.toInt = k.toInt + 1) : v = s_pt D x k'.toNatClampNeg := by
  rw [s_pt_k k0 kz, s_ifF (by rw [← hw, ← ey, ← ea]; exact hz), hv]
theorem s_or0 (eo : v' = v ||| 0) : v' = v := by
  rw [eo]; apply Int32.toBitVec_inj.mp; show v.toBitVec ||| 0#32 = v.toBitVec; simp
theorem t_lc0 {z : Int64} (ec : c = lg_cmp z 0) (h : c = 0) : z = 0 := (lg_cmp_eq _ _).mp (ec.symm.trans h)
theorem t_lc1 {z : Int64} (ec : c = lg_cmp z 0) (h : ¬ c = 0) : ¬ z = 0 := fun hh => h (ec.trans ((lg_cmp_eq _ _).mpr hh))
end PRT
theorem t_lt1n {v : Int64} {c : Int32} (ec : c = lg_cmp v 1) (h : c < 0) : v.toInt < 1 := by
  have h1 : v < 1 := (lg_cmp_lt v 1).mp (ec ▸ h)
  have := Int64.lt_iff_toInt_lt.mp h1
  have h0 : (1 : Int64).toInt = 1 := rfl
  omega
theorem t_lt1p {v : Int64} {c : Int32} (ec : c = lg_cmp v 1) (h : ¬ c < 0) : 1 ≤ v.toInt := by
  have h1 : ¬ v < 1 := fun q => h (ec ▸ (lg_cmp_lt v 1).mpr q)
  have h2 := Int64.not_lt.mp h1
  have := Int64.le_iff_toInt_le.mp h2
  have h0 : (1 : Int64).toInt = 1 := rfl
  omega
theorem t_lt1q {v : Int64} {c : Int32} (ec : c = lg_cmp v 1) (h : ¬ 0 ≤ c) : v.toInt < 1 := t_lt1n ec (Int32.not_le.mp h)
theorem t_lt1r {v : Int64} {c : Int32} (ec : c = lg_cmp v 1) (h : 0 ≤ c) : 1 ≤ v.toInt := t_lt1p ec (Int32.not_lt.mpr h)
/-! ===== printed by riv.py: PARTS ===== -/
noncomputable def wl_d_parts : List (Nat × Nat) := [(0, 0)]
noncomputable def Q_d_parts (gi : Nat → Nat → Int32) (gl : Nat → Nat → Int64) (gr : Nat → Nat → Value) (ar1 : Int64) : Int32 → (Nat → Nat → Int32) → (Nat → Nat → Int64) → (Nat → Nat → Value) → Prop := fun (v : Int32) (gi2 : Nat → Nat → Int32) (gl2 : Nat → Nat → Int64) (gr2 : Nat → Nat → Value) => ∀ (u : Nat) (D : s_D), gr 0 6 = .ref u → t_VL gr u → t_CV gi gl u D → t_Cb D → (1 ≤ ar1.toInt → v = s_pt D ar1 (D 0).toNat) ∧ (ar1.toInt < 1 → v.toInt = -1)
theorem c_d_parts {X : x_Ext} {d : Nat} {sh : List (Nat ⊕ (Nat × Nat))} {gi : Nat → Nat → Int32} {gl : Nat → Nat → Int64} {gr : Nat → Nat → Value} (hI : t_I sh gi gr) (ar1 : Int64) : x_Me X (d + 3) n_X11_parts [.ref 0, .long ar1] (sh, gi, gl, gr) (t_PI wl_d_parts sh gi gl gr (-2147483648) 2147483647 (Q_d_parts gi gl gr ar1)) := by
  have hX : t_X wl_d_parts sh gi gl gr gi gl gr := t_X.rf
  refine me_i f_X11_parts (hI.wf.s rfl) rfl rfl rfl ?_
  refine ev_loc f_X11_parts (nx := 1) rfl rfl rfl rfl ?_
  refine ev_lc f_X11_parts (nx := 2) (v := 1) rfl (by decide) rfl ?_
  refine ev_anyIE f_X11_parts (nx := 3) rfl rfl rfl rfl (fun z1 e1 => ?_)
  refine ev_if f_X11_parts (t1 := 12) (t2 := 6) rfl rfl rfl (fun h2 => ?_) (fun h2 => ?_)
  · have l3 : 0 ≤ z1.toInt := t_lel h2 (by decide : (0:Int) ≤ (0:Int32).toInt)
    refine ev_ic f_X11_parts (nx := 13) (v := 0) rfl (by decide) rfl ?_
    refine ev_loc f_X11_parts (nx := 14) (lo' := [(3, .int 0), (0, .ref 0), (1, .long ar1)]) rfl rfl rfl rfl ?_
    refine ev_ic f_X11_parts (nx := 15) (v := 0) rfl (by decide) rfl ?_
    refine ev_loc f_X11_parts (nx := 17) (lo' := [(4, .int 0), (3, .int 0), (0, .ref 0), (1, .long ar1)]) rfl rfl rfl rfl ?_
    have L4 : ∀ (m4 : Nat) (y4_4 : Int32) (y4_3 : Int32), 0 ≤ y4_4.toInt → y4_4.toInt ≤ 6 → (∀ (u : Nat) (D : s_D), gr 0 6 = .ref u → t_VL gr u → t_CV gi gl u D → t_Cb D → y4_3 = s_pt D ar1 y4_4.toNatClampNeg ∧ y4_4.toInt ≤ D 0) → (6 - y4_4.toInt).toNat = m4 → x_Ev X (d + 3) n_X11_parts 17 [(4, .int y4_4), (3, .int y4_3), (0, .ref 0), (1, .long ar1)] [] (sh, gi, gl, gr) (t_PI wl_d_parts sh gi gl gr (-2147483648) 2147483647 (Q_d_parts gi gl gr ar1)) := by
      intro m4
      induction m4 using Nat.strongRecOn with
      | _ m4 ih4 =>
      intro y4_4 y4_3 l4_4 u4_4 j4_0 hm4
      refine ev_loc f_X11_parts (nx := 19) rfl rfl rfl rfl ?_
      refine ev_loc f_X11_parts (nx := 20) rfl rfl rfl rfl ?_
      obtain ⟨a5, e5, p5⟩ := hI.2.2.2.1.1
      refine ev_getR f_X11_parts (nx := 23) rfl (hI.wf.s rfl) rfl rfl e5 rfl rfl ?_
      refine ev_getI f_X11_parts (nx := 26) rfl p5.1 rfl rfl rfl ?_
      obtain ⟨l6, u6⟩ := hI.b p5.1 (t_bdK rfl : t_bd 4 0 = some (0, 6))
      refine ev_if f_X11_parts (t1 := 62) (t2 := 29) rfl rfl rfl (fun h7 => ?_) (fun h7 => ?_)
      · have r8 : (gi a5 0).toInt ≤ y4_4.toInt := Int32.le_iff_toInt_le.mp h7
        refine ev_loc f_X11_parts (nx := 63) rfl rfl rfl rfl ?_
        refine ev_loc f_X11_parts (nx := 64) rfl rfl rfl rfl ?_
        refine ev_inV2 f_X11_parts (nx := 67) (lo2 := [(0, .ref 0), (1, .int y4_3)]) rfl rfl rfl rfl f_X11_answer (hI.wf.s rfl) rfl rfl rfl rfl rfl ?_
        refine ev_loc f_X11_answer (nx := 1) rfl rfl rfl rfl ?_
        refine ev_ic f_X11_answer (nx := 2) (v := 0) rfl (by decide) rfl ?_
        refine ev_putIT f_X11_answer (nx := 5) rfl (hI.wf.s rfl) rfl rfl rfl (hI.put0 (hI.wf.s rfl) rfl rfl) (hX.upI rfl) (fun g9 e9 hI hX => ?_)
        refine ev_loc f_X11_answer (nx := 6) rfl rfl rfl rfl ?_
        refine ev_retK1 f_X11_answer rfl rfl rfl ?_
        exact ev_ret f_X11_parts rfl rfl rfl ⟨_, _, _, rfl, hI, hX, ⟨_, rfl, (t_lo y4_3), (t_hi y4_3), (show ∀ (u : Nat) (D : s_D), gr 0 6 = .ref u → t_VL gr u → t_CV gi gl u D → t_Cb D → (1 ≤ ar1.toInt → y4_3 = s_pt D ar1 (D 0).toNat) ∧ (ar1.toInt < 1 → y4_3.toInt = -1) from (by
                                                            intro u D hu hl hc hb
                                                            obtain ⟨g1, g2⟩ := j4_0 u D hu hl hc hb
                                                            have ha : a5 = u := Value.ref.inj (e5.symm.trans hu)
                                                            subst ha
                                                            have hm := hc.1.1
                                                            have ck := t_clamp (i := y4_4) (by omega)
                                                            refine ⟨fun _ => ?_, fun h => absurd h (by have := (t_lt1r e1 h2); omega)⟩
                                                            rw [show (D 0).toNat = y4_4.toNatClampNeg from (by omega)]; exact g1))⟩⟩
      · have r10 : y4_4.toInt < (gi a5 0).toInt := Int32.lt_iff_toInt_lt.mp (t_nle h7)
        have u11 : y4_4.toInt ≤ 5 := t_ltu (t_nle h7) u6 rfl
        have l12 : 1 ≤ (gi a5 0).toInt := t_ltl (t_nle h7) l4_4 rfl
        refine ev_loc f_X11_parts (nx := 30) rfl rfl rfl rfl ?_
        refine ev_getR f_X11_parts (nx := 33) (v := .ref a5) rfl (hI.wf.s rfl) rfl rfl e5 rfl rfl ?_
        refine ev_loc f_X11_parts (nx := 35) rfl rfl rfl rfl ?_
        refine ev_qL0 f_X11_parts (nx := 38) (r := []) rfl rfl rfl rfl rfl rfl rfl (c_d_heardOf hI (a5) p5 (y4_4)) rfl (fun w13 q13 => ?_)
        have q13 : ∀ D : s_D, t_VL gr a5 → t_CV gi gl a5 D → w13 = s_hd D y4_4.toInt := q13
        refine ev_loc f_X11_parts (nx := 39) rfl rfl rfl rfl ?_
        refine ev_ldL f_X11_parts (nx := 42) (v := -1) rfl (by decide) rfl ?_
        refine ev_anyLE f_X11_parts (nx := 43) rfl rfl rfl rfl (fun z14 e14 => ?_)
        refine ev_anyLE f_X11_parts (nx := 44) rfl rfl rfl rfl (fun z15 e15 => ?_)
        refine ev_lc f_X11_parts (nx := 45) (v := 0) rfl (by decide) rfl ?_
        refine ev_anyIE f_X11_parts (nx := 46) rfl rfl rfl rfl (fun z16 e16 => ?_)
        refine ev_if f_X11_parts (t1 := 49) (t2 := 56) rfl rfl rfl (fun h17 => ?_) (fun h17 => ?_)
        · have u18 : z16.toInt ≤ 0 := t_equ h17 (by decide : (0:Int32).toInt ≤ (0:Int))
          have l19 : 0 ≤ z16.toInt := t_eql h17 (by decide : (0:Int) ≤ (0:Int32).toInt)
          refine ev_loc f_X11_parts (nx := 50) rfl rfl rfl rfl ?_
          refine ev_ic f_X11_parts (nx := 51) (v := 1) rfl (by decide) rfl ?_
          refine ev_loc f_X11_parts (nx := 53) rfl rfl rfl rfl ?_
          refine ev_anyIE f_X11_parts (nx := 54) rfl rfl rfl rfl (fun z20 e20 => ?_)
          refine ev_anyIE f_X11_parts (nx := 55) rfl rfl rfl rfl (fun z21 e21 => ?_)
          refine ev_loc f_X11_parts (nx := 56) (lo' := [(3, .int z21), (4, .int y4_4), (0, .ref 0), (1, .long ar1)]) rfl rfl rfl rfl ?_
          refine ev_incR f_X11_parts (nx := 59) (c := 1) (l := 1) (u := 6) rfl rfl (by decide) (by decide) l4_4 u11 rfl rfl (by decide) (by decide) rfl (fun z22 e22 l22 u22 => ?_)
          refine ev_jmp f_X11_parts (nx := 17) rfl rfl rfl ?_
          refine ev_sub (lo := [(4, .int z22), (3, .int z21), (0, .ref 0), (1, .long ar1)]) rfl (t_sc rfl (t_sc rfl (t_sc rfl (t_sc rfl t_sn)))) ?_
          exact ih4 _ (by omega) (z22) (z21) (Int.le_trans (by decide : (0:Int) ≤ 1) l22) u22 (by
                                                            intro u D hu hl hc hb
                                                            obtain ⟨h1, h2⟩ := j4_0 u D hu hl hc hb
                                                            have ha : a5 = u := Value.ref.inj (e5.symm.trans hu)
                                                            subst ha
                                                            have hm := hc.1.1
                                                            have hw := q13 D hl hc
                                                            exact ⟨s_pt_s1 h1 (by omega) hw e14 e15 (t_lc0 e16 h17) e20 e21 (by omega), by omega⟩) rfl
        · have r23 : z16.toInt ≠ 0 := fun e => h17 (Int32.toInt_inj.mp (e.trans (by decide : (0:Int) = (0 : Int32).toInt)))
          refine ev_incR f_X11_parts (nx := 59) (c := 1) (l := 1) (u := 6) rfl rfl (by decide) (by decide) l4_4 u11 rfl rfl (by decide) (by decide) rfl (fun z24 e24 l24 u24 => ?_)
          refine ev_jmp f_X11_parts (nx := 17) rfl rfl rfl ?_
          refine ev_sub (lo := [(4, .int z24), (3, .int y4_3), (0, .ref 0), (1, .long ar1)]) rfl (t_sc rfl (t_sc rfl (t_sc rfl (t_sc rfl t_sn)))) ?_
          exact ih4 _ (by omega) (z24) (y4_3) (Int.le_trans (by decide : (0:Int) ≤ 1) l24) u24 (by
                                                            intro u D hu hl hc hb
                                                            obtain ⟨h1, h2⟩ := j4_0 u D hu hl hc hb
                                                            have ha : a5 = u := Value.ref.inj (e5.symm.trans hu)
                                                            subst ha
                                                            have hm := hc.1.1
                                                            have hw := q13 D hl hc
                                                            exact ⟨s_pt_s0 h1 (by omega) hw e14 e15 (t_lc1 e16 h17) (by omega), by omega⟩) rfl
    refine ev_sub (lo := [(4, .int 0), (3, .int 0), (0, .ref 0), (1, .long ar1)]) rfl (t_sc rfl (t_sc rfl (t_sc rfl (t_sc rfl t_sn)))) ?_
    exact L4 _ (0) (0) (by decide : (0:Int) ≤ (0:Int32).toInt) (Int.le_trans (by decide : (0:Int32).toInt ≤ (0:Int)) (by decide : (0:Int) ≤ 6)) (fun u D hu hl hc hb => ⟨rfl, by have z0 : (0 : Int32).toInt = 0 := rfl; have := hb.1.1; omega⟩) rfl
  · have u25 : z1.toInt ≤ (-1) := t_ltu (t_nle h2) (by decide : (0:Int32).toInt ≤ (0:Int)) rfl
    refine ev_loc f_X11_parts (nx := 7) rfl rfl rfl rfl ?_
    refine ev_ic f_X11_parts (nx := 8) (v := 1) rfl (by decide) rfl ?_
    refine ev_inV2 f_X11_parts (nx := 11) (lo2 := [(0, .ref 0), (1, .int 1)]) rfl rfl rfl rfl f_X11_refuse (hI.wf.s rfl) rfl rfl rfl rfl rfl ?_
    refine ev_loc f_X11_refuse (nx := 1) rfl rfl rfl rfl ?_
    refine ev_loc f_X11_refuse (nx := 2) rfl rfl rfl rfl ?_
    refine ev_putIT f_X11_refuse (nx := 5) rfl (hI.wf.s rfl) rfl rfl rfl (hI.put0 (hI.wf.s rfl) rfl rfl) (hX.upI rfl) (fun g26 e26 hI hX => ?_)
    refine ev_ic f_X11_refuse (nx := 6) (v := -1) rfl (by decide) rfl ?_
    refine ev_retK1 f_X11_refuse rfl rfl rfl ?_
    exact ev_ret f_X11_parts rfl rfl rfl ⟨_, _, _, rfl, hI, hX, ⟨_, rfl, (Int.le_trans (by decide : ((-2147483648):Int) ≤ (-1)) (by decide : ((-1):Int) ≤ ((-1):Int32).toInt)), (Int.le_trans (by decide : ((-1):Int32).toInt ≤ ((-1):Int)) (by decide : ((-1):Int) ≤ 2147483647)), (show ∀ (u : Nat) (D : s_D), gr 0 6 = .ref u → t_VL gr u → t_CV gi gl u D → t_Cb D → (1 ≤ ar1.toInt → ((-1) : Int32) = s_pt D ar1 (D 0).toNat) ∧ (ar1.toInt < 1 → ((-1) : Int) = -1) from (by
                                                            intro u D hu hl hc hb
                                                            exact ⟨fun h => absurd h (by have := (t_lt1q e1 h2); omega), fun _ => rfl⟩))⟩⟩
noncomputable def wl_e_parts : List (Nat × Nat) := [(69, 2)]
noncomputable def Q_e_parts (gi : Nat → Nat → Int32) (gl : Nat → Nat → Int64) (gr : Nat → Nat → Value) (ar1 : Int64) : Int32 → (Nat → Nat → Int32) → (Nat → Nat → Int64) → (Nat → Nat → Value) → Prop := fun (v : Int32) (gi2 : Nat → Nat → Int32) (gl2 : Nat → Nat → Int64) (gr2 : Nat → Nat → Value) => ∀ D : s_D, t_ME 0 gi D → t_Cb D → (1 ≤ ar1.toInt → v = s_pt D ar1 (D 0).toNat) ∧ (ar1.toInt < 1 → v.toInt = -1)
theorem c_e_parts {X : x_Ext} {d : Nat} {sh : List (Nat ⊕ (Nat × Nat))} {gi : Nat → Nat → Int32} {gl : Nat → Nat → Int64} {gr : Nat → Nat → Value} (hI : t_I sh gi gr) (ar1 : Int64) : x_Me X (d + 4) n_X12_parts [.ref 69, .long ar1] (sh, gi, gl, gr) (t_PI wl_e_parts sh gi gl gr (-2147483648) 2147483647 (Q_e_parts gi gl gr ar1)) := by
  have hX : t_X wl_e_parts sh gi gl gr gi gl gr := t_X.rf
  refine me_i f_X12_parts (hI.wf.s rfl) rfl rfl rfl ?_
  refine ev_loc f_X12_parts (nx := 1) rfl rfl rfl rfl ?_
  refine ev_lc f_X12_parts (nx := 2) (v := 1) rfl (by decide) rfl ?_
  refine ev_anyIE f_X12_parts (nx := 3) rfl rfl rfl rfl (fun z1 e1 => ?_)
  refine ev_if f_X12_parts (t1 := 12) (t2 := 6) rfl rfl rfl (fun h2 => ?_) (fun h2 => ?_)
  · have l3 : 0 ≤ z1.toInt := t_lel h2 (by decide : (0:Int) ≤ (0:Int32).toInt)
    refine ev_ic f_X12_parts (nx := 13) (v := 0) rfl (by decide) rfl ?_
    refine ev_loc f_X12_parts (nx := 14) (lo' := [(3, .int 0), (0, .ref 69), (1, .long ar1)]) rfl rfl rfl rfl ?_
    refine ev_ic f_X12_parts (nx := 15) (v := 0) rfl (by decide) rfl ?_
    refine ev_loc f_X12_parts (nx := 17) (lo' := [(4, .int 0), (3, .int 0), (0, .ref 69), (1, .long ar1)]) rfl rfl rfl rfl ?_
    have L4 : ∀ (m4 : Nat) (y4_4 : Int32) (y4_3 : Int32), 0 ≤ y4_4.toInt → y4_4.toInt ≤ 6 → (∀ D : s_D, t_ME 0 gi D → t_Cb D → y4_3 = s_pt D ar1 y4_4.toNatClampNeg ∧ y4_4.toInt ≤ D 0) → (6 - y4_4.toInt).toNat = m4 → x_Ev X (d + 4) n_X12_parts 17 [(4, .int y4_4), (3, .int y4_3), (0, .ref 69), (1, .long ar1)] [] (sh, gi, gl, gr) (t_PI wl_e_parts sh gi gl gr (-2147483648) 2147483647 (Q_e_parts gi gl gr ar1)) := by
      intro m4
      induction m4 using Nat.strongRecOn with
      | _ m4 ih4 =>
      intro y4_4 y4_3 l4_4 u4_4 j4_0 hm4
      refine ev_loc f_X12_parts (nx := 19) rfl rfl rfl rfl ?_
      refine ev_loc f_X12_parts (nx := 20) rfl rfl rfl rfl ?_
      refine ev_getR f_X12_parts (nx := 23) rfl (hI.wf.s rfl) rfl rfl (hI.wf.r rfl) rfl rfl ?_
      refine ev_ic f_X12_parts (nx := 24) (v := 0) rfl (by decide) rfl ?_
      obtain ⟨l5, u5⟩ := hI.ab (by decide +kernel : t_abr 70 0 0 0 6 = true) (Nat.le_refl _) (Nat.le_refl _)
      refine ev_ialdv f_X12_parts (nx := 25) (w := (gi 70 0)) rfl (hI.wf.s rfl) (by decide) (rfl : (0 : Int32).toNatClampNeg = 0) (by decide) rfl rfl ?_
      refine ev_if f_X12_parts (t1 := 62) (t2 := 28) rfl rfl rfl (fun h6 => ?_) (fun h6 => ?_)
      · have r7 : (gi 70 0).toInt ≤ y4_4.toInt := Int32.le_iff_toInt_le.mp h6
        refine ev_loc f_X12_parts (nx := 63) rfl rfl rfl rfl ?_
        refine ev_loc f_X12_parts (nx := 64) rfl rfl rfl rfl ?_
        refine ev_inV2 f_X12_parts (nx := 67) (lo2 := [(0, .ref 69), (1, .int y4_3)]) rfl rfl rfl rfl f_X12_gives (hI.wf.s rfl) rfl rfl rfl rfl rfl ?_
        refine ev_loc f_X12_gives (nx := 1) rfl rfl rfl rfl ?_
        refine ev_ic f_X12_gives (nx := 2) (v := 0) rfl (by decide) rfl ?_
        refine ev_putIT f_X12_gives (nx := 5) rfl (hI.wf.s rfl) rfl rfl rfl (hI.put0 (hI.wf.s rfl) rfl rfl) (hX.upI rfl) (fun g8 e8 hI hX => ?_)
        refine ev_loc f_X12_gives (nx := 6) rfl rfl rfl rfl ?_
        refine ev_retK1 f_X12_gives rfl rfl rfl ?_
        exact ev_ret f_X12_parts rfl rfl rfl ⟨_, _, _, rfl, hI, hX, ⟨_, rfl, (t_lo y4_3), (t_hi y4_3), (show ∀ D : s_D, t_ME 0 gi D → t_Cb D → (1 ≤ ar1.toInt → y4_3 = s_pt D ar1 (D 0).toNat) ∧ (ar1.toInt < 1 → y4_3.toInt = -1) from (by
                                                            intro D hm hb
                                                            obtain ⟨g1, g2⟩ := j4_0 D hm hb
                                                            have g0 : (gi 70 0).toInt = D 0 := hm.1.1.1
                                                            have ck := t_clamp (i := y4_4) (by omega)
                                                            refine ⟨fun _ => ?_, fun h => absurd h (by have := (t_lt1r e1 h2); omega)⟩
                                                            rw [show (D 0).toNat = y4_4.toNatClampNeg from (by omega)]; exact g1))⟩⟩
      · have r9 : y4_4.toInt < (gi 70 0).toInt := Int32.lt_iff_toInt_lt.mp (t_nle h6)
        have u10 : y4_4.toInt ≤ 5 := t_ltu (t_nle h6) u5 rfl
        have l11 : 1 ≤ (gi 70 0).toInt := t_ltl (t_nle h6) l4_4 rfl
        refine ev_loc f_X12_parts (nx := 29) rfl rfl rfl rfl ?_
        refine ev_loc f_X12_parts (nx := 30) rfl rfl rfl rfl ?_
        refine ev_loc f_X12_parts (nx := 32) rfl rfl rfl rfl ?_
        refine ev_qL0 f_X12_parts (nx := 35) (r := [.int y4_3]) rfl rfl rfl rfl rfl rfl rfl (c_n_heardOf hI (y4_4) l4_4 u10) rfl (fun w12 q12 => ?_)
        have q12 : (0 ≤ w12.toInt ∧ w12.toInt < 8589934592) ∧ ∀ D : s_D, t_ME 0 gi D → y4_4.toInt < D 0 → w12 = s_ec (s_so D y4_4.toNatClampNeg) (D 7) := q12
        refine ev_loc f_X12_parts (nx := 36) rfl rfl rfl rfl ?_
        refine ev_ldL f_X12_parts (nx := 39) (v := -1) rfl (by decide) rfl ?_
        refine ev_anyLE f_X12_parts (nx := 40) rfl rfl rfl rfl (fun z13 e13 => ?_)
        refine ev_anyLE f_X12_parts (nx := 41) rfl rfl rfl rfl (fun z14 e14 => ?_)
        refine ev_lc f_X12_parts (nx := 42) (v := 0) rfl (by decide) rfl ?_
        refine ev_anyIE f_X12_parts (nx := 43) rfl rfl rfl rfl (fun z15 e15 => ?_)
        refine ev_if f_X12_parts (t1 := 46) (t2 := 53) rfl rfl rfl (fun h16 => ?_) (fun h16 => ?_)
        · have u17 : z15.toInt ≤ 0 := t_equ h16 (by decide : (0:Int32).toInt ≤ (0:Int))
          have l18 : 0 ≤ z15.toInt := t_eql h16 (by decide : (0:Int) ≤ (0:Int32).toInt)
          refine ev_ic f_X12_parts (nx := 47) (v := 1) rfl (by decide) rfl ?_
          refine ev_loc f_X12_parts (nx := 49) rfl rfl rfl rfl ?_
          refine ev_anyIE f_X12_parts (nx := 50) rfl rfl rfl rfl (fun z19 e19 => ?_)
          refine ev_jmp f_X12_parts (nx := 54) rfl rfl rfl ?_
          refine ev_anyIE f_X12_parts (nx := 55) rfl rfl rfl rfl (fun z20 e20 => ?_)
          refine ev_loc f_X12_parts (nx := 56) (lo' := [(3, .int z20), (4, .int y4_4), (0, .ref 69), (1, .long ar1)]) rfl rfl rfl rfl ?_
          refine ev_incR f_X12_parts (nx := 59) (c := 1) (l := 1) (u := 6) rfl rfl (by decide) (by decide) l4_4 u10 rfl rfl (by decide) (by decide) rfl (fun z21 e21 l21 u21 => ?_)
          refine ev_jmp f_X12_parts (nx := 17) rfl rfl rfl ?_
          refine ev_sub (lo := [(4, .int z21), (3, .int z20), (0, .ref 69), (1, .long ar1)]) rfl (t_sc rfl (t_sc rfl (t_sc rfl (t_sc rfl t_sn)))) ?_
          exact ih4 _ (by omega) (z21) (z20) (Int.le_trans (by decide : (0:Int) ≤ 1) l21) u21 (by
                                                            intro D hm hb
                                                            obtain ⟨h1, h2⟩ := j4_0 D hm hb
                                                            have h0 : (gi 70 0).toInt = D 0 := hm.1.1.1
                                                            have hw := (q12.2 D hm (by omega)).trans ((s_hd_i (D := D) (p := y4_4.toInt) (by omega) (by omega)).trans (by rw [show y4_4.toInt.toNat = y4_4.toNatClampNeg from (by have := t_clamp (i := y4_4) (by omega); omega)])).symm
                                                            exact ⟨s_pt_s1 h1 (by omega) hw e13 e14 (t_lc0 e15 h16) e19 e20 (by omega), by omega⟩) rfl
        · have r22 : z15.toInt ≠ 0 := fun e => h16 (Int32.toInt_inj.mp (e.trans (by decide : (0:Int) = (0 : Int32).toInt)))
          refine ev_ic f_X12_parts (nx := 54) (v := 0) rfl (by decide) rfl ?_
          refine ev_anyIE f_X12_parts (nx := 55) rfl rfl rfl rfl (fun z23 e23 => ?_)
          refine ev_loc f_X12_parts (nx := 56) (lo' := [(3, .int z23), (4, .int y4_4), (0, .ref 69), (1, .long ar1)]) rfl rfl rfl rfl ?_
          refine ev_incR f_X12_parts (nx := 59) (c := 1) (l := 1) (u := 6) rfl rfl (by decide) (by decide) l4_4 u10 rfl rfl (by decide) (by decide) rfl (fun z24 e24 l24 u24 => ?_)
          refine ev_jmp f_X12_parts (nx := 17) rfl rfl rfl ?_
          refine ev_sub (lo := [(4, .int z24), (3, .int z23), (0, .ref 69), (1, .long ar1)]) rfl (t_sc rfl (t_sc rfl (t_sc rfl (t_sc rfl t_sn)))) ?_
          exact ih4 _ (by omega) (z24) (z23) (Int.le_trans (by decide : (0:Int) ≤ 1) l24) u24 (by
                                                            intro D hm hb
                                                            obtain ⟨h1, h2⟩ := j4_0 D hm hb
                                                            have h0 : (gi 70 0).toInt = D 0 := hm.1.1.1
                                                            have hw := (q12.2 D hm (by omega)).trans ((s_hd_i (D := D) (p := y4_4.toInt) (by omega) (by omega)).trans (by rw [show y4_4.toInt.toNat = y4_4.toNatClampNeg from (by have := t_clamp (i := y4_4) (by omega); omega)])).symm
                                                            rw [s_or0 e23]
                                                            exact ⟨s_pt_s0 h1 (by omega) hw e13 e14 (t_lc1 e15 h16) (by omega), by omega⟩) rfl
    refine ev_sub (lo := [(4, .int 0), (3, .int 0), (0, .ref 69), (1, .long ar1)]) rfl (t_sc rfl (t_sc rfl (t_sc rfl (t_sc rfl t_sn)))) ?_
    exact L4 _ (0) (0) (by decide : (0:Int) ≤ (0:Int32).toInt) (Int.le_trans (by decide : (0:Int32).toInt ≤ (0:Int)) (by decide : (0:Int) ≤ 6)) (fun D hm hb => ⟨rfl, by have z0 : (0 : Int32).toInt = 0 := rfl; have := hb.1.1; omega⟩) rfl
  · have u25 : z1.toInt ≤ (-1) := t_ltu (t_nle h2) (by decide : (0:Int32).toInt ≤ (0:Int)) rfl
    refine ev_loc f_X12_parts (nx := 7) rfl rfl rfl rfl ?_
    refine ev_ic f_X12_parts (nx := 8) (v := 1) rfl (by decide) rfl ?_
    refine ev_inV2 f_X12_parts (nx := 11) (lo2 := [(0, .ref 69), (1, .int 1)]) rfl rfl rfl rfl f_X12_refuse (hI.wf.s rfl) rfl rfl rfl rfl rfl ?_
    refine ev_loc f_X12_refuse (nx := 1) rfl rfl rfl rfl ?_
    refine ev_loc f_X12_refuse (nx := 2) rfl rfl rfl rfl ?_
    refine ev_putIT f_X12_refuse (nx := 5) rfl (hI.wf.s rfl) rfl rfl rfl (hI.put0 (hI.wf.s rfl) rfl rfl) (hX.upI rfl) (fun g26 e26 hI hX => ?_)
    refine ev_ic f_X12_refuse (nx := 6) (v := -1) rfl (by decide) rfl ?_
    refine ev_retK1 f_X12_refuse rfl rfl rfl ?_
    exact ev_ret f_X12_parts rfl rfl rfl ⟨_, _, _, rfl, hI, hX, ⟨_, rfl, (Int.le_trans (by decide : ((-2147483648):Int) ≤ (-1)) (by decide : ((-1):Int) ≤ ((-1):Int32).toInt)), (Int.le_trans (by decide : ((-1):Int32).toInt ≤ ((-1):Int)) (by decide : ((-1):Int) ≤ 2147483647)), (show ∀ D : s_D, t_ME 0 gi D → t_Cb D → (1 ≤ ar1.toInt → ((-1) : Int32) = s_pt D ar1 (D 0).toNat) ∧ (ar1.toInt < 1 → ((-1) : Int) = -1) from (by
                                                            intro D hm hb
                                                            exact ⟨fun h => absurd h (by have := (t_lt1q e1 h2); omega), fun _ => rfl⟩))⟩⟩
section PRTL
variable {sh : List (Nat ⊕ (Nat × Nat))} {gi g1 g2 : Nat → Nat → Int32} {gl l1 l2 : Nat → Nat → Int64} {gr r1 r2 : Nat → Nat → Value} {w1 : List (Nat × Nat)} {A : Int64} {x1 x2 : Int32}
theorem t_L_parts (hD : t_DR sh.length gi gl gr) (f1 : t_F w1 gi gl gr g1 l1 r1) (h70 : t_nc w1 70 = true) (q1 : Q_d_parts gi gl gr A x1 g1 l1 r1) (q2 : Q_e_parts g1 l1 r1 A x2 g2 l2 r2) : x1 = x2 := by
  obtain ⟨u, D, hu, hl, hc, hb, hm, -⟩ := t_D_0 hD f1 h70
  have k1 := q1 u D hu hl hc hb
  have k2 := q2 D hm hb
  by_cases hin : 1 ≤ A.toInt
  · rw [k1.1 hin, k2.1 hin]
  · apply Int32.toInt_inj.mp; rw [k1.2 (by omega), k2.2 (by omega)]
end PRTL
/-! ===== how many COUPLES are ALIKE ===== -/
noncomputable def s_ai (D : s_D) (e : Int) (a : Nat) : Nat → Int
  | 0 => 0
  | k + 1 => s_ai D e a k + s_if (a < k ∧ s_ec (s_so D a) e = s_ec (s_so D k) e) 1 0
noncomputable def s_ao (D : s_D) (e : Int) (N : Nat) : Nat → Int
  | 0 => 0
  | a + 1 => s_ao D e N a + s_ai D e a N
noncomputable def s_al (D : s_D) (e : Int) : Int := s_ao D e (D 0).toNat (D 0).toNat
section ALK
variable {D : s_D} {e : Int} {a b b' n n' : Int32} {N : Nat}
theorem s_ai_0 {k j : Nat} : ∀ i : Nat, i ≤ k + 1 → s_ai D e k i = 0
  | 0, _ => rfl
  | i + 1, h => by
    show s_ai D e k i + s_if (k < i ∧ _) 1 0 = 0
    rw [s_ai_0 (j := j) i (by omega), s_ifF (fun hh => by omega)]; rfl
theorem s_ai_b (h : n.toInt = s_ao D e N a.toNatClampNeg) (h0 : 0 ≤ a.toInt) (hb : b.toInt = a.toInt + 1) : n.toInt = s_ao D e N a.toNatClampNeg + s_ai D e a.toNatClampNeg b.toNatClampNeg := by
  have c1 := t_clamp (i := a) h0
  have c2 := t_clamp (i := b) (by omega)
  rw [s_ai_0 (j := 0) _ (by omega), h]; omega
theorem s_ai_y (h : n.toInt = s_ao D e N a.toNatClampNeg + s_ai D e a.toNatClampNeg b.toNatClampNeg) (h0 : 0 ≤ a.toInt) (hab : a.toInt < b.toInt) (hx : s_ec (s_so D a.toNatClampNeg) e = s_ec (s_so D b.toNatClampNeg) e) (hn : n'.toInt = n.toInt + 1) (hb : b'.toInt = b.toInt + 1) : n'.toInt = s_ao D e N a.toNatClampNeg + s_ai D e a.toNatClampNeg b'.toNatClampNeg := by
  have c1 := t_clamp (i := a) h0
  have c2 := t_clamp (i := b) (by omega)
  have c3 := t_clamp (i := b') (by omega)
  rw [show b'.toNatClampNeg = b.toNatClampNeg + 1 by omega]
  show n'.toInt = s_ao D e N a.toNatClampNeg + (s_ai D e a.toNatClampNeg b.toNatClampNeg + s_if (a.toNatClampNeg < b.toNatClampNeg ∧ s_ec (s_so D a.toNatClampNeg) e = s_ec (s_so D b.toNatClampNeg) e) 1 0)
  rw [s_ifT ⟨by omega, hx⟩]; omega
theorem s_ai_n (h : n.toInt = s_ao D e N a.toNatClampNeg + s_ai D e a.toNatClampNeg b.toNatClampNeg) (h0 : 0 ≤ a.toInt) (hab : a.toInt < b.toInt) (hx : ¬ s_ec (s_so D a.toNatClampNeg) e = s_ec (s_so D b.toNatClampNeg) e) (hn : n'.toInt = n.toInt) (hb : b'.toInt = b.toInt + 1) : n'.toInt = s_ao D e N a.toNatClampNeg + s_ai D e a.toNatClampNeg b'.toNatClampNeg := by
  have c1 := t_clamp (i := a) h0
  have c2 := t_clamp (i := b) (by omega)
  have c3 := t_clamp (i := b') (by omega)
  rw [show b'.toNatClampNeg = b.toNatClampNeg + 1 by omega]
  show n'.toInt = s_ao D e N a.toNatClampNeg + (s_ai D e a.toNatClampNeg b.toNatClampNeg + s_if (a.toNatClampNeg < b.toNatClampNeg ∧ s_ec (s_so D a.toNatClampNeg) e = s_ec (s_so D b.toNatClampNeg) e) 1 0)
  rw [s_ifF (fun hh => hx hh.2)]; omega
theorem s_ao_s {a' : Int32} (h : n.toInt = s_ao D e N a.toNatClampNeg + s_ai D e a.toNatClampNeg b.toNatClampNeg) (h0 : 0 ≤ a.toInt) (ha : a'.toInt = a.toInt + 1) (hb : 0 ≤ b.toInt) (hN : b.toInt = (N : Int)) : n.toInt = s_ao D e N a'.toNatClampNeg := by
  have c1 := t_clamp (i := a) h0
  have c2 := t_clamp (i := b) hb
  have c3 := t_clamp (i := a') (by omega)
  rw [show a'.toNatClampNeg = a.toNatClampNeg + 1 by omega]
  show n.toInt = s_ao D e N a.toNatClampNeg + s_ai D e a.toNatClampNeg N
  rw [h, show b.toNatClampNeg = N by omega]
theorem t_le0 {x y : Int64} {c : Int32} (ec : c = lg_cmp x y) (h : c = 0) : x = y := (lg_cmp_eq _ _).mp (ec.symm.trans h)
theorem t_le1 {x y : Int64} {c : Int32} (ec : c = lg_cmp x y) (h : ¬ c = 0) : ¬ x = y := fun hh => h (ec.trans ((lg_cmp_eq _ _).mpr hh))
end ALK
/-- the least ECHO by which none are ALIKE -/
noncomputable def s_ce (D : s_D) : Nat → Int → Int
  | 0, _ => -1
  | m + 1, e => s_if (s_al D e = 0) e (s_ce D m (e + 1))
section CEC
variable {D : s_D} {x e e' : Int}
theorem s_ce_1 (h1 : e ≤ 9) : s_ce D (10 - e).toNat e = s_if (s_al D e = 0) e (s_ce D (10 - (e + 1)).toNat (e + 1)) := by
  rw [show (10 - e).toNat = (10 - (e + 1)).toNat + 1 by omega]; rfl
theorem s_ce_s (h : x = s_ce D (10 - e).toNat e) (h1 : e ≤ 9) (hn : ¬ s_al D e = 0) (he : e' = e + 1) : x = s_ce D (10 - e').toNat e' := by
  rw [h, s_ce_1 h1, s_ifF hn, he]
theorem s_ce_f (h : x = s_ce D (10 - e).toNat e) (h1 : e ≤ 9) (hn : s_al D e = 0) : x = e := by
  rw [h, s_ce_1 h1, s_ifT hn]
theorem s_ce_e (h : x = s_ce D (10 - e).toNat e) (h1 : 10 ≤ e) : x = -1 := by
  rw [h, show (10 - e).toNat = 0 by omega]; rfl
end CEC
/-! ===== printed by riv.py: how many COUPLES are ALIKE ===== -/
noncomputable def wl_d_couplesAlike : List (Nat × Nat) := []
noncomputable def Q_d_couplesAlike (gi : Nat → Nat → Int32) (gl : Nat → Nat → Int64) (gr : Nat → Nat → Value) (ar0 : Nat) (ar1 : Int32) : Int32 → (Nat → Nat → Int32) → (Nat → Nat → Int64) → (Nat → Nat → Value) → Prop := fun (v : Int32) (gi2 : Nat → Nat → Int32) (gl2 : Nat → Nat → Int64) (gr2 : Nat → Nat → Value) => ∀ D : s_D, t_VL gr ar0 → t_CV gi gl ar0 D → t_Cb D → v.toInt = s_al D ar1.toInt
theorem c_d_couplesAlike {X : x_Ext} {d : Nat} {sh : List (Nat ⊕ (Nat × Nat))} {gi : Nat → Nat → Int32} {gl : Nat → Nat → Int64} {gr : Nat → Nat → Value} (hI : t_I sh gi gr) (ar0 : Nat) (p_a0 : t_Rv sh gr ar0) (ar1 : Int32) : x_Me X (d + 2) n_X5_couplesAlike [.ref ar0, .int ar1] (sh, gi, gl, gr) (t_PI wl_d_couplesAlike sh gi gl gr 0 36 (Q_d_couplesAlike gi gl gr ar0 ar1)) := by
  have hX : t_X wl_d_couplesAlike sh gi gl gr gi gl gr := t_X.rf
  refine me_i f_X5_couplesAlike p_a0.1 rfl rfl rfl ?_
  refine ev_ic f_X5_couplesAlike (nx := 1) (v := 0) rfl (by decide) rfl ?_
  refine ev_loc f_X5_couplesAlike (nx := 2) (lo' := [(2, .int 0), (0, .ref ar0), (1, .int ar1)]) rfl rfl rfl rfl ?_
  refine ev_ic f_X5_couplesAlike (nx := 3) (v := 0) rfl (by decide) rfl ?_
  refine ev_loc f_X5_couplesAlike (nx := 4) (lo' := [(3, .int 0), (2, .int 0), (0, .ref ar0), (1, .int ar1)]) rfl rfl rfl rfl ?_
  have L1 : ∀ (m1 : Nat) (y1_3 : Int32) (y1_2 : Int32), 0 ≤ y1_3.toInt → y1_3.toInt ≤ 6 → 0 ≤ y1_2.toInt → y1_2.toInt ≤ 36 → y1_2.toInt ≤ 6 * y1_3.toInt → (∀ D : s_D, t_VL gr ar0 → t_CV gi gl ar0 D → t_Cb D → y1_2.toInt = s_ao D ar1.toInt (D 0).toNat y1_3.toNatClampNeg ∧ y1_3.toInt ≤ D 0) → (6 - y1_3.toInt).toNat = m1 → x_Ev X (d + 2) n_X5_couplesAlike 4 [(3, .int y1_3), (2, .int y1_2), (0, .ref ar0), (1, .int ar1)] [] (sh, gi, gl, gr) (t_PI wl_d_couplesAlike sh gi gl gr 0 36 (Q_d_couplesAlike gi gl gr ar0 ar1)) := by
    intro m1
    induction m1 using Nat.strongRecOn with
    | _ m1 ih1 =>
    intro y1_3 y1_2 l1_3 u1_3 l1_2 u1_2 j1_0 j1_1 hm1
    refine ev_loc f_X5_couplesAlike (nx := 5) rfl rfl rfl rfl ?_
    refine ev_loc f_X5_couplesAlike (nx := 6) rfl rfl rfl rfl ?_
    refine ev_getI f_X5_couplesAlike (nx := 9) rfl p_a0.1 rfl rfl rfl ?_
    obtain ⟨l2, u2⟩ := hI.b p_a0.1 (t_bdK rfl : t_bd 4 0 = some (0, 6))
    refine ev_if f_X5_couplesAlike (t1 := 66) (t2 := 12) rfl rfl rfl (fun h3 => ?_) (fun h3 => ?_)
    · have r4 : (gi ar0 0).toInt ≤ y1_3.toInt := Int32.le_iff_toInt_le.mp h3
      refine ev_loc f_X5_couplesAlike (nx := 67) rfl rfl rfl rfl ?_
      exact ev_ret f_X5_couplesAlike rfl rfl rfl ⟨_, _, _, rfl, hI, hX, ⟨_, rfl, l1_2, u1_2, (show ∀ D : s_D, t_VL gr ar0 → t_CV gi gl ar0 D → t_Cb D → y1_2.toInt = s_al D ar1.toInt from (by
                                                            intro D hl hc hb
                                                            obtain ⟨g1, g2⟩ := j1_1 D hl hc hb
                                                            have hm := hc.1.1
                                                            have ck := t_clamp (i := y1_3) (by omega)
                                                            rw [g1, show y1_3.toNatClampNeg = (D 0).toNat from (by omega)]; rfl))⟩⟩
    · have r5 : y1_3.toInt < (gi ar0 0).toInt := Int32.lt_iff_toInt_lt.mp (t_nle h3)
      have u6 : y1_3.toInt ≤ 5 := t_ltu (t_nle h3) u2 rfl
      have l7 : 1 ≤ (gi ar0 0).toInt := t_ltl (t_nle h3) l1_3 rfl
      refine ev_loc f_X5_couplesAlike (nx := 13) rfl rfl rfl rfl ?_
      refine ev_ic f_X5_couplesAlike (nx := 14) (v := 1) rfl (by decide) rfl ?_
      refine ev_addC f_X5_couplesAlike (nx := 15) (c := 1) (l := 1) (u := 6) rfl (by decide) l1_3 u6 rfl rfl (by decide) (by decide) rfl (fun z8 e8 l8 u8 => ?_)
      refine ev_loc f_X5_couplesAlike (nx := 17) (lo' := [(4, .int z8), (3, .int y1_3), (2, .int y1_2), (0, .ref ar0), (1, .int ar1)]) rfl rfl rfl rfl ?_
      have L9 : ∀ (m9 : Nat) (y9_4 : Int32) (y9_2 : Int32), 1 ≤ y9_4.toInt → y9_4.toInt ≤ 6 → 0 ≤ y9_2.toInt → y9_2.toInt ≤ 42 → y9_2.toInt ≤ 6 * y1_3.toInt + y9_4.toInt → (∀ D : s_D, t_VL gr ar0 → t_CV gi gl ar0 D → t_Cb D → y9_2.toInt = s_ao D ar1.toInt (D 0).toNat y1_3.toNatClampNeg + s_ai D ar1.toInt y1_3.toNatClampNeg y9_4.toNatClampNeg ∧ y1_3.toInt < y9_4.toInt ∧ y9_4.toInt ≤ D 0) → (6 - y9_4.toInt).toNat = m9 → x_Ev X (d + 2) n_X5_couplesAlike 17 [(4, .int y9_4), (3, .int y1_3), (2, .int y9_2), (0, .ref ar0), (1, .int ar1)] [] (sh, gi, gl, gr) (t_PI wl_d_couplesAlike sh gi gl gr 0 36 (Q_d_couplesAlike gi gl gr ar0 ar1)) := by
        intro m9
        induction m9 using Nat.strongRecOn with
        | _ m9 ih9 =>
        intro y9_4 y9_2 l9_4 u9_4 l9_2 u9_2 j9_0 j9_1 hm9
        refine ev_loc f_X5_couplesAlike (nx := 19) rfl rfl rfl rfl ?_
        refine ev_loc f_X5_couplesAlike (nx := 20) rfl rfl rfl rfl ?_
        refine ev_gvI f_X5_couplesAlike (nx := 23) (w := (gi ar0 0)) rfl p_a0.1 rfl rfl rfl rfl ?_
        refine ev_if f_X5_couplesAlike (t1 := 60) (t2 := 26) rfl rfl rfl (fun h10 => ?_) (fun h10 => ?_)
        · have r11 : (gi ar0 0).toInt ≤ y9_4.toInt := Int32.le_iff_toInt_le.mp h10
          refine ev_incR f_X5_couplesAlike (nx := 63) (c := 1) (l := 1) (u := 6) rfl rfl (by decide) (by decide) l1_3 u6 rfl rfl (by decide) (by decide) rfl (fun z12 e12 l12 u12 => ?_)
          refine ev_jmp f_X5_couplesAlike (nx := 4) rfl rfl rfl ?_
          refine ev_sub (lo := [(3, .int z12), (2, .int y9_2), (0, .ref ar0), (1, .int ar1)]) rfl (t_sc rfl (t_sc rfl (t_sc rfl (t_sc rfl t_sn)))) ?_
          exact ih1 _ (by omega) (z12) (y9_2) (Int.le_trans (by decide : (0:Int) ≤ 1) l12) u12 l9_2 (by omega : y9_2.toInt ≤ (36:Int)) (by omega) (by
                                                            intro D hl hc hb
                                                            obtain ⟨g1, g2, g3⟩ := j9_1 D hl hc hb
                                                            have hm := hc.1.1
                                                            refine ⟨s_ao_s g1 (by omega) (by omega) (by omega) (by omega), by omega⟩) rfl
        · have r13 : y9_4.toInt < (gi ar0 0).toInt := Int32.lt_iff_toInt_lt.mp (t_nle h10)
          have u14 : y9_4.toInt ≤ 5 := t_ltu (t_nle h10) u2 rfl
          have l15 : 2 ≤ (gi ar0 0).toInt := t_ltl (t_nle h10) l9_4 rfl
          refine ev_loc f_X5_couplesAlike (nx := 27) rfl rfl rfl rfl ?_
          obtain ⟨a16, e16, s16, o16⟩ := p_a0.2.2.1
          refine ev_getR f_X5_couplesAlike (nx := 30) rfl p_a0.1 rfl rfl e16 rfl rfl ?_
          refine ev_loc f_X5_couplesAlike (nx := 31) rfl rfl rfl rfl ?_
          refine ev_laldT f_X5_couplesAlike (nx := 32) rfl s16 l1_3 (by decide) u6 (by decide) rfl (fun w17 e17 => ?_)
          refine ev_loc f_X5_couplesAlike (nx := 33) rfl rfl rfl rfl ?_
          refine ev_inS2 f_X5_couplesAlike (nx := 36) (lo2 := [(0, .long w17), (2, .int ar1)]) rfl rfl rfl rfl f_X5_withEcho rfl rfl rfl rfl ?_
          refine ev_loc f_X5_withEcho (nx := 1) rfl rfl rfl rfl ?_
          refine ev_loc f_X5_withEcho (nx := 2) rfl rfl rfl rfl ?_
          refine ev_loc f_X5_withEcho (nx := 3) rfl rfl rfl rfl ?_
          refine ev_anyLE f_X5_withEcho (nx := 4) rfl rfl rfl rfl (fun z18 e18 => ?_)
          refine ev_anyLE f_X5_withEcho (nx := 5) rfl rfl rfl rfl (fun z19 e19 => ?_)
          refine ev_retK1 f_X5_withEcho rfl rfl rfl ?_
          refine ev_loc f_X5_couplesAlike (nx := 37) rfl rfl rfl rfl ?_
          refine ev_getR f_X5_couplesAlike (nx := 40) (v := .ref a16) rfl p_a0.1 rfl rfl e16 rfl rfl ?_
          refine ev_loc f_X5_couplesAlike (nx := 42) rfl rfl rfl rfl ?_
          refine ev_laldT f_X5_couplesAlike (nx := 43) rfl s16 l9_4 (by decide) u14 (by decide) rfl (fun w20 e20 => ?_)
          refine ev_loc f_X5_couplesAlike (nx := 44) rfl rfl rfl rfl ?_
          refine ev_inS2 f_X5_couplesAlike (nx := 47) (lo2 := [(0, .long w20), (2, .int ar1)]) rfl rfl rfl rfl f_X5_withEcho rfl rfl rfl rfl ?_
          refine ev_loc f_X5_withEcho (nx := 1) rfl rfl rfl rfl ?_
          refine ev_loc f_X5_withEcho (nx := 2) rfl rfl rfl rfl ?_
          refine ev_loc f_X5_withEcho (nx := 3) rfl rfl rfl rfl ?_
          refine ev_anyLE f_X5_withEcho (nx := 4) rfl rfl rfl rfl (fun z21 e21 => ?_)
          refine ev_anyLE f_X5_withEcho (nx := 5) rfl rfl rfl rfl (fun z22 e22 => ?_)
          refine ev_retK1 f_X5_withEcho rfl rfl rfl ?_
          refine ev_anyIE f_X5_couplesAlike (nx := 48) rfl rfl rfl rfl (fun z23 e23 => ?_)
          refine ev_if f_X5_couplesAlike (t1 := 51) (t2 := 54) rfl rfl rfl (fun h24 => ?_) (fun h24 => ?_)
          · have u25 : z23.toInt ≤ 0 := t_equ h24 (by decide : (0:Int32).toInt ≤ (0:Int))
            have l26 : 0 ≤ z23.toInt := t_eql h24 (by decide : (0:Int) ≤ (0:Int32).toInt)
            refine ev_incR f_X5_couplesAlike (nx := 54) (c := 1) (l := 1) (u := 43) rfl rfl (by decide) (by decide) l9_2 u9_2 rfl rfl (by decide) (by decide) rfl (fun z27 e27 l27 u27 => ?_)
            refine ev_incR f_X5_couplesAlike (nx := 57) (c := 1) (l := 2) (u := 6) rfl rfl (by decide) (by decide) l9_4 u14 rfl rfl (by decide) (by decide) rfl (fun z28 e28 l28 u28 => ?_)
            refine ev_jmp f_X5_couplesAlike (nx := 17) rfl rfl rfl ?_
            refine ev_sub (lo := [(4, .int z28), (3, .int y1_3), (2, .int z27), (0, .ref ar0), (1, .int ar1)]) rfl (t_sc rfl (t_sc rfl (t_sc rfl (t_sc rfl (t_sc rfl t_sn))))) ?_
            exact ih9 _ (by omega) (z28) (z27) (Int.le_trans (by decide : (1:Int) ≤ 2) l28) u28 (Int.le_trans (by decide : (0:Int) ≤ 1) l27) (by omega : z27.toInt ≤ (42:Int)) (by omega) (by
                                                            intro D hl hc hb
                                                            obtain ⟨g1, g2, g3⟩ := j9_1 D hl hc hb
                                                            have hb0 : a16 = (ar0 + 2) := (Value.ref.inj ((hl.1.2.1).symm.trans e16)).symm
                                                            subst hb0
                                                            have hm := hc.1.1
                                                            have ha : z19 = s_ec (s_so D y1_3.toNatClampNeg) ar1.toInt := by
                                                              have ck := t_clamp (i := y1_3) (by omega)
                                                              have hw : w17 = s_so D y1_3.toNatClampNeg := by rw [e17]; exact s_so_h (hc.1.2 y1_3.toNatClampNeg (by omega))
                                                              rw [← hw]
                                                              exact s_ec_e e18 e19 rfl
                                                            have hb2 : z22 = s_ec (s_so D y9_4.toNatClampNeg) ar1.toInt := by
                                                              have ck := t_clamp (i := y9_4) (by omega)
                                                              have hw : w20 = s_so D y9_4.toNatClampNeg := by rw [e20]; exact s_so_h (hc.1.2 y9_4.toNatClampNeg (by omega))
                                                              rw [← hw]
                                                              exact s_ec_e e21 e22 rfl
                                                            have hne := (t_le0 e23 h24)
                                                            rw [ha, hb2] at hne
                                                            exact ⟨s_ai_y g1 (by omega) (by omega) hne (by omega) (by omega), by omega, by omega⟩) rfl
          · have r29 : z23.toInt ≠ 0 := fun e => h24 (Int32.toInt_inj.mp (e.trans (by decide : (0:Int) = (0 : Int32).toInt)))
            refine ev_incR f_X5_couplesAlike (nx := 57) (c := 1) (l := 2) (u := 6) rfl rfl (by decide) (by decide) l9_4 u14 rfl rfl (by decide) (by decide) rfl (fun z30 e30 l30 u30 => ?_)
            refine ev_jmp f_X5_couplesAlike (nx := 17) rfl rfl rfl ?_
            refine ev_sub (lo := [(4, .int z30), (3, .int y1_3), (2, .int y9_2), (0, .ref ar0), (1, .int ar1)]) rfl (t_sc rfl (t_sc rfl (t_sc rfl (t_sc rfl (t_sc rfl t_sn))))) ?_
            exact ih9 _ (by omega) (z30) (y9_2) (Int.le_trans (by decide : (1:Int) ≤ 2) l30) u30 l9_2 u9_2 (by omega) (by
                                                            intro D hl hc hb
                                                            obtain ⟨g1, g2, g3⟩ := j9_1 D hl hc hb
                                                            have hb0 : a16 = (ar0 + 2) := (Value.ref.inj ((hl.1.2.1).symm.trans e16)).symm
                                                            subst hb0
                                                            have hm := hc.1.1
                                                            have ha : z19 = s_ec (s_so D y1_3.toNatClampNeg) ar1.toInt := by
                                                              have ck := t_clamp (i := y1_3) (by omega)
                                                              have hw : w17 = s_so D y1_3.toNatClampNeg := by rw [e17]; exact s_so_h (hc.1.2 y1_3.toNatClampNeg (by omega))
                                                              rw [← hw]
                                                              exact s_ec_e e18 e19 rfl
                                                            have hb2 : z22 = s_ec (s_so D y9_4.toNatClampNeg) ar1.toInt := by
                                                              have ck := t_clamp (i := y9_4) (by omega)
                                                              have hw : w20 = s_so D y9_4.toNatClampNeg := by rw [e20]; exact s_so_h (hc.1.2 y9_4.toNatClampNeg (by omega))
                                                              rw [← hw]
                                                              exact s_ec_e e21 e22 rfl
                                                            have hne := (t_le1 e23 h24)
                                                            rw [ha, hb2] at hne
                                                            exact ⟨s_ai_n g1 (by omega) (by omega) hne (by omega) (by omega), by omega, by omega⟩) rfl
      refine ev_sub (lo := [(4, .int z8), (3, .int y1_3), (2, .int y1_2), (0, .ref ar0), (1, .int ar1)]) rfl (t_sc rfl (t_sc rfl (t_sc rfl (t_sc rfl (t_sc rfl t_sn))))) ?_
      exact L9 _ (z8) (y1_2) l8 u8 l1_2 (Int.le_trans u1_2 (by decide : (36:Int) ≤ 42)) (by omega) (by
                                                            intro D hl hc hb
                                                            obtain ⟨g1, g2⟩ := j1_1 D hl hc hb
                                                            have hm := hc.1.1
                                                            refine ⟨s_ai_b g1 (by omega) (by omega), by omega, by omega⟩) rfl
  refine ev_sub (lo := [(3, .int 0), (2, .int 0), (0, .ref ar0), (1, .int ar1)]) rfl (t_sc rfl (t_sc rfl (t_sc rfl (t_sc rfl t_sn)))) ?_
  exact L1 _ (0) (0) (by decide : (0:Int) ≤ (0:Int32).toInt) (Int.le_trans (by decide : (0:Int32).toInt ≤ (0:Int)) (by decide : (0:Int) ≤ 6)) (by decide : (0:Int) ≤ (0:Int32).toInt) (Int.le_trans (by decide : (0:Int32).toInt ≤ (0:Int)) (by decide : (0:Int) ≤ 36)) (by have kf31 : (0 : Int32).toInt = 0 := (by decide); omega) (fun D hl hc hb => ⟨rfl, by have z0 : (0 : Int32).toInt = 0 := rfl; have := hb.1.1; omega⟩) rfl
noncomputable def wl_n_alikeBy : List (Nat × Nat) := []
noncomputable def Q_n_alikeBy (gi : Nat → Nat → Int32) (gl : Nat → Nat → Int64) (gr : Nat → Nat → Value) (ar1 : Int32) : Int32 → (Nat → Nat → Int32) → (Nat → Nat → Int64) → (Nat → Nat → Value) → Prop := fun (v : Int32) (gi2 : Nat → Nat → Int32) (gl2 : Nat → Nat → Int64) (gr2 : Nat → Nat → Value) => ∀ D : s_D, t_ME 0 gi D → t_Cb D → v.toInt = s_al D ar1.toInt
theorem c_n_alikeBy {X : x_Ext} {d : Nat} {sh : List (Nat ⊕ (Nat × Nat))} {gi : Nat → Nat → Int32} {gl : Nat → Nat → Int64} {gr : Nat → Nat → Value} (hI : t_I sh gi gr) (ar1 : Int32) (l_a1 : 0 ≤ ar1.toInt) (u_a1 : ar1.toInt ≤ 9) : x_Me X (d + 3) n_X12_alikeBy [.ref 69, .int ar1] (sh, gi, gl, gr) (t_PI wl_n_alikeBy sh gi gl gr 0 36 (Q_n_alikeBy gi gl gr ar1)) := by
  have hX : t_X wl_n_alikeBy sh gi gl gr gi gl gr := t_X.rf
  refine me_i f_X12_alikeBy (hI.wf.s rfl) rfl rfl rfl ?_
  refine ev_ic f_X12_alikeBy (nx := 1) (v := 0) rfl (by decide) rfl ?_
  refine ev_loc f_X12_alikeBy (nx := 2) (lo' := [(2, .int 0), (0, .ref 69), (1, .int ar1)]) rfl rfl rfl rfl ?_
  refine ev_ic f_X12_alikeBy (nx := 3) (v := 0) rfl (by decide) rfl ?_
  refine ev_loc f_X12_alikeBy (nx := 4) (lo' := [(3, .int 0), (2, .int 0), (0, .ref 69), (1, .int ar1)]) rfl rfl rfl rfl ?_
  have L1 : ∀ (m1 : Nat) (y1_3 : Int32) (y1_2 : Int32), 0 ≤ y1_3.toInt → y1_3.toInt ≤ 6 → 0 ≤ y1_2.toInt → y1_2.toInt ≤ 36 → y1_2.toInt ≤ 6 * y1_3.toInt → (∀ D : s_D, t_ME 0 gi D → t_Cb D → y1_2.toInt = s_ao D ar1.toInt (D 0).toNat y1_3.toNatClampNeg ∧ y1_3.toInt ≤ D 0) → (6 - y1_3.toInt).toNat = m1 → x_Ev X (d + 3) n_X12_alikeBy 4 [(3, .int y1_3), (2, .int y1_2), (0, .ref 69), (1, .int ar1)] [] (sh, gi, gl, gr) (t_PI wl_n_alikeBy sh gi gl gr 0 36 (Q_n_alikeBy gi gl gr ar1)) := by
    intro m1
    induction m1 using Nat.strongRecOn with
    | _ m1 ih1 =>
    intro y1_3 y1_2 l1_3 u1_3 l1_2 u1_2 j1_0 j1_1 hm1
    refine ev_loc f_X12_alikeBy (nx := 5) rfl rfl rfl rfl ?_
    refine ev_loc f_X12_alikeBy (nx := 6) rfl rfl rfl rfl ?_
    refine ev_getR f_X12_alikeBy (nx := 9) rfl (hI.wf.s rfl) rfl rfl (hI.wf.r rfl) rfl rfl ?_
    refine ev_ic f_X12_alikeBy (nx := 10) (v := 0) rfl (by decide) rfl ?_
    obtain ⟨l2, u2⟩ := hI.ab (by decide +kernel : t_abr 70 0 0 0 6 = true) (Nat.le_refl _) (Nat.le_refl _)
    refine ev_ialdv f_X12_alikeBy (nx := 11) (w := (gi 70 0)) rfl (hI.wf.s rfl) (by decide) (rfl : (0 : Int32).toNatClampNeg = 0) (by decide) rfl rfl ?_
    refine ev_if f_X12_alikeBy (t1 := 73) (t2 := 14) rfl rfl rfl (fun h3 => ?_) (fun h3 => ?_)
    · have r4 : (gi 70 0).toInt ≤ y1_3.toInt := Int32.le_iff_toInt_le.mp h3
      refine ev_loc f_X12_alikeBy (nx := 74) rfl rfl rfl rfl ?_
      exact ev_ret f_X12_alikeBy rfl rfl rfl ⟨_, _, _, rfl, hI, hX, ⟨_, rfl, l1_2, u1_2, (show ∀ D : s_D, t_ME 0 gi D → t_Cb D → y1_2.toInt = s_al D ar1.toInt from (by
                                                            intro D hm hb
                                                            obtain ⟨g1, g2⟩ := j1_1 D hm hb
                                                            have h0 : (gi 70 0).toInt = D 0 := hm.1.1.1
                                                            have ck := t_clamp (i := y1_3) (by omega)
                                                            rw [g1, show y1_3.toNatClampNeg = (D 0).toNat from (by omega)]; rfl))⟩⟩
    · have r5 : y1_3.toInt < (gi 70 0).toInt := Int32.lt_iff_toInt_lt.mp (t_nle h3)
      have u6 : y1_3.toInt ≤ 5 := t_ltu (t_nle h3) u2 rfl
      have l7 : 1 ≤ (gi 70 0).toInt := t_ltl (t_nle h3) l1_3 rfl
      refine ev_loc f_X12_alikeBy (nx := 15) rfl rfl rfl rfl ?_
      refine ev_ic f_X12_alikeBy (nx := 16) (v := 1) rfl (by decide) rfl ?_
      refine ev_addC f_X12_alikeBy (nx := 17) (c := 1) (l := 1) (u := 6) rfl (by decide) l1_3 u6 rfl rfl (by decide) (by decide) rfl (fun z8 e8 l8 u8 => ?_)
      refine ev_loc f_X12_alikeBy (nx := 19) (lo' := [(4, .int z8), (3, .int y1_3), (2, .int y1_2), (0, .ref 69), (1, .int ar1)]) rfl rfl rfl rfl ?_
      have L9 : ∀ (m9 : Nat) (y9_4 : Int32) (y9_2 : Int32), 1 ≤ y9_4.toInt → y9_4.toInt ≤ 6 → 0 ≤ y9_2.toInt → y9_2.toInt ≤ 42 → y9_2.toInt ≤ 6 * y1_3.toInt + y9_4.toInt → (∀ D : s_D, t_ME 0 gi D → t_Cb D → y9_2.toInt = s_ao D ar1.toInt (D 0).toNat y1_3.toNatClampNeg + s_ai D ar1.toInt y1_3.toNatClampNeg y9_4.toNatClampNeg ∧ y1_3.toInt < y9_4.toInt ∧ y9_4.toInt ≤ D 0) → (6 - y9_4.toInt).toNat = m9 → x_Ev X (d + 3) n_X12_alikeBy 19 [(4, .int y9_4), (3, .int y1_3), (2, .int y9_2), (0, .ref 69), (1, .int ar1)] [] (sh, gi, gl, gr) (t_PI wl_n_alikeBy sh gi gl gr 0 36 (Q_n_alikeBy gi gl gr ar1)) := by
        intro m9
        induction m9 using Nat.strongRecOn with
        | _ m9 ih9 =>
        intro y9_4 y9_2 l9_4 u9_4 l9_2 u9_2 j9_0 j9_1 hm9
        refine ev_loc f_X12_alikeBy (nx := 21) rfl rfl rfl rfl ?_
        refine ev_loc f_X12_alikeBy (nx := 22) rfl rfl rfl rfl ?_
        refine ev_getR f_X12_alikeBy (nx := 25) rfl (hI.wf.s rfl) rfl rfl (hI.wf.r rfl) rfl rfl ?_
        refine ev_ic f_X12_alikeBy (nx := 26) (v := 0) rfl (by decide) rfl ?_
        refine ev_ialdv f_X12_alikeBy (nx := 27) (w := (gi 70 0)) rfl (hI.wf.s rfl) (by decide) (rfl : (0 : Int32).toNatClampNeg = 0) (by decide) rfl rfl ?_
        refine ev_if f_X12_alikeBy (t1 := 67) (t2 := 30) rfl rfl rfl (fun h11 => ?_) (fun h11 => ?_)
        · have r12 : (gi 70 0).toInt ≤ y9_4.toInt := Int32.le_iff_toInt_le.mp h11
          refine ev_incR f_X12_alikeBy (nx := 70) (c := 1) (l := 1) (u := 6) rfl rfl (by decide) (by decide) l1_3 u6 rfl rfl (by decide) (by decide) rfl (fun z13 e13 l13 u13 => ?_)
          refine ev_jmp f_X12_alikeBy (nx := 4) rfl rfl rfl ?_
          refine ev_sub (lo := [(3, .int z13), (2, .int y9_2), (0, .ref 69), (1, .int ar1)]) rfl (t_sc rfl (t_sc rfl (t_sc rfl (t_sc rfl t_sn)))) ?_
          exact ih1 _ (by omega) (z13) (y9_2) (Int.le_trans (by decide : (0:Int) ≤ 1) l13) u13 l9_2 (by omega : y9_2.toInt ≤ (36:Int)) (by omega) (by
                                                            intro D hm hb
                                                            obtain ⟨g1, g2, g3⟩ := j9_1 D hm hb
                                                            have h0 : (gi 70 0).toInt = D 0 := hm.1.1.1
                                                            refine ⟨s_ao_s g1 (by omega) (by omega) (by omega) (by omega), by omega⟩) rfl
        · have r14 : y9_4.toInt < (gi 70 0).toInt := Int32.lt_iff_toInt_lt.mp (t_nle h11)
          have u15 : y9_4.toInt ≤ 5 := t_ltu (t_nle h11) u2 rfl
          have l16 : 2 ≤ (gi 70 0).toInt := t_ltl (t_nle h11) l9_4 rfl
          refine ev_loc f_X12_alikeBy (nx := 31) rfl rfl rfl rfl ?_
          refine ev_loc f_X12_alikeBy (nx := 32) rfl rfl rfl rfl ?_
          refine ev_loc f_X12_alikeBy (nx := 33) rfl rfl rfl rfl ?_
          refine ev_inV2 f_X12_alikeBy (nx := 36) (lo2 := [(0, .ref 69), (1, .int y1_3)]) rfl rfl rfl rfl f_X12_soundOf (hI.wf.s rfl) rfl rfl rfl rfl rfl ?_
          refine ev_loc f_X12_soundOf (nx := 1) rfl rfl rfl rfl ?_
          refine ev_bp f_X12_soundOf (nx := 3) (v := 10) rfl (by decide) rfl ?_
          refine ev_bp f_X12_soundOf (nx := 5) (v := 7) rfl (by decide) rfl ?_
          refine ev_loc f_X12_soundOf (nx := 6) rfl rfl rfl rfl ?_
          refine ev_mulL f_X12_soundOf (nx := 7) (c := 7) (l := 0) (u := 35) rfl (by decide) (by decide) l1_3 u6 rfl rfl (by decide) (by decide) rfl (fun z17 e17 l17 u17 => ?_)
          refine ev_addK f_X12_soundOf (nx := 8) (c := 10) (l := 10) (u := 45) rfl (by decide) l17 u17 rfl rfl (by decide) (by decide) rfl (fun z18 e18 l18 u18 => ?_)
          refine ev_ic f_X12_soundOf (nx := 9) (v := 1) rfl (by decide) rfl ?_
          refine ev_addC f_X12_soundOf (nx := 10) (c := 1) (l := 11) (u := 46) rfl (by decide) l18 u18 rfl rfl (by decide) (by decide) rfl (fun z19 e19 l19 u19 => ?_)
          refine ev_loc f_X12_soundOf (nx := 11) rfl rfl rfl rfl ?_
          refine ev_getR f_X12_soundOf (nx := 14) rfl (hI.wf.s rfl) rfl rfl (hI.wf.r rfl) rfl rfl ?_
          refine ev_bp f_X12_soundOf (nx := 16) (v := 10) rfl (by decide) rfl ?_
          refine ev_bp f_X12_soundOf (nx := 18) (v := 7) rfl (by decide) rfl ?_
          refine ev_loc f_X12_soundOf (nx := 19) rfl rfl rfl rfl ?_
          refine ev_mulL f_X12_soundOf (nx := 20) (c := 7) (l := 0) (u := 35) rfl (by decide) (by decide) l1_3 u6 rfl rfl (by decide) (by decide) rfl (fun z20 e20 l20 u20 => ?_)
          refine ev_addK f_X12_soundOf (nx := 21) (c := 10) (l := 10) (u := 45) rfl (by decide) l20 u20 rfl rfl (by decide) (by decide) rfl (fun z21 e21 l21 u21 => ?_)
          refine ev_ialdT f_X12_soundOf (nx := 22) rfl (hI.wf.s rfl) l21 (by decide) u21 (by decide) rfl (fun w22 e22 => ?_)
          obtain ⟨l22, u22⟩ := hI.abA (x := y1_3) e22 (by decide +kernel : t_aba 70 10 7 0 5 (-900) 6 = true) (by omega) (by omega) (by omega)
          refine ev_qL0 f_X12_soundOf (nx := 25) (r := []) rfl rfl rfl rfl rfl rfl rfl (c_n_beatsOf hI (z19) l19 (Int.le_trans u19 (by decide : (46:Int) ≤ 1752)) (w22) u22) rfl (fun w23 q23 => ?_)
          have q23 : (0 ≤ w23.toInt ∧ w23.toInt < 16777216) ∧ (0 ≤ w22.toInt → w23 = (s_bt (fun t => gi 70 (z19.toNatClampNeg + t)) w22.toNatClampNeg).1) := q23
          refine ev_retK1 f_X12_soundOf rfl rfl rfl ?_
          refine ev_loc f_X12_alikeBy (nx := 37) rfl rfl rfl rfl ?_
          refine ev_inS2 f_X12_alikeBy (nx := 40) (lo2 := [(0, .long w23), (2, .int ar1)]) rfl rfl rfl rfl f_X12_echoed rfl rfl rfl rfl ?_
          refine ev_loc f_X12_echoed (nx := 1) rfl rfl rfl rfl ?_
          refine ev_if f_X12_echoed (t1 := 4) (t2 := 8) rfl rfl rfl (fun h24 => ?_) (fun h24 => ?_)
          · have u25 : ar1.toInt ≤ 0 := t_equ h24 (by decide : (0:Int32).toInt ≤ (0:Int))
            refine ev_loc f_X12_echoed (nx := 5) rfl rfl rfl rfl ?_
            refine ev_jmp f_X12_echoed (nx := 13) rfl rfl rfl ?_
            refine ev_retK1 f_X12_echoed rfl rfl rfl ?_
            refine ev_loc f_X12_alikeBy (nx := 41) rfl rfl rfl rfl ?_
            refine ev_loc f_X12_alikeBy (nx := 43) rfl rfl rfl rfl ?_
            refine ev_inV2 f_X12_alikeBy (nx := 46) (lo2 := [(0, .ref 69), (1, .int y9_4)]) rfl rfl rfl rfl f_X12_soundOf (hI.wf.s rfl) rfl rfl rfl rfl rfl ?_
            refine ev_loc f_X12_soundOf (nx := 1) rfl rfl rfl rfl ?_
            refine ev_bp f_X12_soundOf (nx := 3) (v := 10) rfl (by decide) rfl ?_
            refine ev_bp f_X12_soundOf (nx := 5) (v := 7) rfl (by decide) rfl ?_
            refine ev_loc f_X12_soundOf (nx := 6) rfl rfl rfl rfl ?_
            refine ev_mulL f_X12_soundOf (nx := 7) (c := 7) (l := 7) (u := 35) rfl (by decide) (by decide) l9_4 u15 rfl rfl (by decide) (by decide) rfl (fun z26 e26 l26 u26 => ?_)
            refine ev_addK f_X12_soundOf (nx := 8) (c := 10) (l := 17) (u := 45) rfl (by decide) l26 u26 rfl rfl (by decide) (by decide) rfl (fun z27 e27 l27 u27 => ?_)
            refine ev_ic f_X12_soundOf (nx := 9) (v := 1) rfl (by decide) rfl ?_
            refine ev_addC f_X12_soundOf (nx := 10) (c := 1) (l := 18) (u := 46) rfl (by decide) l27 u27 rfl rfl (by decide) (by decide) rfl (fun z28 e28 l28 u28 => ?_)
            refine ev_loc f_X12_soundOf (nx := 11) rfl rfl rfl rfl ?_
            refine ev_getR f_X12_soundOf (nx := 14) rfl (hI.wf.s rfl) rfl rfl (hI.wf.r rfl) rfl rfl ?_
            refine ev_bp f_X12_soundOf (nx := 16) (v := 10) rfl (by decide) rfl ?_
            refine ev_bp f_X12_soundOf (nx := 18) (v := 7) rfl (by decide) rfl ?_
            refine ev_loc f_X12_soundOf (nx := 19) rfl rfl rfl rfl ?_
            refine ev_mulL f_X12_soundOf (nx := 20) (c := 7) (l := 7) (u := 35) rfl (by decide) (by decide) l9_4 u15 rfl rfl (by decide) (by decide) rfl (fun z29 e29 l29 u29 => ?_)
            refine ev_addK f_X12_soundOf (nx := 21) (c := 10) (l := 17) (u := 45) rfl (by decide) l29 u29 rfl rfl (by decide) (by decide) rfl (fun z30 e30 l30 u30 => ?_)
            refine ev_ialdT f_X12_soundOf (nx := 22) rfl (hI.wf.s rfl) l30 (by decide) u30 (by decide) rfl (fun w31 e31 => ?_)
            obtain ⟨l31, u31⟩ := hI.abA (x := y9_4) e31 (by decide +kernel : t_aba 70 10 7 1 5 (-900) 6 = true) (by omega) (by omega) (by omega)
            refine ev_qL0 f_X12_soundOf (nx := 25) (r := []) rfl rfl rfl rfl rfl rfl rfl (c_n_beatsOf hI (z28) (Int.le_trans (by decide : (11:Int) ≤ 18) l28) (Int.le_trans u28 (by decide : (46:Int) ≤ 1752)) (w31) u31) rfl (fun w32 q32 => ?_)
            have q32 : (0 ≤ w32.toInt ∧ w32.toInt < 16777216) ∧ (0 ≤ w31.toInt → w32 = (s_bt (fun t => gi 70 (z28.toNatClampNeg + t)) w31.toNatClampNeg).1) := q32
            refine ev_retK1 f_X12_soundOf rfl rfl rfl ?_
            refine ev_loc f_X12_alikeBy (nx := 47) rfl rfl rfl rfl ?_
            refine ev_inS2 f_X12_alikeBy (nx := 50) (lo2 := [(0, .long w32), (2, .int ar1)]) rfl rfl rfl rfl f_X12_echoed rfl rfl rfl rfl ?_
            refine ev_loc f_X12_echoed (nx := 1) rfl rfl rfl rfl ?_
            refine ev_t f_X12_echoed (t1 := 4) (t2 := 8) rfl rfl rfl (t_eqT u25 l_a1 (by decide : (0:Int32).toInt ≤ (0:Int)) (by decide : (0:Int) ≤ (0:Int32).toInt)) ?_
            refine ev_loc f_X12_echoed (nx := 5) rfl rfl rfl rfl ?_
            refine ev_jmp f_X12_echoed (nx := 13) rfl rfl rfl ?_
            refine ev_retK1 f_X12_echoed rfl rfl rfl ?_
            refine ev_anyIE f_X12_alikeBy (nx := 51) rfl rfl rfl rfl (fun z33 e33 => ?_)
            refine ev_if f_X12_alikeBy (t1 := 54) (t2 := 58) rfl rfl rfl (fun h34 => ?_) (fun h34 => ?_)
            · have u35 : z33.toInt ≤ 0 := t_equ h34 (by decide : (0:Int32).toInt ≤ (0:Int))
              have l36 : 0 ≤ z33.toInt := t_eql h34 (by decide : (0:Int) ≤ (0:Int32).toInt)
              refine ev_ic f_X12_alikeBy (nx := 55) (v := 1) rfl (by decide) rfl ?_
              refine ev_jmp f_X12_alikeBy (nx := 59) rfl rfl rfl ?_
              refine ev_addC f_X12_alikeBy (nx := 60) (c := 1) (l := 1) (u := 43) rfl (by decide) l9_2 u9_2 rfl rfl (by decide) (by decide) rfl (fun z37 e37 l37 u37 => ?_)
              refine ev_loc f_X12_alikeBy (nx := 61) (lo' := [(2, .int z37), (4, .int y9_4), (3, .int y1_3), (0, .ref 69), (1, .int ar1)]) rfl rfl rfl rfl ?_
              refine ev_incR f_X12_alikeBy (nx := 64) (c := 1) (l := 2) (u := 6) rfl rfl (by decide) (by decide) l9_4 u15 rfl rfl (by decide) (by decide) rfl (fun z38 e38 l38 u38 => ?_)
              refine ev_jmp f_X12_alikeBy (nx := 19) rfl rfl rfl ?_
              refine ev_sub (lo := [(4, .int z38), (3, .int y1_3), (2, .int z37), (0, .ref 69), (1, .int ar1)]) rfl (t_sc rfl (t_sc rfl (t_sc rfl (t_sc rfl (t_sc rfl t_sn))))) ?_
              exact ih9 _ (by omega) (z38) (z37) (Int.le_trans (by decide : (1:Int) ≤ 2) l38) u38 (Int.le_trans (by decide : (0:Int) ≤ 1) l37) (by omega : z37.toInt ≤ (42:Int)) (by omega) (by
                                                            intro D hm hb
                                                            obtain ⟨g1, g2, g3⟩ := j9_1 D hm hb
                                                            have h0 : (gi 70 0).toInt = D 0 := hm.1.1.1
                                                            have ha : w23 = s_ec (s_so D y1_3.toNatClampNeg) ar1.toInt := by
                                                              have ka := t_clamp (i := y1_3) (by omega)
                                                              have kz := t_clamp (i := z19) (by omega)
                                                              have ki := t_clamp (i := z21) (by omega)
                                                              have hw := s_so_q (g := gi 70) (hm.2.1 y1_3.toNatClampNeg (by omega)) e22 (by omega) (by omega) q23.2
                                                              rw [show ar1.toInt = 0 by omega, s_ec_0]; exact hw
                                                            have hb2 : w32 = s_ec (s_so D y9_4.toNatClampNeg) ar1.toInt := by
                                                              have ka := t_clamp (i := y9_4) (by omega)
                                                              have kz := t_clamp (i := z28) (by omega)
                                                              have ki := t_clamp (i := z30) (by omega)
                                                              have hw := s_so_q (g := gi 70) (hm.2.1 y9_4.toNatClampNeg (by omega)) e31 (by omega) (by omega) q32.2
                                                              rw [show ar1.toInt = 0 by omega, s_ec_0]; exact hw
                                                            have hne := (t_le0 e33 h34)
                                                            rw [ha, hb2] at hne
                                                            exact ⟨s_ai_y g1 (by omega) (by omega) hne (by omega) (by omega), by omega, by omega⟩) rfl
            · have r39 : z33.toInt ≠ 0 := fun e => h34 (Int32.toInt_inj.mp (e.trans (by decide : (0:Int) = (0 : Int32).toInt)))
              refine ev_ic f_X12_alikeBy (nx := 59) (v := 0) rfl (by decide) rfl ?_
              refine ev_addC f_X12_alikeBy (nx := 60) (c := 0) (l := 0) (u := 42) rfl (by decide) l9_2 u9_2 rfl rfl (by decide) (by decide) rfl (fun z40 e40 l40 u40 => ?_)
              refine ev_loc f_X12_alikeBy (nx := 61) (lo' := [(2, .int z40), (4, .int y9_4), (3, .int y1_3), (0, .ref 69), (1, .int ar1)]) rfl rfl rfl rfl ?_
              refine ev_incR f_X12_alikeBy (nx := 64) (c := 1) (l := 2) (u := 6) rfl rfl (by decide) (by decide) l9_4 u15 rfl rfl (by decide) (by decide) rfl (fun z41 e41 l41 u41 => ?_)
              refine ev_jmp f_X12_alikeBy (nx := 19) rfl rfl rfl ?_
              refine ev_sub (lo := [(4, .int z41), (3, .int y1_3), (2, .int z40), (0, .ref 69), (1, .int ar1)]) rfl (t_sc rfl (t_sc rfl (t_sc rfl (t_sc rfl (t_sc rfl t_sn))))) ?_
              exact ih9 _ (by omega) (z41) (z40) (Int.le_trans (by decide : (1:Int) ≤ 2) l41) u41 l40 u40 (by omega) (by
                                                            intro D hm hb
                                                            obtain ⟨g1, g2, g3⟩ := j9_1 D hm hb
                                                            have h0 : (gi 70 0).toInt = D 0 := hm.1.1.1
                                                            have ha : w23 = s_ec (s_so D y1_3.toNatClampNeg) ar1.toInt := by
                                                              have ka := t_clamp (i := y1_3) (by omega)
                                                              have kz := t_clamp (i := z19) (by omega)
                                                              have ki := t_clamp (i := z21) (by omega)
                                                              have hw := s_so_q (g := gi 70) (hm.2.1 y1_3.toNatClampNeg (by omega)) e22 (by omega) (by omega) q23.2
                                                              rw [show ar1.toInt = 0 by omega, s_ec_0]; exact hw
                                                            have hb2 : w32 = s_ec (s_so D y9_4.toNatClampNeg) ar1.toInt := by
                                                              have ka := t_clamp (i := y9_4) (by omega)
                                                              have kz := t_clamp (i := z28) (by omega)
                                                              have ki := t_clamp (i := z30) (by omega)
                                                              have hw := s_so_q (g := gi 70) (hm.2.1 y9_4.toNatClampNeg (by omega)) e31 (by omega) (by omega) q32.2
                                                              rw [show ar1.toInt = 0 by omega, s_ec_0]; exact hw
                                                            have hne := (t_le1 e33 h34)
                                                            rw [ha, hb2] at hne
                                                            exact ⟨s_ai_n g1 (by omega) (by omega) hne (by omega) (by omega), by omega, by omega⟩) rfl
          · have r42 : ar1.toInt ≠ 0 := fun e => h24 (Int32.toInt_inj.mp (e.trans (by decide : (0:Int) = (0 : Int32).toInt)))
            have l43 : 1 ≤ ar1.toInt := t_nel h24 l_a1 rfl rfl
            refine ev_loc f_X12_echoed (nx := 9) rfl rfl rfl rfl ?_
            refine ev_loc f_X12_echoed (nx := 10) rfl rfl rfl rfl ?_
            refine ev_loc f_X12_echoed (nx := 11) rfl rfl rfl rfl ?_
            refine ev_anyLE f_X12_echoed (nx := 12) rfl rfl rfl rfl (fun z44 e44 => ?_)
            refine ev_anyLE f_X12_echoed (nx := 13) rfl rfl rfl rfl (fun z45 e45 => ?_)
            refine ev_retK1 f_X12_echoed rfl rfl rfl ?_
            refine ev_loc f_X12_alikeBy (nx := 41) rfl rfl rfl rfl ?_
            refine ev_loc f_X12_alikeBy (nx := 43) rfl rfl rfl rfl ?_
            refine ev_inV2 f_X12_alikeBy (nx := 46) (lo2 := [(0, .ref 69), (1, .int y9_4)]) rfl rfl rfl rfl f_X12_soundOf (hI.wf.s rfl) rfl rfl rfl rfl rfl ?_
            refine ev_loc f_X12_soundOf (nx := 1) rfl rfl rfl rfl ?_
            refine ev_bp f_X12_soundOf (nx := 3) (v := 10) rfl (by decide) rfl ?_
            refine ev_bp f_X12_soundOf (nx := 5) (v := 7) rfl (by decide) rfl ?_
            refine ev_loc f_X12_soundOf (nx := 6) rfl rfl rfl rfl ?_
            refine ev_mulL f_X12_soundOf (nx := 7) (c := 7) (l := 7) (u := 35) rfl (by decide) (by decide) l9_4 u15 rfl rfl (by decide) (by decide) rfl (fun z46 e46 l46 u46 => ?_)
            refine ev_addK f_X12_soundOf (nx := 8) (c := 10) (l := 17) (u := 45) rfl (by decide) l46 u46 rfl rfl (by decide) (by decide) rfl (fun z47 e47 l47 u47 => ?_)
            refine ev_ic f_X12_soundOf (nx := 9) (v := 1) rfl (by decide) rfl ?_
            refine ev_addC f_X12_soundOf (nx := 10) (c := 1) (l := 18) (u := 46) rfl (by decide) l47 u47 rfl rfl (by decide) (by decide) rfl (fun z48 e48 l48 u48 => ?_)
            refine ev_loc f_X12_soundOf (nx := 11) rfl rfl rfl rfl ?_
            refine ev_getR f_X12_soundOf (nx := 14) rfl (hI.wf.s rfl) rfl rfl (hI.wf.r rfl) rfl rfl ?_
            refine ev_bp f_X12_soundOf (nx := 16) (v := 10) rfl (by decide) rfl ?_
            refine ev_bp f_X12_soundOf (nx := 18) (v := 7) rfl (by decide) rfl ?_
            refine ev_loc f_X12_soundOf (nx := 19) rfl rfl rfl rfl ?_
            refine ev_mulL f_X12_soundOf (nx := 20) (c := 7) (l := 7) (u := 35) rfl (by decide) (by decide) l9_4 u15 rfl rfl (by decide) (by decide) rfl (fun z49 e49 l49 u49 => ?_)
            refine ev_addK f_X12_soundOf (nx := 21) (c := 10) (l := 17) (u := 45) rfl (by decide) l49 u49 rfl rfl (by decide) (by decide) rfl (fun z50 e50 l50 u50 => ?_)
            refine ev_ialdT f_X12_soundOf (nx := 22) rfl (hI.wf.s rfl) l50 (by decide) u50 (by decide) rfl (fun w51 e51 => ?_)
            obtain ⟨l51, u51⟩ := hI.abA (x := y9_4) e51 (by decide +kernel : t_aba 70 10 7 1 5 (-900) 6 = true) (by omega) (by omega) (by omega)
            refine ev_qL0 f_X12_soundOf (nx := 25) (r := []) rfl rfl rfl rfl rfl rfl rfl (c_n_beatsOf hI (z48) (Int.le_trans (by decide : (11:Int) ≤ 18) l48) (Int.le_trans u48 (by decide : (46:Int) ≤ 1752)) (w51) u51) rfl (fun w52 q52 => ?_)
            have q52 : (0 ≤ w52.toInt ∧ w52.toInt < 16777216) ∧ (0 ≤ w51.toInt → w52 = (s_bt (fun t => gi 70 (z48.toNatClampNeg + t)) w51.toNatClampNeg).1) := q52
            refine ev_retK1 f_X12_soundOf rfl rfl rfl ?_
            refine ev_loc f_X12_alikeBy (nx := 47) rfl rfl rfl rfl ?_
            refine ev_inS2 f_X12_alikeBy (nx := 50) (lo2 := [(0, .long w52), (2, .int ar1)]) rfl rfl rfl rfl f_X12_echoed rfl rfl rfl rfl ?_
            refine ev_loc f_X12_echoed (nx := 1) rfl rfl rfl rfl ?_
            refine ev_f f_X12_echoed (t1 := 4) (t2 := 8) rfl rfl rfl (t_neT' (by decide : (0:Int32).toInt ≤ (0:Int)) l43 (by decide)) ?_
            refine ev_loc f_X12_echoed (nx := 9) rfl rfl rfl rfl ?_
            refine ev_loc f_X12_echoed (nx := 10) rfl rfl rfl rfl ?_
            refine ev_loc f_X12_echoed (nx := 11) rfl rfl rfl rfl ?_
            refine ev_anyLE f_X12_echoed (nx := 12) rfl rfl rfl rfl (fun z53 e53 => ?_)
            refine ev_anyLE f_X12_echoed (nx := 13) rfl rfl rfl rfl (fun z54 e54 => ?_)
            refine ev_retK1 f_X12_echoed rfl rfl rfl ?_
            refine ev_anyIE f_X12_alikeBy (nx := 51) rfl rfl rfl rfl (fun z55 e55 => ?_)
            refine ev_if f_X12_alikeBy (t1 := 54) (t2 := 58) rfl rfl rfl (fun h56 => ?_) (fun h56 => ?_)
            · have u57 : z55.toInt ≤ 0 := t_equ h56 (by decide : (0:Int32).toInt ≤ (0:Int))
              have l58 : 0 ≤ z55.toInt := t_eql h56 (by decide : (0:Int) ≤ (0:Int32).toInt)
              refine ev_ic f_X12_alikeBy (nx := 55) (v := 1) rfl (by decide) rfl ?_
              refine ev_jmp f_X12_alikeBy (nx := 59) rfl rfl rfl ?_
              refine ev_addC f_X12_alikeBy (nx := 60) (c := 1) (l := 1) (u := 43) rfl (by decide) l9_2 u9_2 rfl rfl (by decide) (by decide) rfl (fun z59 e59 l59 u59 => ?_)
              refine ev_loc f_X12_alikeBy (nx := 61) (lo' := [(2, .int z59), (4, .int y9_4), (3, .int y1_3), (0, .ref 69), (1, .int ar1)]) rfl rfl rfl rfl ?_
              refine ev_incR f_X12_alikeBy (nx := 64) (c := 1) (l := 2) (u := 6) rfl rfl (by decide) (by decide) l9_4 u15 rfl rfl (by decide) (by decide) rfl (fun z60 e60 l60 u60 => ?_)
              refine ev_jmp f_X12_alikeBy (nx := 19) rfl rfl rfl ?_
              refine ev_sub (lo := [(4, .int z60), (3, .int y1_3), (2, .int z59), (0, .ref 69), (1, .int ar1)]) rfl (t_sc rfl (t_sc rfl (t_sc rfl (t_sc rfl (t_sc rfl t_sn))))) ?_
              exact ih9 _ (by omega) (z60) (z59) (Int.le_trans (by decide : (1:Int) ≤ 2) l60) u60 (Int.le_trans (by decide : (0:Int) ≤ 1) l59) (by omega : z59.toInt ≤ (42:Int)) (by omega) (by
                                                            intro D hm hb
                                                            obtain ⟨g1, g2, g3⟩ := j9_1 D hm hb
                                                            have h0 : (gi 70 0).toInt = D 0 := hm.1.1.1
                                                            have ha : z45 = s_ec (s_so D y1_3.toNatClampNeg) ar1.toInt := by
                                                              have ka := t_clamp (i := y1_3) (by omega)
                                                              have kz := t_clamp (i := z19) (by omega)
                                                              have ki := t_clamp (i := z21) (by omega)
                                                              have hw := s_so_q (g := gi 70) (hm.2.1 y1_3.toNatClampNeg (by omega)) e22 (by omega) (by omega) q23.2
                                                              rw [← hw]
                                                              exact s_ec_e e44 e45 rfl
                                                            have hb2 : z54 = s_ec (s_so D y9_4.toNatClampNeg) ar1.toInt := by
                                                              have ka := t_clamp (i := y9_4) (by omega)
                                                              have kz := t_clamp (i := z48) (by omega)
                                                              have ki := t_clamp (i := z50) (by omega)
                                                              have hw := s_so_q (g := gi 70) (hm.2.1 y9_4.toNatClampNeg (by omega)) e51 (by omega) (by omega) q52.2
                                                              rw [← hw]
                                                              exact s_ec_e e53 e54 rfl
                                                            have hne := (t_le0 e55 h56)
                                                            rw [ha, hb2] at hne
                                                            exact ⟨s_ai_y g1 (by omega) (by omega) hne (by omega) (by omega), by omega, by omega⟩) rfl
            · have r61 : z55.toInt ≠ 0 := fun e => h56 (Int32.toInt_inj.mp (e.trans (by decide : (0:Int) = (0 : Int32).toInt)))
              refine ev_ic f_X12_alikeBy (nx := 59) (v := 0) rfl (by decide) rfl ?_
              refine ev_addC f_X12_alikeBy (nx := 60) (c := 0) (l := 0) (u := 42) rfl (by decide) l9_2 u9_2 rfl rfl (by decide) (by decide) rfl (fun z62 e62 l62 u62 => ?_)
              refine ev_loc f_X12_alikeBy (nx := 61) (lo' := [(2, .int z62), (4, .int y9_4), (3, .int y1_3), (0, .ref 69), (1, .int ar1)]) rfl rfl rfl rfl ?_
              refine ev_incR f_X12_alikeBy (nx := 64) (c := 1) (l := 2) (u := 6) rfl rfl (by decide) (by decide) l9_4 u15 rfl rfl (by decide) (by decide) rfl (fun z63 e63 l63 u63 => ?_)
              refine ev_jmp f_X12_alikeBy (nx := 19) rfl rfl rfl ?_
              refine ev_sub (lo := [(4, .int z63), (3, .int y1_3), (2, .int z62), (0, .ref 69), (1, .int ar1)]) rfl (t_sc rfl (t_sc rfl (t_sc rfl (t_sc rfl (t_sc rfl t_sn))))) ?_
              exact ih9 _ (by omega) (z63) (z62) (Int.le_trans (by decide : (1:Int) ≤ 2) l63) u63 l62 u62 (by omega) (by
                                                            intro D hm hb
                                                            obtain ⟨g1, g2, g3⟩ := j9_1 D hm hb
                                                            have h0 : (gi 70 0).toInt = D 0 := hm.1.1.1
                                                            have ha : z45 = s_ec (s_so D y1_3.toNatClampNeg) ar1.toInt := by
                                                              have ka := t_clamp (i := y1_3) (by omega)
                                                              have kz := t_clamp (i := z19) (by omega)
                                                              have ki := t_clamp (i := z21) (by omega)
                                                              have hw := s_so_q (g := gi 70) (hm.2.1 y1_3.toNatClampNeg (by omega)) e22 (by omega) (by omega) q23.2
                                                              rw [← hw]
                                                              exact s_ec_e e44 e45 rfl
                                                            have hb2 : z54 = s_ec (s_so D y9_4.toNatClampNeg) ar1.toInt := by
                                                              have ka := t_clamp (i := y9_4) (by omega)
                                                              have kz := t_clamp (i := z48) (by omega)
                                                              have ki := t_clamp (i := z50) (by omega)
                                                              have hw := s_so_q (g := gi 70) (hm.2.1 y9_4.toNatClampNeg (by omega)) e51 (by omega) (by omega) q52.2
                                                              rw [← hw]
                                                              exact s_ec_e e53 e54 rfl
                                                            have hne := (t_le1 e55 h56)
                                                            rw [ha, hb2] at hne
                                                            exact ⟨s_ai_n g1 (by omega) (by omega) hne (by omega) (by omega), by omega, by omega⟩) rfl
      refine ev_sub (lo := [(4, .int z8), (3, .int y1_3), (2, .int y1_2), (0, .ref 69), (1, .int ar1)]) rfl (t_sc rfl (t_sc rfl (t_sc rfl (t_sc rfl (t_sc rfl t_sn))))) ?_
      exact L9 _ (z8) (y1_2) l8 u8 l1_2 (Int.le_trans u1_2 (by decide : (36:Int) ≤ 42)) (by omega) (by
                                                            intro D hm hb
                                                            obtain ⟨g1, g2⟩ := j1_1 D hm hb
                                                            have h0 : (gi 70 0).toInt = D 0 := hm.1.1.1
                                                            refine ⟨s_ai_b g1 (by omega) (by omega), by omega, by omega⟩) rfl
  refine ev_sub (lo := [(3, .int 0), (2, .int 0), (0, .ref 69), (1, .int ar1)]) rfl (t_sc rfl (t_sc rfl (t_sc rfl (t_sc rfl t_sn)))) ?_
  exact L1 _ (0) (0) (by decide : (0:Int) ≤ (0:Int32).toInt) (Int.le_trans (by decide : (0:Int32).toInt ≤ (0:Int)) (by decide : (0:Int) ≤ 6)) (by decide : (0:Int) ≤ (0:Int32).toInt) (Int.le_trans (by decide : (0:Int32).toInt ≤ (0:Int)) (by decide : (0:Int) ≤ 36)) (by have kf64 : (0 : Int32).toInt = 0 := (by decide); omega) (fun D hm hb => ⟨rfl, by have z0 : (0 : Int32).toInt = 0 := rfl; have := hb.1.1; omega⟩) rfl
noncomputable def wl_d_alike : List (Nat × Nat) := [(0, 0)]
noncomputable def Q_d_alike (gi : Nat → Nat → Int32) (gl : Nat → Nat → Int64) (gr : Nat → Nat → Value) : Int32 → (Nat → Nat → Int32) → (Nat → Nat → Int64) → (Nat → Nat → Value) → Prop := fun (v : Int32) (gi2 : Nat → Nat → Int32) (gl2 : Nat → Nat → Int64) (gr2 : Nat → Nat → Value) => ∀ (u : Nat) (D : s_D), gr 0 6 = .ref u → t_VL gr u → t_CV gi gl u D → t_Cb D → v.toInt = s_al D (D 7)
theorem c_d_alike {X : x_Ext} {d : Nat} {sh : List (Nat ⊕ (Nat × Nat))} {gi : Nat → Nat → Int32} {gl : Nat → Nat → Int64} {gr : Nat → Nat → Value} (hI : t_I sh gi gr) : x_Me X (d + 3) n_X11_alike [.ref 0] (sh, gi, gl, gr) (t_PI wl_d_alike sh gi gl gr 0 36 (Q_d_alike gi gl gr)) := by
  have hX : t_X wl_d_alike sh gi gl gr gi gl gr := t_X.rf
  refine me_i f_X11_alike (hI.wf.s rfl) rfl rfl rfl ?_
  refine ev_loc f_X11_alike (nx := 1) rfl rfl rfl rfl ?_
  refine ev_loc f_X11_alike (nx := 2) rfl rfl rfl rfl ?_
  obtain ⟨a1, e1, p1⟩ := hI.2.2.2.1.1
  refine ev_getR f_X11_alike (nx := 5) rfl (hI.wf.s rfl) rfl rfl e1 rfl rfl ?_
  refine ev_loc f_X11_alike (nx := 6) rfl rfl rfl rfl ?_
  refine ev_getR f_X11_alike (nx := 9) (v := .ref a1) rfl (hI.wf.s rfl) rfl rfl e1 rfl rfl ?_
  refine ev_getI f_X11_alike (nx := 12) rfl p1.1 rfl rfl rfl ?_
  refine ev_qI0 f_X11_alike (nx := 15) (r := [.ref 0]) rfl rfl rfl rfl rfl rfl rfl (c_d_couplesAlike hI (a1) p1 ((gi a1 6))) rfl (fun w2 l2 u2 q2 => ?_)
  have q2 : ∀ D : s_D, t_VL gr a1 → t_CV gi gl a1 D → t_Cb D → w2.toInt = s_al D (gi a1 6).toInt := q2
  refine ev_inV2 f_X11_alike (nx := 18) (lo2 := [(0, .ref 0), (1, .int w2)]) rfl rfl rfl rfl f_X11_answer (hI.wf.s rfl) rfl rfl rfl rfl rfl ?_
  refine ev_loc f_X11_answer (nx := 1) rfl rfl rfl rfl ?_
  refine ev_ic f_X11_answer (nx := 2) (v := 0) rfl (by decide) rfl ?_
  refine ev_putIT f_X11_answer (nx := 5) rfl (hI.wf.s rfl) rfl rfl rfl (hI.put0 (hI.wf.s rfl) rfl rfl) (hX.upI rfl) (fun g3 e3 hI hX => ?_)
  refine ev_loc f_X11_answer (nx := 6) rfl rfl rfl rfl ?_
  refine ev_retK1 f_X11_answer rfl rfl rfl ?_
  exact ev_ret f_X11_alike rfl rfl rfl ⟨_, _, _, rfl, hI, hX, ⟨_, rfl, l2, u2, (show ∀ (u : Nat) (D : s_D), gr 0 6 = .ref u → t_VL gr u → t_CV gi gl u D → t_Cb D → w2.toInt = s_al D (D 7) from (by
                                                            intro u D hu hl hc hb
                                                            have ha : a1 = u := Value.ref.inj (e1.symm.trans hu)
                                                            subst ha
                                                            have hq := q2 D hl hc hb
                                                            rw [hc.2.1.2.2.2] at hq
                                                            exact hq))⟩⟩
noncomputable def wl_e_alike : List (Nat × Nat) := [(69, 2)]
noncomputable def Q_e_alike (gi : Nat → Nat → Int32) (gl : Nat → Nat → Int64) (gr : Nat → Nat → Value) : Int32 → (Nat → Nat → Int32) → (Nat → Nat → Int64) → (Nat → Nat → Value) → Prop := fun (v : Int32) (gi2 : Nat → Nat → Int32) (gl2 : Nat → Nat → Int64) (gr2 : Nat → Nat → Value) => ∀ D : s_D, t_ME 0 gi D → t_Cb D → v.toInt = s_al D (D 7)
theorem c_e_alike {X : x_Ext} {d : Nat} {sh : List (Nat ⊕ (Nat × Nat))} {gi : Nat → Nat → Int32} {gl : Nat → Nat → Int64} {gr : Nat → Nat → Value} (hI : t_I sh gi gr) : x_Me X (d + 4) n_X12_alike [.ref 69] (sh, gi, gl, gr) (t_PI wl_e_alike sh gi gl gr 0 36 (Q_e_alike gi gl gr)) := by
  have hX : t_X wl_e_alike sh gi gl gr gi gl gr := t_X.rf
  refine me_i f_X12_alike (hI.wf.s rfl) rfl rfl rfl ?_
  refine ev_loc f_X12_alike (nx := 1) rfl rfl rfl rfl ?_
  refine ev_loc f_X12_alike (nx := 2) rfl rfl rfl rfl ?_
  refine ev_loc f_X12_alike (nx := 3) rfl rfl rfl rfl ?_
  refine ev_getR f_X12_alike (nx := 6) rfl (hI.wf.s rfl) rfl rfl (hI.wf.r rfl) rfl rfl ?_
  refine ev_bp f_X12_alike (nx := 8) (v := 7) rfl (by decide) rfl ?_
  obtain ⟨l1, u1⟩ := hI.ab (by decide +kernel : t_abr 70 7 7 0 9 = true) (Nat.le_refl _) (Nat.le_refl _)
  refine ev_ialdv f_X12_alike (nx := 9) (w := (gi 70 7)) rfl (hI.wf.s rfl) (by decide) (rfl : (7 : Int32).toNatClampNeg = 7) (by decide) rfl rfl ?_
  refine ev_qI0 f_X12_alike (nx := 12) (r := [.ref 69]) rfl rfl rfl rfl rfl rfl rfl (c_n_alikeBy hI ((gi 70 7)) l1 u1) rfl (fun w2 l2 u2 q2 => ?_)
  have q2 : ∀ D : s_D, t_ME 0 gi D → t_Cb D → w2.toInt = s_al D (gi 70 7).toInt := q2
  refine ev_inV2 f_X12_alike (nx := 15) (lo2 := [(0, .ref 69), (1, .int w2)]) rfl rfl rfl rfl f_X12_gives (hI.wf.s rfl) rfl rfl rfl rfl rfl ?_
  refine ev_loc f_X12_gives (nx := 1) rfl rfl rfl rfl ?_
  refine ev_ic f_X12_gives (nx := 2) (v := 0) rfl (by decide) rfl ?_
  refine ev_putIT f_X12_gives (nx := 5) rfl (hI.wf.s rfl) rfl rfl rfl (hI.put0 (hI.wf.s rfl) rfl rfl) (hX.upI rfl) (fun g3 e3 hI hX => ?_)
  refine ev_loc f_X12_gives (nx := 6) rfl rfl rfl rfl ?_
  refine ev_retK1 f_X12_gives rfl rfl rfl ?_
  exact ev_ret f_X12_alike rfl rfl rfl ⟨_, _, _, rfl, hI, hX, ⟨_, rfl, l2, u2, (show ∀ D : s_D, t_ME 0 gi D → t_Cb D → w2.toInt = s_al D (D 7) from (by
                                                            intro D hm hb
                                                            have hq := q2 D hm hb
                                                            have h7 : (gi 70 7).toInt = D 7 := hm.1.2.2.2.2
                                                            rw [h7] at hq
                                                            exact hq))⟩⟩
noncomputable def wl_d_clearEcho : List (Nat × Nat) := [(0, 0)]
noncomputable def Q_d_clearEcho (gi : Nat → Nat → Int32) (gl : Nat → Nat → Int64) (gr : Nat → Nat → Value) : Int32 → (Nat → Nat → Int32) → (Nat → Nat → Int64) → (Nat → Nat → Value) → Prop := fun (v : Int32) (gi2 : Nat → Nat → Int32) (gl2 : Nat → Nat → Int64) (gr2 : Nat → Nat → Value) => ∀ (u : Nat) (D : s_D), gr 0 6 = .ref u → t_VL gr u → t_CV gi gl u D → t_Cb D → v.toInt = s_ce D 10 0
theorem c_d_clearEcho {X : x_Ext} {d : Nat} {sh : List (Nat ⊕ (Nat × Nat))} {gi : Nat → Nat → Int32} {gl : Nat → Nat → Int64} {gr : Nat → Nat → Value} (hI : t_I sh gi gr) : x_Me X (d + 3) n_X11_clearEcho [.ref 0] (sh, gi, gl, gr) (t_PI wl_d_clearEcho sh gi gl gr (-1) 9 (Q_d_clearEcho gi gl gr)) := by
  have hX : t_X wl_d_clearEcho sh gi gl gr gi gl gr := t_X.rf
  refine me_i f_X11_clearEcho (hI.wf.s rfl) rfl rfl rfl ?_
  refine ev_ic f_X11_clearEcho (nx := 1) (v := 0) rfl (by decide) rfl ?_
  refine ev_loc f_X11_clearEcho (nx := 2) (lo' := [(1, .int 0), (0, .ref 0)]) rfl rfl rfl rfl ?_
  have L1 : ∀ (m1 : Nat) (y1_1 : Int32), 0 ≤ y1_1.toInt → y1_1.toInt ≤ 10 → (∀ (u : Nat) (D : s_D), gr 0 6 = .ref u → t_VL gr u → t_CV gi gl u D → t_Cb D → s_ce D 10 0 = s_ce D (10 - y1_1.toInt).toNat y1_1.toInt) → (10 - y1_1.toInt).toNat = m1 → x_Ev X (d + 3) n_X11_clearEcho 2 [(1, .int y1_1), (0, .ref 0)] [] (sh, gi, gl, gr) (t_PI wl_d_clearEcho sh gi gl gr (-1) 9 (Q_d_clearEcho gi gl gr)) := by
    intro m1
    induction m1 using Nat.strongRecOn with
    | _ m1 ih1 =>
    intro y1_1 l1_1 u1_1 j1_0 hm1
    refine ev_loc f_X11_clearEcho (nx := 3) rfl rfl rfl rfl ?_
    refine ev_bp f_X11_clearEcho (nx := 5) (v := 9) rfl (by decide) rfl ?_
    refine ev_if f_X11_clearEcho (t1 := 31) (t2 := 8) rfl rfl rfl (fun h2 => ?_) (fun h2 => ?_)
    · have l3 : 10 ≤ y1_1.toInt := t_ltl h2 (by decide : (9:Int) ≤ (9:Int32).toInt) rfl
      refine ev_loc f_X11_clearEcho (nx := 32) rfl rfl rfl rfl ?_
      refine ev_bp f_X11_clearEcho (nx := 34) (v := 6) rfl (by decide) rfl ?_
      refine ev_inV2 f_X11_clearEcho (nx := 37) (lo2 := [(0, .ref 0), (1, .int 6)]) rfl rfl rfl rfl f_X11_refuse (hI.wf.s rfl) rfl rfl rfl rfl rfl ?_
      refine ev_loc f_X11_refuse (nx := 1) rfl rfl rfl rfl ?_
      refine ev_loc f_X11_refuse (nx := 2) rfl rfl rfl rfl ?_
      refine ev_putIT f_X11_refuse (nx := 5) rfl (hI.wf.s rfl) rfl rfl rfl (hI.put0 (hI.wf.s rfl) rfl rfl) (hX.upI rfl) (fun g4 e4 hI hX => ?_)
      refine ev_ic f_X11_refuse (nx := 6) (v := -1) rfl (by decide) rfl ?_
      refine ev_retK1 f_X11_refuse rfl rfl rfl ?_
      exact ev_ret f_X11_clearEcho rfl rfl rfl ⟨_, _, _, rfl, hI, hX, ⟨_, rfl, (by decide : ((-1):Int) ≤ ((-1):Int32).toInt), (Int.le_trans (by decide : ((-1):Int32).toInt ≤ ((-1):Int)) (by decide : ((-1):Int) ≤ 9)), (show ∀ (u : Nat) (D : s_D), gr 0 6 = .ref u → t_VL gr u → t_CV gi gl u D → t_Cb D → ((-1) : Int) = s_ce D 10 0 from (by
                                                            intro u D hu hl hc hb
                                                            have g1 := j1_0 u D hu hl hc hb
                                                            exact (s_ce_e g1 (by omega)).symm))⟩⟩
    · have u5 : y1_1.toInt ≤ 9 := t_leu (t_nlt h2) (by decide : (9:Int32).toInt ≤ (9:Int))
      refine ev_loc f_X11_clearEcho (nx := 9) rfl rfl rfl rfl ?_
      obtain ⟨a6, e6, p6⟩ := hI.2.2.2.1.1
      refine ev_getR f_X11_clearEcho (nx := 12) rfl (hI.wf.s rfl) rfl rfl e6 rfl rfl ?_
      refine ev_loc f_X11_clearEcho (nx := 13) rfl rfl rfl rfl ?_
      refine ev_qI0 f_X11_clearEcho (nx := 16) (r := []) rfl rfl rfl rfl rfl rfl rfl (c_d_couplesAlike hI (a6) p6 (y1_1)) rfl (fun w7 l7 u7 q7 => ?_)
      have q7 : ∀ D : s_D, t_VL gr a6 → t_CV gi gl a6 D → t_Cb D → w7.toInt = s_al D y1_1.toInt := q7
      refine ev_if f_X11_clearEcho (t1 := 19) (t2 := 25) rfl rfl rfl (fun h8 => ?_) (fun h8 => ?_)
      · have u9 : w7.toInt ≤ 0 := t_equ h8 (by decide : (0:Int32).toInt ≤ (0:Int))
        refine ev_loc f_X11_clearEcho (nx := 20) rfl rfl rfl rfl ?_
        refine ev_loc f_X11_clearEcho (nx := 21) rfl rfl rfl rfl ?_
        refine ev_inV2 f_X11_clearEcho (nx := 24) (lo2 := [(0, .ref 0), (1, .int y1_1)]) rfl rfl rfl rfl f_X11_answer (hI.wf.s rfl) rfl rfl rfl rfl rfl ?_
        refine ev_loc f_X11_answer (nx := 1) rfl rfl rfl rfl ?_
        refine ev_ic f_X11_answer (nx := 2) (v := 0) rfl (by decide) rfl ?_
        refine ev_putIT f_X11_answer (nx := 5) rfl (hI.wf.s rfl) rfl rfl rfl (hI.put0 (hI.wf.s rfl) rfl rfl) (hX.upI rfl) (fun g10 e10 hI hX => ?_)
        refine ev_loc f_X11_answer (nx := 6) rfl rfl rfl rfl ?_
        refine ev_retK1 f_X11_answer rfl rfl rfl ?_
        exact ev_ret f_X11_clearEcho rfl rfl rfl ⟨_, _, _, rfl, hI, hX, ⟨_, rfl, (Int.le_trans (by decide : ((-1):Int) ≤ 0) l1_1), u5, (show ∀ (u : Nat) (D : s_D), gr 0 6 = .ref u → t_VL gr u → t_CV gi gl u D → t_Cb D → y1_1.toInt = s_ce D 10 0 from (by
                                                            intro u D hu hl hc hb
                                                            have g1 := j1_0 u D hu hl hc hb
                                                            have ha : a6 = u := Value.ref.inj (e6.symm.trans hu)
                                                            subst ha
                                                            have hq := q7 D hl hc hb
                                                            exact (s_ce_f g1 (by omega) (by omega)).symm))⟩⟩
      · have r11 : w7.toInt ≠ 0 := fun e => h8 (Int32.toInt_inj.mp (e.trans (by decide : (0:Int) = (0 : Int32).toInt)))
        have l12 : 1 ≤ w7.toInt := t_nel h8 l7 rfl rfl
        refine ev_incR f_X11_clearEcho (nx := 28) (c := 1) (l := 1) (u := 10) rfl rfl (by decide) (by decide) l1_1 u5 rfl rfl (by decide) (by decide) rfl (fun z13 e13 l13 u13 => ?_)
        refine ev_jmp f_X11_clearEcho (nx := 2) rfl rfl rfl ?_
        refine ev_sub (lo := [(1, .int z13), (0, .ref 0)]) rfl (t_sc rfl (t_sc rfl t_sn)) ?_
        exact ih1 _ (by omega) (z13) (Int.le_trans (by decide : (0:Int) ≤ 1) l13) u13 (by
                                                            intro u D hu hl hc hb
                                                            have g1 := j1_0 u D hu hl hc hb
                                                            have ha : a6 = u := Value.ref.inj (e6.symm.trans hu)
                                                            subst ha
                                                            have hq := q7 D hl hc hb
                                                            exact s_ce_s g1 (by omega) (by omega) (by omega)) rfl
  refine ev_sub (lo := [(1, .int 0), (0, .ref 0)]) rfl (t_sc rfl (t_sc rfl t_sn)) ?_
  exact L1 _ (0) (by decide : (0:Int) ≤ (0:Int32).toInt) (Int.le_trans (by decide : (0:Int32).toInt ≤ (0:Int)) (by decide : (0:Int) ≤ 10)) (fun u D hu hl hc hb => rfl) rfl
noncomputable def wl_e_clearEcho : List (Nat × Nat) := [(69, 2)]
noncomputable def Q_e_clearEcho (gi : Nat → Nat → Int32) (gl : Nat → Nat → Int64) (gr : Nat → Nat → Value) : Int32 → (Nat → Nat → Int32) → (Nat → Nat → Int64) → (Nat → Nat → Value) → Prop := fun (v : Int32) (gi2 : Nat → Nat → Int32) (gl2 : Nat → Nat → Int64) (gr2 : Nat → Nat → Value) => ∀ D : s_D, t_ME 0 gi D → t_Cb D → v.toInt = s_ce D 10 0
theorem c_e_clearEcho {X : x_Ext} {d : Nat} {sh : List (Nat ⊕ (Nat × Nat))} {gi : Nat → Nat → Int32} {gl : Nat → Nat → Int64} {gr : Nat → Nat → Value} (hI : t_I sh gi gr) : x_Me X (d + 4) n_X12_clearEcho [.ref 69] (sh, gi, gl, gr) (t_PI wl_e_clearEcho sh gi gl gr (-1) 9 (Q_e_clearEcho gi gl gr)) := by
  have hX : t_X wl_e_clearEcho sh gi gl gr gi gl gr := t_X.rf
  refine me_i f_X12_clearEcho (hI.wf.s rfl) rfl rfl rfl ?_
  refine ev_ic f_X12_clearEcho (nx := 1) (v := 0) rfl (by decide) rfl ?_
  refine ev_loc f_X12_clearEcho (nx := 2) (lo' := [(1, .int 0), (0, .ref 69)]) rfl rfl rfl rfl ?_
  have L1 : ∀ (m1 : Nat) (y1_1 : Int32), 0 ≤ y1_1.toInt → y1_1.toInt ≤ 10 → (∀ D : s_D, t_ME 0 gi D → t_Cb D → s_ce D 10 0 = s_ce D (10 - y1_1.toInt).toNat y1_1.toInt) → (10 - y1_1.toInt).toNat = m1 → x_Ev X (d + 4) n_X12_clearEcho 2 [(1, .int y1_1), (0, .ref 69)] [] (sh, gi, gl, gr) (t_PI wl_e_clearEcho sh gi gl gr (-1) 9 (Q_e_clearEcho gi gl gr)) := by
    intro m1
    induction m1 using Nat.strongRecOn with
    | _ m1 ih1 =>
    intro y1_1 l1_1 u1_1 j1_0 hm1
    refine ev_loc f_X12_clearEcho (nx := 3) rfl rfl rfl rfl ?_
    refine ev_bp f_X12_clearEcho (nx := 5) (v := 10) rfl (by decide) rfl ?_
    refine ev_if f_X12_clearEcho (t1 := 28) (t2 := 8) rfl rfl rfl (fun h2 => ?_) (fun h2 => ?_)
    · have l3 : 10 ≤ y1_1.toInt := t_lel h2 (by decide : (10:Int) ≤ (10:Int32).toInt)
      refine ev_loc f_X12_clearEcho (nx := 29) rfl rfl rfl rfl ?_
      refine ev_bp f_X12_clearEcho (nx := 31) (v := 6) rfl (by decide) rfl ?_
      refine ev_inV2 f_X12_clearEcho (nx := 34) (lo2 := [(0, .ref 69), (1, .int 6)]) rfl rfl rfl rfl f_X12_refuse (hI.wf.s rfl) rfl rfl rfl rfl rfl ?_
      refine ev_loc f_X12_refuse (nx := 1) rfl rfl rfl rfl ?_
      refine ev_loc f_X12_refuse (nx := 2) rfl rfl rfl rfl ?_
      refine ev_putIT f_X12_refuse (nx := 5) rfl (hI.wf.s rfl) rfl rfl rfl (hI.put0 (hI.wf.s rfl) rfl rfl) (hX.upI rfl) (fun g4 e4 hI hX => ?_)
      refine ev_ic f_X12_refuse (nx := 6) (v := -1) rfl (by decide) rfl ?_
      refine ev_retK1 f_X12_refuse rfl rfl rfl ?_
      exact ev_ret f_X12_clearEcho rfl rfl rfl ⟨_, _, _, rfl, hI, hX, ⟨_, rfl, (by decide : ((-1):Int) ≤ ((-1):Int32).toInt), (Int.le_trans (by decide : ((-1):Int32).toInt ≤ ((-1):Int)) (by decide : ((-1):Int) ≤ 9)), (show ∀ D : s_D, t_ME 0 gi D → t_Cb D → ((-1) : Int) = s_ce D 10 0 from (by
                                                            intro D hm hb
                                                            have g1 := j1_0 D hm hb
                                                            exact (s_ce_e g1 (by omega)).symm))⟩⟩
    · have u5 : y1_1.toInt ≤ 9 := t_ltu (t_nle h2) (by decide : (10:Int32).toInt ≤ (10:Int)) rfl
      refine ev_loc f_X12_clearEcho (nx := 9) rfl rfl rfl rfl ?_
      refine ev_loc f_X12_clearEcho (nx := 10) rfl rfl rfl rfl ?_
      refine ev_qI0 f_X12_clearEcho (nx := 13) (r := []) rfl rfl rfl rfl rfl rfl rfl (c_n_alikeBy hI (y1_1) l1_1 u5) rfl (fun w6 l6 u6 q6 => ?_)
      have q6 : ∀ D : s_D, t_ME 0 gi D → t_Cb D → w6.toInt = s_al D y1_1.toInt := q6
      refine ev_if f_X12_clearEcho (t1 := 16) (t2 := 22) rfl rfl rfl (fun h7 => ?_) (fun h7 => ?_)
      · have u8 : w6.toInt ≤ 0 := t_equ h7 (by decide : (0:Int32).toInt ≤ (0:Int))
        refine ev_loc f_X12_clearEcho (nx := 17) rfl rfl rfl rfl ?_
        refine ev_loc f_X12_clearEcho (nx := 18) rfl rfl rfl rfl ?_
        refine ev_inV2 f_X12_clearEcho (nx := 21) (lo2 := [(0, .ref 69), (1, .int y1_1)]) rfl rfl rfl rfl f_X12_gives (hI.wf.s rfl) rfl rfl rfl rfl rfl ?_
        refine ev_loc f_X12_gives (nx := 1) rfl rfl rfl rfl ?_
        refine ev_ic f_X12_gives (nx := 2) (v := 0) rfl (by decide) rfl ?_
        refine ev_putIT f_X12_gives (nx := 5) rfl (hI.wf.s rfl) rfl rfl rfl (hI.put0 (hI.wf.s rfl) rfl rfl) (hX.upI rfl) (fun g9 e9 hI hX => ?_)
        refine ev_loc f_X12_gives (nx := 6) rfl rfl rfl rfl ?_
        refine ev_retK1 f_X12_gives rfl rfl rfl ?_
        exact ev_ret f_X12_clearEcho rfl rfl rfl ⟨_, _, _, rfl, hI, hX, ⟨_, rfl, (Int.le_trans (by decide : ((-1):Int) ≤ 0) l1_1), u5, (show ∀ D : s_D, t_ME 0 gi D → t_Cb D → y1_1.toInt = s_ce D 10 0 from (by
                                                            intro D hm hb
                                                            have g1 := j1_0 D hm hb
                                                            have hq := q6 D hm hb
                                                            exact (s_ce_f g1 (by omega) (by omega)).symm))⟩⟩
      · have r10 : w6.toInt ≠ 0 := fun e => h7 (Int32.toInt_inj.mp (e.trans (by decide : (0:Int) = (0 : Int32).toInt)))
        have l11 : 1 ≤ w6.toInt := t_nel h7 l6 rfl rfl
        refine ev_incR f_X12_clearEcho (nx := 25) (c := 1) (l := 1) (u := 10) rfl rfl (by decide) (by decide) l1_1 u5 rfl rfl (by decide) (by decide) rfl (fun z12 e12 l12 u12 => ?_)
        refine ev_jmp f_X12_clearEcho (nx := 2) rfl rfl rfl ?_
        refine ev_sub (lo := [(1, .int z12), (0, .ref 69)]) rfl (t_sc rfl (t_sc rfl t_sn)) ?_
        exact ih1 _ (by omega) (z12) (Int.le_trans (by decide : (0:Int) ≤ 1) l12) u12 (by
                                                            intro D hm hb
                                                            have g1 := j1_0 D hm hb
                                                            have hq := q6 D hm hb
                                                            exact s_ce_s g1 (by omega) (by omega) (by omega)) rfl
  refine ev_sub (lo := [(1, .int 0), (0, .ref 69)]) rfl (t_sc rfl (t_sc rfl t_sn)) ?_
  exact L1 _ (0) (by decide : (0:Int) ≤ (0:Int32).toInt) (Int.le_trans (by decide : (0:Int32).toInt ≤ (0:Int)) (by decide : (0:Int) ≤ 10)) (fun D hm hb => rfl) rfl
section ALKL
variable {sh : List (Nat ⊕ (Nat × Nat))} {gi g1 g2 : Nat → Nat → Int32} {gl l1 l2 : Nat → Nat → Int64} {gr r1 r2 : Nat → Nat → Value} {w1 : List (Nat × Nat)} {x1 x2 : Int32}
theorem t_L_alike (hD : t_DR sh.length gi gl gr) (f1 : t_F w1 gi gl gr g1 l1 r1) (h70 : t_nc w1 70 = true) (q1 : Q_d_alike gi gl gr x1 g1 l1 r1) (q2 : Q_e_alike g1 l1 r1 x2 g2 l2 r2) : x1 = x2 := by
  obtain ⟨u, D, hu, hl, hc, hb, hm, -⟩ := t_D_0 hD f1 h70
  exact Int32.toInt_inj.mp ((q1 u D hu hl hc hb).trans (q2 D hm hb).symm)
theorem t_L_clearEcho (hD : t_DR sh.length gi gl gr) (f1 : t_F w1 gi gl gr g1 l1 r1) (h70 : t_nc w1 70 = true) (q1 : Q_d_clearEcho gi gl gr x1 g1 l1 r1) (q2 : Q_e_clearEcho g1 l1 r1 x2 g2 l2 r2) : x1 = x2 := by
  obtain ⟨u, D, hu, hl, hc, hb, hm, -⟩ := t_D_0 hD f1 h70
  exact Int32.toInt_inj.mp ((q1 u D hu hl hc hb).trans (q2 D hm hb).symm)
end ALKL
/-! ===== how many READINGS a number has ===== -/
noncomputable def s_bw (D : s_D) (a b e : Int) : Int64 := s_hd D a ||| (s_hd D b <<< ((Int32.ofInt e).toInt64 &&& 63))
noncomputable def s_cb (D : s_D) (x : Int64) (a b : Int) : Nat → Int → Int
  | 0, _ => 0
  | m + 1, e => s_if (s_bw D a b e = x) 1 0 + s_cb D x a b m (e + 1)
noncomputable def s_lb (a b : Int) : Int := if b < a then 1 else 0
noncomputable def s_cB (D : s_D) (x : Int64) (a b : Int) : Int := s_cb D x a b (13 - s_lb a b).toNat (s_lb a b)
section CNT
variable {D : s_D} {x y w1 w2 m : Int64} {a b e e' c c' t : Int} {ev : Int32}
theorem s_bw_e (h1 : w1 = s_hd D a) (h2 : w2 = s_hd D b) (em : m = w2 <<< (ev.toInt64 &&& 63)) (eo : y = w1 ||| m) : y = s_bw D a b ev.toInt := by
  unfold s_bw
  rw [eo, em, h1, h2, Int32.ofInt_toInt]
theorem s_cb_1 (h1 : e ≤ 12) : s_cb D x a b (13 - e).toNat e = s_if (s_bw D a b e = x) 1 0 + s_cb D x a b (13 - (e + 1)).toNat (e + 1) := by
  rw [show (13 - e).toNat = (13 - (e + 1)).toNat + 1 by omega]; rfl
theorem s_cb_y (h : t = c + s_cb D x a b (13 - e).toNat e) (h1 : e ≤ 12) (hx : s_bw D a b e = x) (hc : c' = c + 1) (he : e' = e + 1) : t = c' + s_cb D x a b (13 - e').toNat e' := by
  rw [s_cb_1 h1, s_ifT hx] at h; rw [he]; omega
theorem s_cb_n (h : t = c + s_cb D x a b (13 - e).toNat e) (h1 : e ≤ 12) (hx : ¬ s_bw D a b e = x) (hc : c' = c) (he : e' = e + 1) : t = c' + s_cb D x a b (13 - e').toNat e' := by
  rw [s_cb_1 h1, s_ifF hx] at h; rw [he]; omega
theorem s_cb_e (h : t = c + s_cb D x a b (13 - e).toNat e) (h1 : 13 ≤ e) : t = c := by
  rw [show (13 - e).toNat = 0 by omega] at h
  have h : t = c + 0 := h
  omega
theorem s_cb_b (h0 : e = s_lb a b) : s_cB D x a b = 0 + s_cb D x a b (13 - e).toNat e := by
  subst h0; unfold s_cB; omega
theorem s_lb_1 (h : b < a) : s_lb a b = 1 := if_pos h
theorem s_lb_0 (h : ¬ b < a) : s_lb a b = 0 := if_neg h
end CNT
noncomputable def s_cc (D : s_D) (x : Int64) (p : Int) (a : Nat) : Nat → Int
  | 0 => 0
  | k + 1 => s_cc D x p a k + s_if (p = -1 ∨ p = (a : Int) ∨ p = (k : Int)) (s_cB D x (a : Int) (k : Int)) 0
noncomputable def s_c1 (D : s_D) (x : Int64) (p : Int) (a : Nat) : Int := s_if ((p = -1 ∨ p = (a : Int)) ∧ s_hd D (a : Int) = x) 1 0
noncomputable def s_cr (D : s_D) (x : Int64) (p : Int) (N : Nat) : Nat → Int
  | 0 => 0
  | a + 1 => s_cr D x p N a + s_c1 D x p a + s_cc D x p a N
/-- how many READINGS: all (p = -1), or those with a PORT -/
noncomputable def s_ct (D : s_D) (x : Int64) (p : Int) : Int := s_cr D x p (D 0).toNat (D 0).toNat
section CTR
variable {D : s_D} {x : Int64} {p t : Int} {a a' b b' c c' w : Int32} {N : Nat}
theorem s_cc_b (h : c.toInt = s_cr D x p N a.toNatClampNeg) (e : t = s_c1 D x p a.toNatClampNeg) (hc : c'.toInt = c.toInt + t) : c'.toInt = s_cr D x p N a.toNatClampNeg + s_c1 D x p a.toNatClampNeg + s_cc D x p a.toNatClampNeg (0 : Int32).toNatClampNeg := by
  show _ = _ + _ + 0
  omega
theorem s_c1_y (h0 : 0 ≤ a.toInt) (h1 : p = -1 ∨ p = a.toInt) (h2 : s_hd D a.toInt = x) : 1 = s_c1 D x p a.toNatClampNeg := by
  have c1 := t_clamp (i := a) h0
  unfold s_c1; rw [c1, s_ifT ⟨h1, h2⟩]
theorem s_c1_n (h0 : 0 ≤ a.toInt) (h1 : ¬ ((p = -1 ∨ p = a.toInt) ∧ s_hd D a.toInt = x)) : 0 = s_c1 D x p a.toNatClampNeg := by
  have c1 := t_clamp (i := a) h0
  unfold s_c1; rw [c1, s_ifF h1]
theorem s_cc_y (h : c.toInt = t + s_cc D x p a.toNatClampNeg b.toNatClampNeg) (h0 : 0 ≤ a.toInt) (h1 : 0 ≤ b.toInt) (hp : p = -1 ∨ p = a.toInt ∨ p = b.toInt) (hw : w.toInt = s_cB D x a.toInt b.toInt) (hc : c'.toInt = c.toInt + w.toInt) (hb : b'.toInt = b.toInt + 1) : c'.toInt = t + s_cc D x p a.toNatClampNeg b'.toNatClampNeg := by
  have c1 := t_clamp (i := a) h0
  have c2 := t_clamp (i := b) h1
  have c3 := t_clamp (i := b') (by omega)
  rw [show b'.toNatClampNeg = b.toNatClampNeg + 1 by omega]
  show _ = t + (s_cc D x p a.toNatClampNeg b.toNatClampNeg + s_if (p = -1 ∨ p = (a.toNatClampNeg : Int) ∨ p = (b.toNatClampNeg : Int)) (s_cB D x (a.toNatClampNeg : Int) (b.toNatClampNeg : Int)) 0)
  rw [c1, c2, s_ifT hp]; omega
theorem s_cc_n (h : c.toInt = t + s_cc D x p a.toNatClampNeg b.toNatClampNeg) (h0 : 0 ≤ a.toInt) (h1 : 0 ≤ b.toInt) (hp : ¬ (p = -1 ∨ p = a.toInt ∨ p = b.toInt)) (hc : c'.toInt = c.toInt) (hb : b'.toInt = b.toInt + 1) : c'.toInt = t + s_cc D x p a.toNatClampNeg b'.toNatClampNeg := by
  have c1 := t_clamp (i := a) h0
  have c2 := t_clamp (i := b) h1
  have c3 := t_clamp (i := b') (by omega)
  rw [show b'.toNatClampNeg = b.toNatClampNeg + 1 by omega]
  show _ = t + (s_cc D x p a.toNatClampNeg b.toNatClampNeg + s_if (p = -1 ∨ p = (a.toNatClampNeg : Int) ∨ p = (b.toNatClampNeg : Int)) (s_cB D x (a.toNatClampNeg : Int) (b.toNatClampNeg : Int)) 0)
  rw [c1, c2, s_ifF hp]; omega
theorem s_cr_s (h : c.toInt = s_cr D x p N a.toNatClampNeg + s_c1 D x p a.toNatClampNeg + s_cc D x p a.toNatClampNeg b.toNatClampNeg) (h0 : 0 ≤ a.toInt) (ha : a'.toInt = a.toInt + 1) (hb : 0 ≤ b.toInt) (hN : b.toInt = (N : Int)) : c.toInt = s_cr D x p N a'.toNatClampNeg := by
  have c1 := t_clamp (i := a) h0
  have c2 := t_clamp (i := b) hb
  have c3 := t_clamp (i := a') (by omega)
  rw [show a'.toNatClampNeg = a.toNatClampNeg + 1 by omega]
  show c.toInt = s_cr D x p N a.toNatClampNeg + s_c1 D x p a.toNatClampNeg + s_cc D x p a.toNatClampNeg N
  rw [h, show b.toNatClampNeg = N by omega]
end CTR
/-! ===== printed by riv.py: how many READINGS ===== -/
noncomputable def wl_d_countBeats : List (Nat × Nat) := []
noncomputable def Q_d_countBeats (gi : Nat → Nat → Int32) (gl : Nat → Nat → Int64) (gr : Nat → Nat → Value) (ar0 : Nat) (ar1 : Int64) (ar2 : Int32) (ar3 : Int32) : Int32 → (Nat → Nat → Int32) → (Nat → Nat → Int64) → (Nat → Nat → Value) → Prop := fun (v : Int32) (gi2 : Nat → Nat → Int32) (gl2 : Nat → Nat → Int64) (gr2 : Nat → Nat → Value) => ∀ D : s_D, t_VL gr ar0 → t_CV gi gl ar0 D → t_Cb D → v.toInt = s_cB D ar1 ar2.toInt ar3.toInt
theorem c_d_countBeats {X : x_Ext} {d : Nat} {sh : List (Nat ⊕ (Nat × Nat))} {gi : Nat → Nat → Int32} {gl : Nat → Nat → Int64} {gr : Nat → Nat → Value} (hI : t_I sh gi gr) (ar0 : Nat) (p_a0 : t_Rv sh gr ar0) (ar1 : Int64) (ar2 : Int32) (ar3 : Int32) : x_Me X (d + 4) n_X5_countBeats [.ref ar0, .long ar1, .int ar2, .int ar3] (sh, gi, gl, gr) (t_PI wl_d_countBeats sh gi gl gr 0 13 (Q_d_countBeats gi gl gr ar0 ar1 ar2 ar3)) := by
  have hX : t_X wl_d_countBeats sh gi gl gr gi gl gr := t_X.rf
  refine me_i f_X5_countBeats p_a0.1 rfl rfl rfl ?_
  refine ev_ic f_X5_countBeats (nx := 1) (v := 0) rfl (by decide) rfl ?_
  refine ev_loc f_X5_countBeats (nx := 3) (lo' := [(5, .int 0), (0, .ref ar0), (1, .long ar1), (3, .int ar2), (4, .int ar3)]) rfl rfl rfl rfl ?_
  refine ev_loc f_X5_countBeats (nx := 4) rfl rfl rfl rfl ?_
  refine ev_loc f_X5_countBeats (nx := 5) rfl rfl rfl rfl ?_
  refine ev_loc f_X5_countBeats (nx := 7) rfl rfl rfl rfl ?_
  refine ev_inV3 f_X5_countBeats (nx := 10) (lo2 := [(0, .ref ar0), (1, .int ar2), (2, .int ar3)]) rfl rfl rfl rfl f_X5_leastBeats p_a0.1 rfl rfl rfl rfl rfl ?_
  refine ev_loc f_X5_leastBeats (nx := 1) rfl rfl rfl rfl ?_
  refine ev_loc f_X5_leastBeats (nx := 2) rfl rfl rfl rfl ?_
  refine ev_if f_X5_leastBeats (t1 := 9) (t2 := 5) rfl rfl rfl (fun h1 => ?_) (fun h1 => ?_)
  · have r2 : ar2.toInt ≤ ar3.toInt := Int32.le_iff_toInt_le.mp h1
    refine ev_ic f_X5_leastBeats (nx := 10) (v := 0) rfl (by decide) rfl ?_
    refine ev_retK1 f_X5_leastBeats rfl rfl rfl ?_
    refine ev_loc f_X5_countBeats (nx := 12) (lo' := [(6, .int 0), (5, .int 0), (0, .ref ar0), (1, .long ar1), (3, .int ar2), (4, .int ar3)]) rfl rfl rfl rfl ?_
    have L3 : ∀ (m3 : Nat) (y3_6 : Int32) (y3_5 : Int32), 0 ≤ y3_6.toInt → y3_6.toInt ≤ 13 → 0 ≤ y3_5.toInt → y3_5.toInt ≤ 13 → y3_5.toInt ≤ y3_6.toInt → (∀ D : s_D, t_VL gr ar0 → t_CV gi gl ar0 D → t_Cb D → s_cB D ar1 ar2.toInt ar3.toInt = y3_5.toInt + s_cb D ar1 ar2.toInt ar3.toInt (13 - y3_6.toInt).toNat y3_6.toInt) → (13 - y3_6.toInt).toNat = m3 → x_Ev X (d + 4) n_X5_countBeats 12 [(6, .int y3_6), (5, .int y3_5), (0, .ref ar0), (1, .long ar1), (3, .int ar2), (4, .int ar3)] [] (sh, gi, gl, gr) (t_PI wl_d_countBeats sh gi gl gr 0 13 (Q_d_countBeats gi gl gr ar0 ar1 ar2 ar3)) := by
      intro m3
      induction m3 using Nat.strongRecOn with
      | _ m3 ih3 =>
      intro y3_6 y3_5 l3_6 u3_6 l3_5 u3_5 j3_0 j3_1 hm3
      refine ev_loc f_X5_countBeats (nx := 14) rfl rfl rfl rfl ?_
      refine ev_bp f_X5_countBeats (nx := 16) (v := 12) rfl (by decide) rfl ?_
      refine ev_if f_X5_countBeats (t1 := 42) (t2 := 19) rfl rfl rfl (fun h4 => ?_) (fun h4 => ?_)
      · have l5 : 13 ≤ y3_6.toInt := t_ltl h4 (by decide : (12:Int) ≤ (12:Int32).toInt) rfl
        refine ev_loc f_X5_countBeats (nx := 44) rfl rfl rfl rfl ?_
        exact ev_ret f_X5_countBeats rfl rfl rfl ⟨_, _, _, rfl, hI, hX, ⟨_, rfl, l3_5, u3_5, (show ∀ D : s_D, t_VL gr ar0 → t_CV gi gl ar0 D → t_Cb D → y3_5.toInt = s_cB D ar1 ar2.toInt ar3.toInt from (by
                                                            intro D hl hc hb
                                                            exact (s_cb_e (j3_1 D hl hc hb) (by omega)).symm))⟩⟩
      · have u6 : y3_6.toInt ≤ 12 := t_leu (t_nlt h4) (by decide : (12:Int32).toInt ≤ (12:Int))
        refine ev_loc f_X5_countBeats (nx := 20) rfl rfl rfl rfl ?_
        refine ev_loc f_X5_countBeats (nx := 21) rfl rfl rfl rfl ?_
        refine ev_loc f_X5_countBeats (nx := 23) rfl rfl rfl rfl ?_
        refine ev_loc f_X5_countBeats (nx := 25) rfl rfl rfl rfl ?_
        refine ev_inV4 f_X5_countBeats (nx := 28) (lo2 := [(0, .ref ar0), (1, .int ar2), (2, .int ar3), (3, .int y3_6)]) rfl rfl rfl rfl f_X5_bothHeard p_a0.1 rfl rfl rfl rfl rfl ?_
        refine ev_loc f_X5_bothHeard (nx := 1) rfl rfl rfl rfl ?_
        refine ev_loc f_X5_bothHeard (nx := 2) rfl rfl rfl rfl ?_
        refine ev_qL0 f_X5_bothHeard (nx := 5) (r := []) rfl rfl rfl rfl rfl rfl rfl (c_d_heardOf hI (ar0) p_a0 (ar2)) rfl (fun w7 q7 => ?_)
        have q7 : ∀ D : s_D, t_VL gr ar0 → t_CV gi gl ar0 D → w7 = s_hd D ar2.toInt := q7
        refine ev_loc f_X5_bothHeard (nx := 6) rfl rfl rfl rfl ?_
        refine ev_loc f_X5_bothHeard (nx := 7) rfl rfl rfl rfl ?_
        refine ev_qL0 f_X5_bothHeard (nx := 10) (r := [.long w7]) rfl rfl rfl rfl rfl rfl rfl (c_d_heardOf hI (ar0) p_a0 (ar3)) rfl (fun w8 q8 => ?_)
        have q8 : ∀ D : s_D, t_VL gr ar0 → t_CV gi gl ar0 D → w8 = s_hd D ar3.toInt := q8
        refine ev_loc f_X5_bothHeard (nx := 11) rfl rfl rfl rfl ?_
        refine ev_anyLE f_X5_bothHeard (nx := 12) rfl rfl rfl rfl (fun z9 e9 => ?_)
        refine ev_anyLE f_X5_bothHeard (nx := 13) rfl rfl rfl rfl (fun z10 e10 => ?_)
        refine ev_retK1 f_X5_bothHeard rfl rfl rfl ?_
        refine ev_loc f_X5_countBeats (nx := 29) rfl rfl rfl rfl ?_
        refine ev_anyIE f_X5_countBeats (nx := 30) rfl rfl rfl rfl (fun z11 e11 => ?_)
        refine ev_if f_X5_countBeats (t1 := 33) (t2 := 36) rfl rfl rfl (fun h12 => ?_) (fun h12 => ?_)
        · have u13 : z11.toInt ≤ 0 := t_equ h12 (by decide : (0:Int32).toInt ≤ (0:Int))
          have l14 : 0 ≤ z11.toInt := t_eql h12 (by decide : (0:Int) ≤ (0:Int32).toInt)
          refine ev_incR f_X5_countBeats (nx := 36) (c := 1) (l := 1) (u := 14) rfl rfl (by decide) (by decide) l3_5 u3_5 rfl rfl (by decide) (by decide) rfl (fun z15 e15 l15 u15 => ?_)
          refine ev_incR f_X5_countBeats (nx := 39) (c := 1) (l := 1) (u := 13) rfl rfl (by decide) (by decide) l3_6 u6 rfl rfl (by decide) (by decide) rfl (fun z16 e16 l16 u16 => ?_)
          refine ev_jmp f_X5_countBeats (nx := 12) rfl rfl rfl ?_
          refine ev_sub (lo := [(6, .int z16), (5, .int z15), (0, .ref ar0), (1, .long ar1), (3, .int ar2), (4, .int ar3)]) rfl (t_sc rfl (t_sc rfl (t_sc rfl (t_sc rfl (t_sc rfl (t_sc rfl t_sn)))))) ?_
          exact ih3 _ (by omega) (z16) (z15) (Int.le_trans (by decide : (0:Int) ≤ 1) l16) u16 (Int.le_trans (by decide : (0:Int) ≤ 1) l15) (by omega : z15.toInt ≤ (13:Int)) (by omega) (by
                                                            intro D hl hc hb
                                                            have g1 := j3_1 D hl hc hb
                                                            have hv := s_bw_e (q7 D hl hc) (q8 D hl hc) e9 e10
                                                            have hne := (t_le0 e11 h12)
                                                            rw [hv] at hne
                                                            exact s_cb_y g1 (by omega) hne (by omega) (by omega)) rfl
        · have r17 : z11.toInt ≠ 0 := fun e => h12 (Int32.toInt_inj.mp (e.trans (by decide : (0:Int) = (0 : Int32).toInt)))
          refine ev_incR f_X5_countBeats (nx := 39) (c := 1) (l := 1) (u := 13) rfl rfl (by decide) (by decide) l3_6 u6 rfl rfl (by decide) (by decide) rfl (fun z18 e18 l18 u18 => ?_)
          refine ev_jmp f_X5_countBeats (nx := 12) rfl rfl rfl ?_
          refine ev_sub (lo := [(6, .int z18), (5, .int y3_5), (0, .ref ar0), (1, .long ar1), (3, .int ar2), (4, .int ar3)]) rfl (t_sc rfl (t_sc rfl (t_sc rfl (t_sc rfl (t_sc rfl (t_sc rfl t_sn)))))) ?_
          exact ih3 _ (by omega) (z18) (y3_5) (Int.le_trans (by decide : (0:Int) ≤ 1) l18) u18 l3_5 u3_5 (by omega) (by
                                                            intro D hl hc hb
                                                            have g1 := j3_1 D hl hc hb
                                                            have hv := s_bw_e (q7 D hl hc) (q8 D hl hc) e9 e10
                                                            have hne := (t_le1 e11 h12)
                                                            rw [hv] at hne
                                                            exact s_cb_n g1 (by omega) hne (by omega) (by omega)) rfl
    refine ev_sub (lo := [(6, .int 0), (5, .int 0), (0, .ref ar0), (1, .long ar1), (3, .int ar2), (4, .int ar3)]) rfl (t_sc rfl (t_sc rfl (t_sc rfl (t_sc rfl (t_sc rfl (t_sc rfl t_sn)))))) ?_
    exact L3 _ (0) (0) (by decide : (0:Int) ≤ (0:Int32).toInt) (Int.le_trans (by decide : (0:Int32).toInt ≤ (0:Int)) (by decide : (0:Int) ≤ 13)) (by decide : (0:Int) ≤ (0:Int32).toInt) (Int.le_trans (by decide : (0:Int32).toInt ≤ (0:Int)) (by decide : (0:Int) ≤ 13)) (by have kf19 : (0 : Int32).toInt = 0 := (by decide); omega) (by
                                                            intro D hl hc hb
                                                            have hl2 : s_lb ar2.toInt ar3.toInt = (0 : Int32).toInt := s_lb_0 (by omega)
                                                            exact s_cb_b hl2.symm) rfl
  · have r20 : ar3.toInt < ar2.toInt := Int32.lt_iff_toInt_lt.mp (t_nle h1)
    have u21 : ar3.toInt ≤ 2147483646 := t_ltu (t_nle h1) (t_hi ar2) rfl
    have l22 : (-2147483647) ≤ ar2.toInt := t_ltl (t_nle h1) (t_lo ar3) rfl
    refine ev_ic f_X5_leastBeats (nx := 6) (v := 1) rfl (by decide) rfl ?_
    refine ev_jmp f_X5_leastBeats (nx := 10) rfl rfl rfl ?_
    refine ev_retK1 f_X5_leastBeats rfl rfl rfl ?_
    refine ev_loc f_X5_countBeats (nx := 12) (lo' := [(6, .int 1), (5, .int 0), (0, .ref ar0), (1, .long ar1), (3, .int ar2), (4, .int ar3)]) rfl rfl rfl rfl ?_
    have L23 : ∀ (m23 : Nat) (y23_6 : Int32) (y23_5 : Int32), 0 ≤ y23_6.toInt → y23_6.toInt ≤ 13 → 0 ≤ y23_5.toInt → y23_5.toInt ≤ 13 → y23_5.toInt ≤ y23_6.toInt → (∀ D : s_D, t_VL gr ar0 → t_CV gi gl ar0 D → t_Cb D → s_cB D ar1 ar2.toInt ar3.toInt = y23_5.toInt + s_cb D ar1 ar2.toInt ar3.toInt (13 - y23_6.toInt).toNat y23_6.toInt) → (13 - y23_6.toInt).toNat = m23 → x_Ev X (d + 4) n_X5_countBeats 12 [(6, .int y23_6), (5, .int y23_5), (0, .ref ar0), (1, .long ar1), (3, .int ar2), (4, .int ar3)] [] (sh, gi, gl, gr) (t_PI wl_d_countBeats sh gi gl gr 0 13 (Q_d_countBeats gi gl gr ar0 ar1 ar2 ar3)) := by
      intro m23
      induction m23 using Nat.strongRecOn with
      | _ m23 ih23 =>
      intro y23_6 y23_5 l23_6 u23_6 l23_5 u23_5 j23_0 j23_1 hm23
      refine ev_loc f_X5_countBeats (nx := 14) rfl rfl rfl rfl ?_
      refine ev_bp f_X5_countBeats (nx := 16) (v := 12) rfl (by decide) rfl ?_
      refine ev_if f_X5_countBeats (t1 := 42) (t2 := 19) rfl rfl rfl (fun h24 => ?_) (fun h24 => ?_)
      · have l25 : 13 ≤ y23_6.toInt := t_ltl h24 (by decide : (12:Int) ≤ (12:Int32).toInt) rfl
        refine ev_loc f_X5_countBeats (nx := 44) rfl rfl rfl rfl ?_
        exact ev_ret f_X5_countBeats rfl rfl rfl ⟨_, _, _, rfl, hI, hX, ⟨_, rfl, l23_5, u23_5, (show ∀ D : s_D, t_VL gr ar0 → t_CV gi gl ar0 D → t_Cb D → y23_5.toInt = s_cB D ar1 ar2.toInt ar3.toInt from (by
                                                            intro D hl hc hb
                                                            exact (s_cb_e (j23_1 D hl hc hb) (by omega)).symm))⟩⟩
      · have u26 : y23_6.toInt ≤ 12 := t_leu (t_nlt h24) (by decide : (12:Int32).toInt ≤ (12:Int))
        refine ev_loc f_X5_countBeats (nx := 20) rfl rfl rfl rfl ?_
        refine ev_loc f_X5_countBeats (nx := 21) rfl rfl rfl rfl ?_
        refine ev_loc f_X5_countBeats (nx := 23) rfl rfl rfl rfl ?_
        refine ev_loc f_X5_countBeats (nx := 25) rfl rfl rfl rfl ?_
        refine ev_inV4 f_X5_countBeats (nx := 28) (lo2 := [(0, .ref ar0), (1, .int ar2), (2, .int ar3), (3, .int y23_6)]) rfl rfl rfl rfl f_X5_bothHeard p_a0.1 rfl rfl rfl rfl rfl ?_
        refine ev_loc f_X5_bothHeard (nx := 1) rfl rfl rfl rfl ?_
        refine ev_loc f_X5_bothHeard (nx := 2) rfl rfl rfl rfl ?_
        refine ev_qL0 f_X5_bothHeard (nx := 5) (r := []) rfl rfl rfl rfl rfl rfl rfl (c_d_heardOf hI (ar0) p_a0 (ar2)) rfl (fun w27 q27 => ?_)
        have q27 : ∀ D : s_D, t_VL gr ar0 → t_CV gi gl ar0 D → w27 = s_hd D ar2.toInt := q27
        refine ev_loc f_X5_bothHeard (nx := 6) rfl rfl rfl rfl ?_
        refine ev_loc f_X5_bothHeard (nx := 7) rfl rfl rfl rfl ?_
        refine ev_qL0 f_X5_bothHeard (nx := 10) (r := [.long w27]) rfl rfl rfl rfl rfl rfl rfl (c_d_heardOf hI (ar0) p_a0 (ar3)) rfl (fun w28 q28 => ?_)
        have q28 : ∀ D : s_D, t_VL gr ar0 → t_CV gi gl ar0 D → w28 = s_hd D ar3.toInt := q28
        refine ev_loc f_X5_bothHeard (nx := 11) rfl rfl rfl rfl ?_
        refine ev_anyLE f_X5_bothHeard (nx := 12) rfl rfl rfl rfl (fun z29 e29 => ?_)
        refine ev_anyLE f_X5_bothHeard (nx := 13) rfl rfl rfl rfl (fun z30 e30 => ?_)
        refine ev_retK1 f_X5_bothHeard rfl rfl rfl ?_
        refine ev_loc f_X5_countBeats (nx := 29) rfl rfl rfl rfl ?_
        refine ev_anyIE f_X5_countBeats (nx := 30) rfl rfl rfl rfl (fun z31 e31 => ?_)
        refine ev_if f_X5_countBeats (t1 := 33) (t2 := 36) rfl rfl rfl (fun h32 => ?_) (fun h32 => ?_)
        · have u33 : z31.toInt ≤ 0 := t_equ h32 (by decide : (0:Int32).toInt ≤ (0:Int))
          have l34 : 0 ≤ z31.toInt := t_eql h32 (by decide : (0:Int) ≤ (0:Int32).toInt)
          refine ev_incR f_X5_countBeats (nx := 36) (c := 1) (l := 1) (u := 14) rfl rfl (by decide) (by decide) l23_5 u23_5 rfl rfl (by decide) (by decide) rfl (fun z35 e35 l35 u35 => ?_)
          refine ev_incR f_X5_countBeats (nx := 39) (c := 1) (l := 1) (u := 13) rfl rfl (by decide) (by decide) l23_6 u26 rfl rfl (by decide) (by decide) rfl (fun z36 e36 l36 u36 => ?_)
          refine ev_jmp f_X5_countBeats (nx := 12) rfl rfl rfl ?_
          refine ev_sub (lo := [(6, .int z36), (5, .int z35), (0, .ref ar0), (1, .long ar1), (3, .int ar2), (4, .int ar3)]) rfl (t_sc rfl (t_sc rfl (t_sc rfl (t_sc rfl (t_sc rfl (t_sc rfl t_sn)))))) ?_
          exact ih23 _ (by omega) (z36) (z35) (Int.le_trans (by decide : (0:Int) ≤ 1) l36) u36 (Int.le_trans (by decide : (0:Int) ≤ 1) l35) (by omega : z35.toInt ≤ (13:Int)) (by omega) (by
                                                            intro D hl hc hb
                                                            have g1 := j23_1 D hl hc hb
                                                            have hv := s_bw_e (q27 D hl hc) (q28 D hl hc) e29 e30
                                                            have hne := (t_le0 e31 h32)
                                                            rw [hv] at hne
                                                            exact s_cb_y g1 (by omega) hne (by omega) (by omega)) rfl
        · have r37 : z31.toInt ≠ 0 := fun e => h32 (Int32.toInt_inj.mp (e.trans (by decide : (0:Int) = (0 : Int32).toInt)))
          refine ev_incR f_X5_countBeats (nx := 39) (c := 1) (l := 1) (u := 13) rfl rfl (by decide) (by decide) l23_6 u26 rfl rfl (by decide) (by decide) rfl (fun z38 e38 l38 u38 => ?_)
          refine ev_jmp f_X5_countBeats (nx := 12) rfl rfl rfl ?_
          refine ev_sub (lo := [(6, .int z38), (5, .int y23_5), (0, .ref ar0), (1, .long ar1), (3, .int ar2), (4, .int ar3)]) rfl (t_sc rfl (t_sc rfl (t_sc rfl (t_sc rfl (t_sc rfl (t_sc rfl t_sn)))))) ?_
          exact ih23 _ (by omega) (z38) (y23_5) (Int.le_trans (by decide : (0:Int) ≤ 1) l38) u38 l23_5 u23_5 (by omega) (by
                                                            intro D hl hc hb
                                                            have g1 := j23_1 D hl hc hb
                                                            have hv := s_bw_e (q27 D hl hc) (q28 D hl hc) e29 e30
                                                            have hne := (t_le1 e31 h32)
                                                            rw [hv] at hne
                                                            exact s_cb_n g1 (by omega) hne (by omega) (by omega)) rfl
    refine ev_sub (lo := [(6, .int 1), (5, .int 0), (0, .ref ar0), (1, .long ar1), (3, .int ar2), (4, .int ar3)]) rfl (t_sc rfl (t_sc rfl (t_sc rfl (t_sc rfl (t_sc rfl (t_sc rfl t_sn)))))) ?_
    exact L23 _ (1) (0) (Int.le_trans (by decide : (0:Int) ≤ 1) (by decide : (1:Int) ≤ (1:Int32).toInt)) (Int.le_trans (by decide : (1:Int32).toInt ≤ (1:Int)) (by decide : (1:Int) ≤ 13)) (by decide : (0:Int) ≤ (0:Int32).toInt) (Int.le_trans (by decide : (0:Int32).toInt ≤ (0:Int)) (by decide : (0:Int) ≤ 13)) (by have kf39 : (0 : Int32).toInt = 0 := (by decide); have kf40 : (1 : Int32).toInt = 1 := (by decide); omega) (by
                                                            intro D hl hc hb
                                                            have hl2 : s_lb ar2.toInt ar3.toInt = (1 : Int32).toInt := s_lb_1 (by omega)
                                                            exact s_cb_b hl2.symm) rfl
noncomputable def wl_d_countReadings : List (Nat × Nat) := []
noncomputable def Q_d_countReadings (gi : Nat → Nat → Int32) (gl : Nat → Nat → Int64) (gr : Nat → Nat → Value) (ar0 : Nat) (ar1 : Int64) (ar2 : Int32) : Int32 → (Nat → Nat → Int32) → (Nat → Nat → Int64) → (Nat → Nat → Value) → Prop := fun (v : Int32) (gi2 : Nat → Nat → Int32) (gl2 : Nat → Nat → Int64) (gr2 : Nat → Nat → Value) => ∀ D : s_D, t_VL gr ar0 → t_CV gi gl ar0 D → t_Cb D → v.toInt = s_ct D ar1 ar2.toInt
theorem c_d_countReadings {X : x_Ext} {d : Nat} {sh : List (Nat ⊕ (Nat × Nat))} {gi : Nat → Nat → Int32} {gl : Nat → Nat → Int64} {gr : Nat → Nat → Value} (hI : t_I sh gi gr) (ar0 : Nat) (p_a0 : t_Rv sh gr ar0) (ar1 : Int64) (ar2 : Int32) : x_Me X (d + 5) n_X5_countReadings [.ref ar0, .long ar1, .int ar2] (sh, gi, gl, gr) (t_PI wl_d_countReadings sh gi gl gr 0 474 (Q_d_countReadings gi gl gr ar0 ar1 ar2)) := by
  have hX : t_X wl_d_countReadings sh gi gl gr gi gl gr := t_X.rf
  refine me_i f_X5_countReadings p_a0.1 rfl rfl rfl ?_
  refine ev_ic f_X5_countReadings (nx := 1) (v := 0) rfl (by decide) rfl ?_
  refine ev_loc f_X5_countReadings (nx := 3) (lo' := [(4, .int 0), (0, .ref ar0), (1, .long ar1), (3, .int ar2)]) rfl rfl rfl rfl ?_
  refine ev_ic f_X5_countReadings (nx := 4) (v := 0) rfl (by decide) rfl ?_
  refine ev_loc f_X5_countReadings (nx := 6) (lo' := [(5, .int 0), (4, .int 0), (0, .ref ar0), (1, .long ar1), (3, .int ar2)]) rfl rfl rfl rfl ?_
  have L1 : ∀ (m1 : Nat) (y1_5 : Int32) (y1_4 : Int32), 0 ≤ y1_5.toInt → y1_5.toInt ≤ 6 → 0 ≤ y1_4.toInt → y1_4.toInt ≤ 474 → y1_4.toInt ≤ 79 * y1_5.toInt → (∀ D : s_D, t_VL gr ar0 → t_CV gi gl ar0 D → t_Cb D → y1_4.toInt = s_cr D ar1 ar2.toInt (D 0).toNat y1_5.toNatClampNeg ∧ y1_5.toInt ≤ D 0) → (6 - y1_5.toInt).toNat = m1 → x_Ev X (d + 5) n_X5_countReadings 6 [(5, .int y1_5), (4, .int y1_4), (0, .ref ar0), (1, .long ar1), (3, .int ar2)] [] (sh, gi, gl, gr) (t_PI wl_d_countReadings sh gi gl gr 0 474 (Q_d_countReadings gi gl gr ar0 ar1 ar2)) := by
    intro m1
    induction m1 using Nat.strongRecOn with
    | _ m1 ih1 =>
    intro y1_5 y1_4 l1_5 u1_5 l1_4 u1_4 j1_0 j1_1 hm1
    refine ev_loc f_X5_countReadings (nx := 8) rfl rfl rfl rfl ?_
    refine ev_loc f_X5_countReadings (nx := 9) rfl rfl rfl rfl ?_
    refine ev_getI f_X5_countReadings (nx := 12) rfl p_a0.1 rfl rfl rfl ?_
    obtain ⟨l2, u2⟩ := hI.b p_a0.1 (t_bdK rfl : t_bd 4 0 = some (0, 6))
    refine ev_if f_X5_countReadings (t1 := 95) (t2 := 15) rfl rfl rfl (fun h3 => ?_) (fun h3 => ?_)
    · have r4 : (gi ar0 0).toInt ≤ y1_5.toInt := Int32.le_iff_toInt_le.mp h3
      refine ev_loc f_X5_countReadings (nx := 97) rfl rfl rfl rfl ?_
      exact ev_ret f_X5_countReadings rfl rfl rfl ⟨_, _, _, rfl, hI, hX, ⟨_, rfl, l1_4, u1_4, (show ∀ D : s_D, t_VL gr ar0 → t_CV gi gl ar0 D → t_Cb D → y1_4.toInt = s_ct D ar1 ar2.toInt from (by
                                                            intro D hl hc hb
                                                            obtain ⟨g1, g2⟩ := j1_1 D hl hc hb
                                                            have hm := hc.1.1
                                                            have ck := t_clamp (i := y1_5) (by omega)
                                                            rw [g1, show y1_5.toNatClampNeg = (D 0).toNat from (by omega)]; rfl))⟩⟩
    · have r5 : y1_5.toInt < (gi ar0 0).toInt := Int32.lt_iff_toInt_lt.mp (t_nle h3)
      have u6 : y1_5.toInt ≤ 5 := t_ltu (t_nle h3) u2 rfl
      have l7 : 1 ≤ (gi ar0 0).toInt := t_ltl (t_nle h3) l1_5 rfl
      refine ev_loc f_X5_countReadings (nx := 16) rfl rfl rfl rfl ?_
      refine ev_ic f_X5_countReadings (nx := 17) (v := -1) rfl (by decide) rfl ?_
      refine ev_if f_X5_countReadings (t1 := 26) (t2 := 20) rfl rfl rfl (fun h8 => ?_) (fun h8 => ?_)
      · have u9 : ar2.toInt ≤ (-1) := t_equ h8 (by decide : ((-1):Int32).toInt ≤ ((-1):Int))
        have l10 : (-1) ≤ ar2.toInt := t_eql h8 (by decide : ((-1):Int) ≤ ((-1):Int32).toInt)
        refine ev_loc f_X5_countReadings (nx := 27) rfl rfl rfl rfl ?_
        refine ev_loc f_X5_countReadings (nx := 29) rfl rfl rfl rfl ?_
        refine ev_qL0 f_X5_countReadings (nx := 32) (r := []) rfl rfl rfl rfl rfl rfl rfl (c_d_heardOf hI (ar0) p_a0 (y1_5)) rfl (fun w11 q11 => ?_)
        have q11 : ∀ D : s_D, t_VL gr ar0 → t_CV gi gl ar0 D → w11 = s_hd D y1_5.toInt := q11
        refine ev_loc f_X5_countReadings (nx := 33) rfl rfl rfl rfl ?_
        refine ev_anyIE f_X5_countReadings (nx := 34) rfl rfl rfl rfl (fun z12 e12 => ?_)
        refine ev_if f_X5_countReadings (t1 := 37) (t2 := 40) rfl rfl rfl (fun h13 => ?_) (fun h13 => ?_)
        · have u14 : z12.toInt ≤ 0 := t_equ h13 (by decide : (0:Int32).toInt ≤ (0:Int))
          have l15 : 0 ≤ z12.toInt := t_eql h13 (by decide : (0:Int) ≤ (0:Int32).toInt)
          refine ev_incR f_X5_countReadings (nx := 40) (c := 1) (l := 1) (u := 475) rfl rfl (by decide) (by decide) l1_4 u1_4 rfl rfl (by decide) (by decide) rfl (fun z16 e16 l16 u16 => ?_)
          refine ev_ic f_X5_countReadings (nx := 41) (v := 0) rfl (by decide) rfl ?_
          refine ev_loc f_X5_countReadings (nx := 43) (lo' := [(6, .int 0), (4, .int z16), (5, .int y1_5), (0, .ref ar0), (1, .long ar1), (3, .int ar2)]) rfl rfl rfl rfl ?_
          have L17 : ∀ (m17 : Nat) (y17_6 : Int32) (y17_4 : Int32), 0 ≤ y17_6.toInt → y17_6.toInt ≤ 6 → 0 ≤ y17_4.toInt → y17_4.toInt ≤ 475 → y17_4.toInt ≤ 79 * y1_5.toInt + 1 + 13 * y17_6.toInt → (∀ D : s_D, t_VL gr ar0 → t_CV gi gl ar0 D → t_Cb D → y17_4.toInt = s_cr D ar1 ar2.toInt (D 0).toNat y1_5.toNatClampNeg + s_c1 D ar1 ar2.toInt y1_5.toNatClampNeg + s_cc D ar1 ar2.toInt y1_5.toNatClampNeg y17_6.toNatClampNeg ∧ y1_5.toInt < D 0 ∧ y17_6.toInt ≤ D 0) → (6 - y17_6.toInt).toNat = m17 → x_Ev X (d + 5) n_X5_countReadings 43 [(6, .int y17_6), (4, .int y17_4), (5, .int y1_5), (0, .ref ar0), (1, .long ar1), (3, .int ar2)] [] (sh, gi, gl, gr) (t_PI wl_d_countReadings sh gi gl gr 0 474 (Q_d_countReadings gi gl gr ar0 ar1 ar2)) := by
            intro m17
            induction m17 using Nat.strongRecOn with
            | _ m17 ih17 =>
            intro y17_6 y17_4 l17_6 u17_6 l17_4 u17_4 j17_0 j17_1 hm17
            refine ev_loc f_X5_countReadings (nx := 45) rfl rfl rfl rfl ?_
            refine ev_loc f_X5_countReadings (nx := 46) rfl rfl rfl rfl ?_
            refine ev_gvI f_X5_countReadings (nx := 49) (w := (gi ar0 0)) rfl p_a0.1 rfl rfl rfl rfl ?_
            refine ev_if f_X5_countReadings (t1 := 89) (t2 := 52) rfl rfl rfl (fun h18 => ?_) (fun h18 => ?_)
            · have r19 : (gi ar0 0).toInt ≤ y17_6.toInt := Int32.le_iff_toInt_le.mp h18
              have l20 : 1 ≤ y17_6.toInt := t_lel h18 l7
              refine ev_incR f_X5_countReadings (nx := 92) (c := 1) (l := 1) (u := 6) rfl rfl (by decide) (by decide) l1_5 u6 rfl rfl (by decide) (by decide) rfl (fun z21 e21 l21 u21 => ?_)
              refine ev_jmp f_X5_countReadings (nx := 6) rfl rfl rfl ?_
              refine ev_sub (lo := [(5, .int z21), (4, .int y17_4), (0, .ref ar0), (1, .long ar1), (3, .int ar2)]) rfl (t_sc rfl (t_sc rfl (t_sc rfl (t_sc rfl (t_sc rfl t_sn))))) ?_
              exact ih1 _ (by omega) (z21) (y17_4) (Int.le_trans (by decide : (0:Int) ≤ 1) l21) u21 l17_4 (by omega : y17_4.toInt ≤ (474:Int)) (by omega) (by
                                                            intro D hl hc hb
                                                            obtain ⟨g1, g2, g3⟩ := j17_1 D hl hc hb
                                                            have hm := hc.1.1
                                                            exact ⟨s_cr_s g1 (by omega) (by omega) (by omega) (by omega), by omega⟩) rfl
            · have r22 : y17_6.toInt < (gi ar0 0).toInt := Int32.lt_iff_toInt_lt.mp (t_nle h18)
              have u23 : y17_6.toInt ≤ 5 := t_ltu (t_nle h18) u2 rfl
              refine ev_loc f_X5_countReadings (nx := 53) rfl rfl rfl rfl ?_
              refine ev_ic f_X5_countReadings (nx := 54) (v := -1) rfl (by decide) rfl ?_
              refine ev_t f_X5_countReadings (t1 := 69) (t2 := 57) rfl rfl rfl (t_eqT u9 l10 (by decide : ((-1):Int32).toInt ≤ ((-1):Int)) (by decide : ((-1):Int) ≤ ((-1):Int32).toInt)) ?_
              refine ev_loc f_X5_countReadings (nx := 71) rfl rfl rfl rfl ?_
              refine ev_loc f_X5_countReadings (nx := 72) rfl rfl rfl rfl ?_
              refine ev_loc f_X5_countReadings (nx := 73) rfl rfl rfl rfl ?_
              refine ev_loc f_X5_countReadings (nx := 75) rfl rfl rfl rfl ?_
              refine ev_loc f_X5_countReadings (nx := 77) rfl rfl rfl rfl ?_
              refine ev_qI0 f_X5_countReadings (nx := 80) (r := [.int y17_4]) rfl rfl rfl rfl rfl rfl rfl (c_d_countBeats hI (ar0) p_a0 (ar1) (y1_5) (y17_6)) rfl (fun w24 l24 u24 q24 => ?_)
              have q24 : ∀ D : s_D, t_VL gr ar0 → t_CV gi gl ar0 D → t_Cb D → w24.toInt = s_cB D ar1 y1_5.toInt y17_6.toInt := q24
              refine ev_addR f_X5_countReadings (nx := 81) (l := 0) (u := 488) rfl l17_4 u17_4 l24 u24 rfl rfl (by decide) (by decide) rfl (fun z25 e25 l25 u25 => ?_)
              refine ev_loc f_X5_countReadings (nx := 83) (lo' := [(4, .int z25), (6, .int y17_6), (5, .int y1_5), (0, .ref ar0), (1, .long ar1), (3, .int ar2)]) rfl rfl rfl rfl ?_
              refine ev_incR f_X5_countReadings (nx := 86) (c := 1) (l := 1) (u := 6) rfl rfl (by decide) (by decide) l17_6 u23 rfl rfl (by decide) (by decide) rfl (fun z26 e26 l26 u26 => ?_)
              refine ev_jmp f_X5_countReadings (nx := 43) rfl rfl rfl ?_
              refine ev_sub (lo := [(6, .int z26), (4, .int z25), (5, .int y1_5), (0, .ref ar0), (1, .long ar1), (3, .int ar2)]) rfl (t_sc rfl (t_sc rfl (t_sc rfl (t_sc rfl (t_sc rfl (t_sc rfl t_sn)))))) ?_
              exact ih17 _ (by omega) (z26) (z25) (Int.le_trans (by decide : (0:Int) ≤ 1) l26) u26 l25 (by omega : z25.toInt ≤ (475:Int)) (by omega) (by
                                                            intro D hl hc hb
                                                            obtain ⟨g1, g2, g3⟩ := j17_1 D hl hc hb
                                                            have hm := hc.1.1
                                                            exact ⟨s_cc_y g1 (by omega) (by omega) (by omega) (q24 D hl hc hb) (by omega) (by omega), by omega, by omega⟩) rfl
          refine ev_sub (lo := [(6, .int 0), (4, .int z16), (5, .int y1_5), (0, .ref ar0), (1, .long ar1), (3, .int ar2)]) rfl (t_sc rfl (t_sc rfl (t_sc rfl (t_sc rfl (t_sc rfl (t_sc rfl t_sn)))))) ?_
          exact L17 _ (0) (z16) (by decide : (0:Int) ≤ (0:Int32).toInt) (Int.le_trans (by decide : (0:Int32).toInt ≤ (0:Int)) (by decide : (0:Int) ≤ 6)) (Int.le_trans (by decide : (0:Int) ≤ 1) l16) u16 (by have kf27 : (0 : Int32).toInt = 0 := (by decide); omega) (by
                                                            intro D hl hc hb
                                                            obtain ⟨g1, g2⟩ := j1_1 D hl hc hb
                                                            have hm := hc.1.1
                                                            have z0 : (0 : Int32).toInt = 0 := rfl
                                                            have hv := q11 D hl hc
                                                            have hne := (t_le0 e12 h13)
                                                            rw [hv] at hne
                                                            have e1 := s_c1_y (x := ar1) (D := D) (p := ar2.toInt) (a := y1_5) (by omega) (by omega) hne
                                                            exact ⟨s_cc_b g1 e1 (by omega), by omega, by omega⟩) rfl
        · have r28 : z12.toInt ≠ 0 := fun e => h13 (Int32.toInt_inj.mp (e.trans (by decide : (0:Int) = (0 : Int32).toInt)))
          refine ev_ic f_X5_countReadings (nx := 41) (v := 0) rfl (by decide) rfl ?_
          refine ev_loc f_X5_countReadings (nx := 43) (lo' := [(6, .int 0), (5, .int y1_5), (4, .int y1_4), (0, .ref ar0), (1, .long ar1), (3, .int ar2)]) rfl rfl rfl rfl ?_
          have L29 : ∀ (m29 : Nat) (y29_6 : Int32) (y29_4 : Int32), 0 ≤ y29_6.toInt → y29_6.toInt ≤ 6 → 0 ≤ y29_4.toInt → y29_4.toInt ≤ 475 → y29_4.toInt ≤ 79 * y1_5.toInt + 1 + 13 * y29_6.toInt → (∀ D : s_D, t_VL gr ar0 → t_CV gi gl ar0 D → t_Cb D → y29_4.toInt = s_cr D ar1 ar2.toInt (D 0).toNat y1_5.toNatClampNeg + s_c1 D ar1 ar2.toInt y1_5.toNatClampNeg + s_cc D ar1 ar2.toInt y1_5.toNatClampNeg y29_6.toNatClampNeg ∧ y1_5.toInt < D 0 ∧ y29_6.toInt ≤ D 0) → (6 - y29_6.toInt).toNat = m29 → x_Ev X (d + 5) n_X5_countReadings 43 [(6, .int y29_6), (5, .int y1_5), (4, .int y29_4), (0, .ref ar0), (1, .long ar1), (3, .int ar2)] [] (sh, gi, gl, gr) (t_PI wl_d_countReadings sh gi gl gr 0 474 (Q_d_countReadings gi gl gr ar0 ar1 ar2)) := by
            intro m29
            induction m29 using Nat.strongRecOn with
            | _ m29 ih29 =>
            intro y29_6 y29_4 l29_6 u29_6 l29_4 u29_4 j29_0 j29_1 hm29
            refine ev_loc f_X5_countReadings (nx := 45) rfl rfl rfl rfl ?_
            refine ev_loc f_X5_countReadings (nx := 46) rfl rfl rfl rfl ?_
            refine ev_gvI f_X5_countReadings (nx := 49) (w := (gi ar0 0)) rfl p_a0.1 rfl rfl rfl rfl ?_
            refine ev_if f_X5_countReadings (t1 := 89) (t2 := 52) rfl rfl rfl (fun h30 => ?_) (fun h30 => ?_)
            · have r31 : (gi ar0 0).toInt ≤ y29_6.toInt := Int32.le_iff_toInt_le.mp h30
              have l32 : 1 ≤ y29_6.toInt := t_lel h30 l7
              refine ev_incR f_X5_countReadings (nx := 92) (c := 1) (l := 1) (u := 6) rfl rfl (by decide) (by decide) l1_5 u6 rfl rfl (by decide) (by decide) rfl (fun z33 e33 l33 u33 => ?_)
              refine ev_jmp f_X5_countReadings (nx := 6) rfl rfl rfl ?_
              refine ev_sub (lo := [(5, .int z33), (4, .int y29_4), (0, .ref ar0), (1, .long ar1), (3, .int ar2)]) rfl (t_sc rfl (t_sc rfl (t_sc rfl (t_sc rfl (t_sc rfl t_sn))))) ?_
              exact ih1 _ (by omega) (z33) (y29_4) (Int.le_trans (by decide : (0:Int) ≤ 1) l33) u33 l29_4 (by omega : y29_4.toInt ≤ (474:Int)) (by omega) (by
                                                            intro D hl hc hb
                                                            obtain ⟨g1, g2, g3⟩ := j29_1 D hl hc hb
                                                            have hm := hc.1.1
                                                            exact ⟨s_cr_s g1 (by omega) (by omega) (by omega) (by omega), by omega⟩) rfl
            · have r34 : y29_6.toInt < (gi ar0 0).toInt := Int32.lt_iff_toInt_lt.mp (t_nle h30)
              have u35 : y29_6.toInt ≤ 5 := t_ltu (t_nle h30) u2 rfl
              refine ev_loc f_X5_countReadings (nx := 53) rfl rfl rfl rfl ?_
              refine ev_ic f_X5_countReadings (nx := 54) (v := -1) rfl (by decide) rfl ?_
              refine ev_t f_X5_countReadings (t1 := 69) (t2 := 57) rfl rfl rfl (t_eqT u9 l10 (by decide : ((-1):Int32).toInt ≤ ((-1):Int)) (by decide : ((-1):Int) ≤ ((-1):Int32).toInt)) ?_
              refine ev_loc f_X5_countReadings (nx := 71) rfl rfl rfl rfl ?_
              refine ev_loc f_X5_countReadings (nx := 72) rfl rfl rfl rfl ?_
              refine ev_loc f_X5_countReadings (nx := 73) rfl rfl rfl rfl ?_
              refine ev_loc f_X5_countReadings (nx := 75) rfl rfl rfl rfl ?_
              refine ev_loc f_X5_countReadings (nx := 77) rfl rfl rfl rfl ?_
              refine ev_qI0 f_X5_countReadings (nx := 80) (r := [.int y29_4]) rfl rfl rfl rfl rfl rfl rfl (c_d_countBeats hI (ar0) p_a0 (ar1) (y1_5) (y29_6)) rfl (fun w36 l36 u36 q36 => ?_)
              have q36 : ∀ D : s_D, t_VL gr ar0 → t_CV gi gl ar0 D → t_Cb D → w36.toInt = s_cB D ar1 y1_5.toInt y29_6.toInt := q36
              refine ev_addR f_X5_countReadings (nx := 81) (l := 0) (u := 488) rfl l29_4 u29_4 l36 u36 rfl rfl (by decide) (by decide) rfl (fun z37 e37 l37 u37 => ?_)
              refine ev_loc f_X5_countReadings (nx := 83) (lo' := [(4, .int z37), (6, .int y29_6), (5, .int y1_5), (0, .ref ar0), (1, .long ar1), (3, .int ar2)]) rfl rfl rfl rfl ?_
              refine ev_incR f_X5_countReadings (nx := 86) (c := 1) (l := 1) (u := 6) rfl rfl (by decide) (by decide) l29_6 u35 rfl rfl (by decide) (by decide) rfl (fun z38 e38 l38 u38 => ?_)
              refine ev_jmp f_X5_countReadings (nx := 43) rfl rfl rfl ?_
              refine ev_sub (lo := [(6, .int z38), (5, .int y1_5), (4, .int z37), (0, .ref ar0), (1, .long ar1), (3, .int ar2)]) rfl (t_sc rfl (t_sc rfl (t_sc rfl (t_sc rfl (t_sc rfl (t_sc rfl t_sn)))))) ?_
              exact ih29 _ (by omega) (z38) (z37) (Int.le_trans (by decide : (0:Int) ≤ 1) l38) u38 l37 (by omega : z37.toInt ≤ (475:Int)) (by omega) (by
                                                            intro D hl hc hb
                                                            obtain ⟨g1, g2, g3⟩ := j29_1 D hl hc hb
                                                            have hm := hc.1.1
                                                            exact ⟨s_cc_y g1 (by omega) (by omega) (by omega) (q36 D hl hc hb) (by omega) (by omega), by omega, by omega⟩) rfl
          refine ev_sub (lo := [(6, .int 0), (5, .int y1_5), (4, .int y1_4), (0, .ref ar0), (1, .long ar1), (3, .int ar2)]) rfl (t_sc rfl (t_sc rfl (t_sc rfl (t_sc rfl (t_sc rfl (t_sc rfl t_sn)))))) ?_
          exact L29 _ (0) (y1_4) (by decide : (0:Int) ≤ (0:Int32).toInt) (Int.le_trans (by decide : (0:Int32).toInt ≤ (0:Int)) (by decide : (0:Int) ≤ 6)) l1_4 (Int.le_trans u1_4 (by decide : (474:Int) ≤ 475)) (by have kf39 : (0 : Int32).toInt = 0 := (by decide); omega) (by
                                                            intro D hl hc hb
                                                            obtain ⟨g1, g2⟩ := j1_1 D hl hc hb
                                                            have hm := hc.1.1
                                                            have z0 : (0 : Int32).toInt = 0 := rfl
                                                            have hv := q11 D hl hc
                                                            have hne := (t_le1 e12 h13)
                                                            rw [hv] at hne
                                                            have e1 := s_c1_n (x := ar1) (D := D) (p := ar2.toInt) (a := y1_5) (by omega) (fun hh => hne hh.2)
                                                            exact ⟨s_cc_b g1 e1 (by omega), by omega, by omega⟩) rfl
      · have r40 : ar2.toInt ≠ (-1) := fun e => h8 (Int32.toInt_inj.mp (e.trans (by decide : ((-1):Int) = ((-1) : Int32).toInt)))
        refine ev_loc f_X5_countReadings (nx := 21) rfl rfl rfl rfl ?_
        refine ev_loc f_X5_countReadings (nx := 23) rfl rfl rfl rfl ?_
        refine ev_if f_X5_countReadings (t1 := 26) (t2 := 40) rfl rfl rfl (fun h41 => ?_) (fun h41 => ?_)
        · have r42 : ar2.toInt = y1_5.toInt := t_eqi h41
          have u43 : ar2.toInt ≤ 5 := t_equ h41 u6
          have l44 : 0 ≤ ar2.toInt := t_eql h41 l1_5
          refine ev_loc f_X5_countReadings (nx := 27) rfl rfl rfl rfl ?_
          refine ev_loc f_X5_countReadings (nx := 29) rfl rfl rfl rfl ?_
          refine ev_qL0 f_X5_countReadings (nx := 32) (r := []) rfl rfl rfl rfl rfl rfl rfl (c_d_heardOf hI (ar0) p_a0 (y1_5)) rfl (fun w45 q45 => ?_)
          have q45 : ∀ D : s_D, t_VL gr ar0 → t_CV gi gl ar0 D → w45 = s_hd D y1_5.toInt := q45
          refine ev_loc f_X5_countReadings (nx := 33) rfl rfl rfl rfl ?_
          refine ev_anyIE f_X5_countReadings (nx := 34) rfl rfl rfl rfl (fun z46 e46 => ?_)
          refine ev_if f_X5_countReadings (t1 := 37) (t2 := 40) rfl rfl rfl (fun h47 => ?_) (fun h47 => ?_)
          · have u48 : z46.toInt ≤ 0 := t_equ h47 (by decide : (0:Int32).toInt ≤ (0:Int))
            have l49 : 0 ≤ z46.toInt := t_eql h47 (by decide : (0:Int) ≤ (0:Int32).toInt)
            refine ev_incR f_X5_countReadings (nx := 40) (c := 1) (l := 1) (u := 475) rfl rfl (by decide) (by decide) l1_4 u1_4 rfl rfl (by decide) (by decide) rfl (fun z50 e50 l50 u50 => ?_)
            refine ev_ic f_X5_countReadings (nx := 41) (v := 0) rfl (by decide) rfl ?_
            refine ev_loc f_X5_countReadings (nx := 43) (lo' := [(6, .int 0), (4, .int z50), (5, .int y1_5), (0, .ref ar0), (1, .long ar1), (3, .int ar2)]) rfl rfl rfl rfl ?_
            have L51 : ∀ (m51 : Nat) (y51_6 : Int32) (y51_4 : Int32), 0 ≤ y51_6.toInt → y51_6.toInt ≤ 6 → 0 ≤ y51_4.toInt → y51_4.toInt ≤ 475 → y51_4.toInt ≤ 79 * y1_5.toInt + 1 + 13 * y51_6.toInt → (∀ D : s_D, t_VL gr ar0 → t_CV gi gl ar0 D → t_Cb D → y51_4.toInt = s_cr D ar1 ar2.toInt (D 0).toNat y1_5.toNatClampNeg + s_c1 D ar1 ar2.toInt y1_5.toNatClampNeg + s_cc D ar1 ar2.toInt y1_5.toNatClampNeg y51_6.toNatClampNeg ∧ y1_5.toInt < D 0 ∧ y51_6.toInt ≤ D 0) → (6 - y51_6.toInt).toNat = m51 → x_Ev X (d + 5) n_X5_countReadings 43 [(6, .int y51_6), (4, .int y51_4), (5, .int y1_5), (0, .ref ar0), (1, .long ar1), (3, .int ar2)] [] (sh, gi, gl, gr) (t_PI wl_d_countReadings sh gi gl gr 0 474 (Q_d_countReadings gi gl gr ar0 ar1 ar2)) := by
              intro m51
              induction m51 using Nat.strongRecOn with
              | _ m51 ih51 =>
              intro y51_6 y51_4 l51_6 u51_6 l51_4 u51_4 j51_0 j51_1 hm51
              refine ev_loc f_X5_countReadings (nx := 45) rfl rfl rfl rfl ?_
              refine ev_loc f_X5_countReadings (nx := 46) rfl rfl rfl rfl ?_
              refine ev_gvI f_X5_countReadings (nx := 49) (w := (gi ar0 0)) rfl p_a0.1 rfl rfl rfl rfl ?_
              refine ev_if f_X5_countReadings (t1 := 89) (t2 := 52) rfl rfl rfl (fun h52 => ?_) (fun h52 => ?_)
              · have r53 : (gi ar0 0).toInt ≤ y51_6.toInt := Int32.le_iff_toInt_le.mp h52
                have l54 : 1 ≤ y51_6.toInt := t_lel h52 l7
                refine ev_incR f_X5_countReadings (nx := 92) (c := 1) (l := 1) (u := 6) rfl rfl (by decide) (by decide) l1_5 u6 rfl rfl (by decide) (by decide) rfl (fun z55 e55 l55 u55 => ?_)
                refine ev_jmp f_X5_countReadings (nx := 6) rfl rfl rfl ?_
                refine ev_sub (lo := [(5, .int z55), (4, .int y51_4), (0, .ref ar0), (1, .long ar1), (3, .int ar2)]) rfl (t_sc rfl (t_sc rfl (t_sc rfl (t_sc rfl (t_sc rfl t_sn))))) ?_
                exact ih1 _ (by omega) (z55) (y51_4) (Int.le_trans (by decide : (0:Int) ≤ 1) l55) u55 l51_4 (by omega : y51_4.toInt ≤ (474:Int)) (by omega) (by
                                                            intro D hl hc hb
                                                            obtain ⟨g1, g2, g3⟩ := j51_1 D hl hc hb
                                                            have hm := hc.1.1
                                                            exact ⟨s_cr_s g1 (by omega) (by omega) (by omega) (by omega), by omega⟩) rfl
              · have r56 : y51_6.toInt < (gi ar0 0).toInt := Int32.lt_iff_toInt_lt.mp (t_nle h52)
                have u57 : y51_6.toInt ≤ 5 := t_ltu (t_nle h52) u2 rfl
                refine ev_loc f_X5_countReadings (nx := 53) rfl rfl rfl rfl ?_
                refine ev_ic f_X5_countReadings (nx := 54) (v := -1) rfl (by decide) rfl ?_
                refine ev_f f_X5_countReadings (t1 := 69) (t2 := 57) rfl rfl rfl (t_neT' (by decide : ((-1):Int32).toInt ≤ ((-1):Int)) l44 (by decide)) ?_
                refine ev_loc f_X5_countReadings (nx := 58) rfl rfl rfl rfl ?_
                refine ev_loc f_X5_countReadings (nx := 60) rfl rfl rfl rfl ?_
                refine ev_if f_X5_countReadings (t1 := 69) (t2 := 63) rfl rfl rfl (fun h58 => ?_) (fun h58 => ?_)
                · have r59 : ar2.toInt = y1_5.toInt := t_eqi h58
                  refine ev_loc f_X5_countReadings (nx := 71) rfl rfl rfl rfl ?_
                  refine ev_loc f_X5_countReadings (nx := 72) rfl rfl rfl rfl ?_
                  refine ev_loc f_X5_countReadings (nx := 73) rfl rfl rfl rfl ?_
                  refine ev_loc f_X5_countReadings (nx := 75) rfl rfl rfl rfl ?_
                  refine ev_loc f_X5_countReadings (nx := 77) rfl rfl rfl rfl ?_
                  refine ev_qI0 f_X5_countReadings (nx := 80) (r := [.int y51_4]) rfl rfl rfl rfl rfl rfl rfl (c_d_countBeats hI (ar0) p_a0 (ar1) (y1_5) (y51_6)) rfl (fun w60 l60 u60 q60 => ?_)
                  have q60 : ∀ D : s_D, t_VL gr ar0 → t_CV gi gl ar0 D → t_Cb D → w60.toInt = s_cB D ar1 y1_5.toInt y51_6.toInt := q60
                  refine ev_addR f_X5_countReadings (nx := 81) (l := 0) (u := 488) rfl l51_4 u51_4 l60 u60 rfl rfl (by decide) (by decide) rfl (fun z61 e61 l61 u61 => ?_)
                  refine ev_loc f_X5_countReadings (nx := 83) (lo' := [(4, .int z61), (6, .int y51_6), (5, .int y1_5), (0, .ref ar0), (1, .long ar1), (3, .int ar2)]) rfl rfl rfl rfl ?_
                  refine ev_incR f_X5_countReadings (nx := 86) (c := 1) (l := 1) (u := 6) rfl rfl (by decide) (by decide) l51_6 u57 rfl rfl (by decide) (by decide) rfl (fun z62 e62 l62 u62 => ?_)
                  refine ev_jmp f_X5_countReadings (nx := 43) rfl rfl rfl ?_
                  refine ev_sub (lo := [(6, .int z62), (4, .int z61), (5, .int y1_5), (0, .ref ar0), (1, .long ar1), (3, .int ar2)]) rfl (t_sc rfl (t_sc rfl (t_sc rfl (t_sc rfl (t_sc rfl (t_sc rfl t_sn)))))) ?_
                  exact ih51 _ (by omega) (z62) (z61) (Int.le_trans (by decide : (0:Int) ≤ 1) l62) u62 l61 (by omega : z61.toInt ≤ (475:Int)) (by omega) (by
                                                            intro D hl hc hb
                                                            obtain ⟨g1, g2, g3⟩ := j51_1 D hl hc hb
                                                            have hm := hc.1.1
                                                            exact ⟨s_cc_y g1 (by omega) (by omega) (by omega) (q60 D hl hc hb) (by omega) (by omega), by omega, by omega⟩) rfl
                · have r63 : ar2.toInt ≠ y1_5.toInt := t_nei h58
                  refine ev_loc f_X5_countReadings (nx := 64) rfl rfl rfl rfl ?_
                  refine ev_loc f_X5_countReadings (nx := 66) rfl rfl rfl rfl ?_
                  refine ev_if f_X5_countReadings (t1 := 69) (t2 := 83) rfl rfl rfl (fun h64 => ?_) (fun h64 => ?_)
                  · have r65 : ar2.toInt = y51_6.toInt := t_eqi h64
                    refine ev_loc f_X5_countReadings (nx := 71) rfl rfl rfl rfl ?_
                    refine ev_loc f_X5_countReadings (nx := 72) rfl rfl rfl rfl ?_
                    refine ev_loc f_X5_countReadings (nx := 73) rfl rfl rfl rfl ?_
                    refine ev_loc f_X5_countReadings (nx := 75) rfl rfl rfl rfl ?_
                    refine ev_loc f_X5_countReadings (nx := 77) rfl rfl rfl rfl ?_
                    refine ev_qI0 f_X5_countReadings (nx := 80) (r := [.int y51_4]) rfl rfl rfl rfl rfl rfl rfl (c_d_countBeats hI (ar0) p_a0 (ar1) (y1_5) (y51_6)) rfl (fun w66 l66 u66 q66 => ?_)
                    have q66 : ∀ D : s_D, t_VL gr ar0 → t_CV gi gl ar0 D → t_Cb D → w66.toInt = s_cB D ar1 y1_5.toInt y51_6.toInt := q66
                    refine ev_addR f_X5_countReadings (nx := 81) (l := 0) (u := 488) rfl l51_4 u51_4 l66 u66 rfl rfl (by decide) (by decide) rfl (fun z67 e67 l67 u67 => ?_)
                    refine ev_loc f_X5_countReadings (nx := 83) (lo' := [(4, .int z67), (6, .int y51_6), (5, .int y1_5), (0, .ref ar0), (1, .long ar1), (3, .int ar2)]) rfl rfl rfl rfl ?_
                    refine ev_incR f_X5_countReadings (nx := 86) (c := 1) (l := 1) (u := 6) rfl rfl (by decide) (by decide) l51_6 u57 rfl rfl (by decide) (by decide) rfl (fun z68 e68 l68 u68 => ?_)
                    refine ev_jmp f_X5_countReadings (nx := 43) rfl rfl rfl ?_
                    refine ev_sub (lo := [(6, .int z68), (4, .int z67), (5, .int y1_5), (0, .ref ar0), (1, .long ar1), (3, .int ar2)]) rfl (t_sc rfl (t_sc rfl (t_sc rfl (t_sc rfl (t_sc rfl (t_sc rfl t_sn)))))) ?_
                    exact ih51 _ (by omega) (z68) (z67) (Int.le_trans (by decide : (0:Int) ≤ 1) l68) u68 l67 (by omega : z67.toInt ≤ (475:Int)) (by omega) (by
                                                            intro D hl hc hb
                                                            obtain ⟨g1, g2, g3⟩ := j51_1 D hl hc hb
                                                            have hm := hc.1.1
                                                            exact ⟨s_cc_y g1 (by omega) (by omega) (by omega) (q66 D hl hc hb) (by omega) (by omega), by omega, by omega⟩) rfl
                  · have r69 : ar2.toInt ≠ y51_6.toInt := t_nei h64
                    refine ev_incR f_X5_countReadings (nx := 86) (c := 1) (l := 1) (u := 6) rfl rfl (by decide) (by decide) l51_6 u57 rfl rfl (by decide) (by decide) rfl (fun z70 e70 l70 u70 => ?_)
                    refine ev_jmp f_X5_countReadings (nx := 43) rfl rfl rfl ?_
                    refine ev_sub (lo := [(6, .int z70), (4, .int y51_4), (5, .int y1_5), (0, .ref ar0), (1, .long ar1), (3, .int ar2)]) rfl (t_sc rfl (t_sc rfl (t_sc rfl (t_sc rfl (t_sc rfl (t_sc rfl t_sn)))))) ?_
                    exact ih51 _ (by omega) (z70) (y51_4) (Int.le_trans (by decide : (0:Int) ≤ 1) l70) u70 l51_4 u51_4 (by omega) (by
                                                            intro D hl hc hb
                                                            obtain ⟨g1, g2, g3⟩ := j51_1 D hl hc hb
                                                            have hm := hc.1.1
                                                            exact ⟨s_cc_n g1 (by omega) (by omega) (by omega) (by omega) (by omega), by omega, by omega⟩) rfl
            refine ev_sub (lo := [(6, .int 0), (4, .int z50), (5, .int y1_5), (0, .ref ar0), (1, .long ar1), (3, .int ar2)]) rfl (t_sc rfl (t_sc rfl (t_sc rfl (t_sc rfl (t_sc rfl (t_sc rfl t_sn)))))) ?_
            exact L51 _ (0) (z50) (by decide : (0:Int) ≤ (0:Int32).toInt) (Int.le_trans (by decide : (0:Int32).toInt ≤ (0:Int)) (by decide : (0:Int) ≤ 6)) (Int.le_trans (by decide : (0:Int) ≤ 1) l50) u50 (by have kf71 : (0 : Int32).toInt = 0 := (by decide); omega) (by
                                                            intro D hl hc hb
                                                            obtain ⟨g1, g2⟩ := j1_1 D hl hc hb
                                                            have hm := hc.1.1
                                                            have z0 : (0 : Int32).toInt = 0 := rfl
                                                            have hv := q45 D hl hc
                                                            have hne := (t_le0 e46 h47)
                                                            rw [hv] at hne
                                                            have e1 := s_c1_y (x := ar1) (D := D) (p := ar2.toInt) (a := y1_5) (by omega) (by omega) hne
                                                            exact ⟨s_cc_b g1 e1 (by omega), by omega, by omega⟩) rfl
          · have r72 : z46.toInt ≠ 0 := fun e => h47 (Int32.toInt_inj.mp (e.trans (by decide : (0:Int) = (0 : Int32).toInt)))
            refine ev_ic f_X5_countReadings (nx := 41) (v := 0) rfl (by decide) rfl ?_
            refine ev_loc f_X5_countReadings (nx := 43) (lo' := [(6, .int 0), (5, .int y1_5), (4, .int y1_4), (0, .ref ar0), (1, .long ar1), (3, .int ar2)]) rfl rfl rfl rfl ?_
            have L73 : ∀ (m73 : Nat) (y73_6 : Int32) (y73_4 : Int32), 0 ≤ y73_6.toInt → y73_6.toInt ≤ 6 → 0 ≤ y73_4.toInt → y73_4.toInt ≤ 475 → y73_4.toInt ≤ 79 * y1_5.toInt + 1 + 13 * y73_6.toInt → (∀ D : s_D, t_VL gr ar0 → t_CV gi gl ar0 D → t_Cb D → y73_4.toInt = s_cr D ar1 ar2.toInt (D 0).toNat y1_5.toNatClampNeg + s_c1 D ar1 ar2.toInt y1_5.toNatClampNeg + s_cc D ar1 ar2.toInt y1_5.toNatClampNeg y73_6.toNatClampNeg ∧ y1_5.toInt < D 0 ∧ y73_6.toInt ≤ D 0) → (6 - y73_6.toInt).toNat = m73 → x_Ev X (d + 5) n_X5_countReadings 43 [(6, .int y73_6), (5, .int y1_5), (4, .int y73_4), (0, .ref ar0), (1, .long ar1), (3, .int ar2)] [] (sh, gi, gl, gr) (t_PI wl_d_countReadings sh gi gl gr 0 474 (Q_d_countReadings gi gl gr ar0 ar1 ar2)) := by
              intro m73
              induction m73 using Nat.strongRecOn with
              | _ m73 ih73 =>
              intro y73_6 y73_4 l73_6 u73_6 l73_4 u73_4 j73_0 j73_1 hm73
              refine ev_loc f_X5_countReadings (nx := 45) rfl rfl rfl rfl ?_
              refine ev_loc f_X5_countReadings (nx := 46) rfl rfl rfl rfl ?_
              refine ev_gvI f_X5_countReadings (nx := 49) (w := (gi ar0 0)) rfl p_a0.1 rfl rfl rfl rfl ?_
              refine ev_if f_X5_countReadings (t1 := 89) (t2 := 52) rfl rfl rfl (fun h74 => ?_) (fun h74 => ?_)
              · have r75 : (gi ar0 0).toInt ≤ y73_6.toInt := Int32.le_iff_toInt_le.mp h74
                have l76 : 1 ≤ y73_6.toInt := t_lel h74 l7
                refine ev_incR f_X5_countReadings (nx := 92) (c := 1) (l := 1) (u := 6) rfl rfl (by decide) (by decide) l1_5 u6 rfl rfl (by decide) (by decide) rfl (fun z77 e77 l77 u77 => ?_)
                refine ev_jmp f_X5_countReadings (nx := 6) rfl rfl rfl ?_
                refine ev_sub (lo := [(5, .int z77), (4, .int y73_4), (0, .ref ar0), (1, .long ar1), (3, .int ar2)]) rfl (t_sc rfl (t_sc rfl (t_sc rfl (t_sc rfl (t_sc rfl t_sn))))) ?_
                exact ih1 _ (by omega) (z77) (y73_4) (Int.le_trans (by decide : (0:Int) ≤ 1) l77) u77 l73_4 (by omega : y73_4.toInt ≤ (474:Int)) (by omega) (by
                                                            intro D hl hc hb
                                                            obtain ⟨g1, g2, g3⟩ := j73_1 D hl hc hb
                                                            have hm := hc.1.1
                                                            exact ⟨s_cr_s g1 (by omega) (by omega) (by omega) (by omega), by omega⟩) rfl
              · have r78 : y73_6.toInt < (gi ar0 0).toInt := Int32.lt_iff_toInt_lt.mp (t_nle h74)
                have u79 : y73_6.toInt ≤ 5 := t_ltu (t_nle h74) u2 rfl
                refine ev_loc f_X5_countReadings (nx := 53) rfl rfl rfl rfl ?_
                refine ev_ic f_X5_countReadings (nx := 54) (v := -1) rfl (by decide) rfl ?_
                refine ev_f f_X5_countReadings (t1 := 69) (t2 := 57) rfl rfl rfl (t_neT' (by decide : ((-1):Int32).toInt ≤ ((-1):Int)) l44 (by decide)) ?_
                refine ev_loc f_X5_countReadings (nx := 58) rfl rfl rfl rfl ?_
                refine ev_loc f_X5_countReadings (nx := 60) rfl rfl rfl rfl ?_
                refine ev_if f_X5_countReadings (t1 := 69) (t2 := 63) rfl rfl rfl (fun h80 => ?_) (fun h80 => ?_)
                · have r81 : ar2.toInt = y1_5.toInt := t_eqi h80
                  refine ev_loc f_X5_countReadings (nx := 71) rfl rfl rfl rfl ?_
                  refine ev_loc f_X5_countReadings (nx := 72) rfl rfl rfl rfl ?_
                  refine ev_loc f_X5_countReadings (nx := 73) rfl rfl rfl rfl ?_
                  refine ev_loc f_X5_countReadings (nx := 75) rfl rfl rfl rfl ?_
                  refine ev_loc f_X5_countReadings (nx := 77) rfl rfl rfl rfl ?_
                  refine ev_qI0 f_X5_countReadings (nx := 80) (r := [.int y73_4]) rfl rfl rfl rfl rfl rfl rfl (c_d_countBeats hI (ar0) p_a0 (ar1) (y1_5) (y73_6)) rfl (fun w82 l82 u82 q82 => ?_)
                  have q82 : ∀ D : s_D, t_VL gr ar0 → t_CV gi gl ar0 D → t_Cb D → w82.toInt = s_cB D ar1 y1_5.toInt y73_6.toInt := q82
                  refine ev_addR f_X5_countReadings (nx := 81) (l := 0) (u := 488) rfl l73_4 u73_4 l82 u82 rfl rfl (by decide) (by decide) rfl (fun z83 e83 l83 u83 => ?_)
                  refine ev_loc f_X5_countReadings (nx := 83) (lo' := [(4, .int z83), (6, .int y73_6), (5, .int y1_5), (0, .ref ar0), (1, .long ar1), (3, .int ar2)]) rfl rfl rfl rfl ?_
                  refine ev_incR f_X5_countReadings (nx := 86) (c := 1) (l := 1) (u := 6) rfl rfl (by decide) (by decide) l73_6 u79 rfl rfl (by decide) (by decide) rfl (fun z84 e84 l84 u84 => ?_)
                  refine ev_jmp f_X5_countReadings (nx := 43) rfl rfl rfl ?_
                  refine ev_sub (lo := [(6, .int z84), (5, .int y1_5), (4, .int z83), (0, .ref ar0), (1, .long ar1), (3, .int ar2)]) rfl (t_sc rfl (t_sc rfl (t_sc rfl (t_sc rfl (t_sc rfl (t_sc rfl t_sn)))))) ?_
                  exact ih73 _ (by omega) (z84) (z83) (Int.le_trans (by decide : (0:Int) ≤ 1) l84) u84 l83 (by omega : z83.toInt ≤ (475:Int)) (by omega) (by
                                                            intro D hl hc hb
                                                            obtain ⟨g1, g2, g3⟩ := j73_1 D hl hc hb
                                                            have hm := hc.1.1
                                                            exact ⟨s_cc_y g1 (by omega) (by omega) (by omega) (q82 D hl hc hb) (by omega) (by omega), by omega, by omega⟩) rfl
                · have r85 : ar2.toInt ≠ y1_5.toInt := t_nei h80
                  refine ev_loc f_X5_countReadings (nx := 64) rfl rfl rfl rfl ?_
                  refine ev_loc f_X5_countReadings (nx := 66) rfl rfl rfl rfl ?_
                  refine ev_if f_X5_countReadings (t1 := 69) (t2 := 83) rfl rfl rfl (fun h86 => ?_) (fun h86 => ?_)
                  · have r87 : ar2.toInt = y73_6.toInt := t_eqi h86
                    refine ev_loc f_X5_countReadings (nx := 71) rfl rfl rfl rfl ?_
                    refine ev_loc f_X5_countReadings (nx := 72) rfl rfl rfl rfl ?_
                    refine ev_loc f_X5_countReadings (nx := 73) rfl rfl rfl rfl ?_
                    refine ev_loc f_X5_countReadings (nx := 75) rfl rfl rfl rfl ?_
                    refine ev_loc f_X5_countReadings (nx := 77) rfl rfl rfl rfl ?_
                    refine ev_qI0 f_X5_countReadings (nx := 80) (r := [.int y73_4]) rfl rfl rfl rfl rfl rfl rfl (c_d_countBeats hI (ar0) p_a0 (ar1) (y1_5) (y73_6)) rfl (fun w88 l88 u88 q88 => ?_)
                    have q88 : ∀ D : s_D, t_VL gr ar0 → t_CV gi gl ar0 D → t_Cb D → w88.toInt = s_cB D ar1 y1_5.toInt y73_6.toInt := q88
                    refine ev_addR f_X5_countReadings (nx := 81) (l := 0) (u := 488) rfl l73_4 u73_4 l88 u88 rfl rfl (by decide) (by decide) rfl (fun z89 e89 l89 u89 => ?_)
                    refine ev_loc f_X5_countReadings (nx := 83) (lo' := [(4, .int z89), (6, .int y73_6), (5, .int y1_5), (0, .ref ar0), (1, .long ar1), (3, .int ar2)]) rfl rfl rfl rfl ?_
                    refine ev_incR f_X5_countReadings (nx := 86) (c := 1) (l := 1) (u := 6) rfl rfl (by decide) (by decide) l73_6 u79 rfl rfl (by decide) (by decide) rfl (fun z90 e90 l90 u90 => ?_)
                    refine ev_jmp f_X5_countReadings (nx := 43) rfl rfl rfl ?_
                    refine ev_sub (lo := [(6, .int z90), (5, .int y1_5), (4, .int z89), (0, .ref ar0), (1, .long ar1), (3, .int ar2)]) rfl (t_sc rfl (t_sc rfl (t_sc rfl (t_sc rfl (t_sc rfl (t_sc rfl t_sn)))))) ?_
                    exact ih73 _ (by omega) (z90) (z89) (Int.le_trans (by decide : (0:Int) ≤ 1) l90) u90 l89 (by omega : z89.toInt ≤ (475:Int)) (by omega) (by
                                                            intro D hl hc hb
                                                            obtain ⟨g1, g2, g3⟩ := j73_1 D hl hc hb
                                                            have hm := hc.1.1
                                                            exact ⟨s_cc_y g1 (by omega) (by omega) (by omega) (q88 D hl hc hb) (by omega) (by omega), by omega, by omega⟩) rfl
                  · have r91 : ar2.toInt ≠ y73_6.toInt := t_nei h86
                    refine ev_incR f_X5_countReadings (nx := 86) (c := 1) (l := 1) (u := 6) rfl rfl (by decide) (by decide) l73_6 u79 rfl rfl (by decide) (by decide) rfl (fun z92 e92 l92 u92 => ?_)
                    refine ev_jmp f_X5_countReadings (nx := 43) rfl rfl rfl ?_
                    refine ev_sub (lo := [(6, .int z92), (5, .int y1_5), (4, .int y73_4), (0, .ref ar0), (1, .long ar1), (3, .int ar2)]) rfl (t_sc rfl (t_sc rfl (t_sc rfl (t_sc rfl (t_sc rfl (t_sc rfl t_sn)))))) ?_
                    exact ih73 _ (by omega) (z92) (y73_4) (Int.le_trans (by decide : (0:Int) ≤ 1) l92) u92 l73_4 u73_4 (by omega) (by
                                                            intro D hl hc hb
                                                            obtain ⟨g1, g2, g3⟩ := j73_1 D hl hc hb
                                                            have hm := hc.1.1
                                                            exact ⟨s_cc_n g1 (by omega) (by omega) (by omega) (by omega) (by omega), by omega, by omega⟩) rfl
            refine ev_sub (lo := [(6, .int 0), (5, .int y1_5), (4, .int y1_4), (0, .ref ar0), (1, .long ar1), (3, .int ar2)]) rfl (t_sc rfl (t_sc rfl (t_sc rfl (t_sc rfl (t_sc rfl (t_sc rfl t_sn)))))) ?_
            exact L73 _ (0) (y1_4) (by decide : (0:Int) ≤ (0:Int32).toInt) (Int.le_trans (by decide : (0:Int32).toInt ≤ (0:Int)) (by decide : (0:Int) ≤ 6)) l1_4 (Int.le_trans u1_4 (by decide : (474:Int) ≤ 475)) (by have kf93 : (0 : Int32).toInt = 0 := (by decide); omega) (by
                                                            intro D hl hc hb
                                                            obtain ⟨g1, g2⟩ := j1_1 D hl hc hb
                                                            have hm := hc.1.1
                                                            have z0 : (0 : Int32).toInt = 0 := rfl
                                                            have hv := q45 D hl hc
                                                            have hne := (t_le1 e46 h47)
                                                            rw [hv] at hne
                                                            have e1 := s_c1_n (x := ar1) (D := D) (p := ar2.toInt) (a := y1_5) (by omega) (fun hh => hne hh.2)
                                                            exact ⟨s_cc_b g1 e1 (by omega), by omega, by omega⟩) rfl
        · have r94 : ar2.toInt ≠ y1_5.toInt := t_nei h41
          refine ev_ic f_X5_countReadings (nx := 41) (v := 0) rfl (by decide) rfl ?_
          refine ev_loc f_X5_countReadings (nx := 43) (lo' := [(6, .int 0), (5, .int y1_5), (4, .int y1_4), (0, .ref ar0), (1, .long ar1), (3, .int ar2)]) rfl rfl rfl rfl ?_
          have L95 : ∀ (m95 : Nat) (y95_6 : Int32) (y95_4 : Int32), 0 ≤ y95_6.toInt → y95_6.toInt ≤ 6 → 0 ≤ y95_4.toInt → y95_4.toInt ≤ 475 → y95_4.toInt ≤ 79 * y1_5.toInt + 1 + 13 * y95_6.toInt → (∀ D : s_D, t_VL gr ar0 → t_CV gi gl ar0 D → t_Cb D → y95_4.toInt = s_cr D ar1 ar2.toInt (D 0).toNat y1_5.toNatClampNeg + s_c1 D ar1 ar2.toInt y1_5.toNatClampNeg + s_cc D ar1 ar2.toInt y1_5.toNatClampNeg y95_6.toNatClampNeg ∧ y1_5.toInt < D 0 ∧ y95_6.toInt ≤ D 0) → (6 - y95_6.toInt).toNat = m95 → x_Ev X (d + 5) n_X5_countReadings 43 [(6, .int y95_6), (5, .int y1_5), (4, .int y95_4), (0, .ref ar0), (1, .long ar1), (3, .int ar2)] [] (sh, gi, gl, gr) (t_PI wl_d_countReadings sh gi gl gr 0 474 (Q_d_countReadings gi gl gr ar0 ar1 ar2)) := by
            intro m95
            induction m95 using Nat.strongRecOn with
            | _ m95 ih95 =>
            intro y95_6 y95_4 l95_6 u95_6 l95_4 u95_4 j95_0 j95_1 hm95
            refine ev_loc f_X5_countReadings (nx := 45) rfl rfl rfl rfl ?_
            refine ev_loc f_X5_countReadings (nx := 46) rfl rfl rfl rfl ?_
            refine ev_gvI f_X5_countReadings (nx := 49) (w := (gi ar0 0)) rfl p_a0.1 rfl rfl rfl rfl ?_
            refine ev_if f_X5_countReadings (t1 := 89) (t2 := 52) rfl rfl rfl (fun h96 => ?_) (fun h96 => ?_)
            · have r97 : (gi ar0 0).toInt ≤ y95_6.toInt := Int32.le_iff_toInt_le.mp h96
              have l98 : 1 ≤ y95_6.toInt := t_lel h96 l7
              refine ev_incR f_X5_countReadings (nx := 92) (c := 1) (l := 1) (u := 6) rfl rfl (by decide) (by decide) l1_5 u6 rfl rfl (by decide) (by decide) rfl (fun z99 e99 l99 u99 => ?_)
              refine ev_jmp f_X5_countReadings (nx := 6) rfl rfl rfl ?_
              refine ev_sub (lo := [(5, .int z99), (4, .int y95_4), (0, .ref ar0), (1, .long ar1), (3, .int ar2)]) rfl (t_sc rfl (t_sc rfl (t_sc rfl (t_sc rfl (t_sc rfl t_sn))))) ?_
              exact ih1 _ (by omega) (z99) (y95_4) (Int.le_trans (by decide : (0:Int) ≤ 1) l99) u99 l95_4 (by omega : y95_4.toInt ≤ (474:Int)) (by omega) (by
                                                            intro D hl hc hb
                                                            obtain ⟨g1, g2, g3⟩ := j95_1 D hl hc hb
                                                            have hm := hc.1.1
                                                            exact ⟨s_cr_s g1 (by omega) (by omega) (by omega) (by omega), by omega⟩) rfl
            · have r100 : y95_6.toInt < (gi ar0 0).toInt := Int32.lt_iff_toInt_lt.mp (t_nle h96)
              have u101 : y95_6.toInt ≤ 5 := t_ltu (t_nle h96) u2 rfl
              refine ev_loc f_X5_countReadings (nx := 53) rfl rfl rfl rfl ?_
              refine ev_ic f_X5_countReadings (nx := 54) (v := -1) rfl (by decide) rfl ?_
              refine ev_if f_X5_countReadings (t1 := 69) (t2 := 57) rfl rfl rfl (fun h102 => ?_) (fun h102 => ?_)
              · have u103 : ar2.toInt ≤ (-1) := t_equ h102 (by decide : ((-1):Int32).toInt ≤ ((-1):Int))
                have l104 : (-1) ≤ ar2.toInt := t_eql h102 (by decide : ((-1):Int) ≤ ((-1):Int32).toInt)
                refine ev_loc f_X5_countReadings (nx := 71) rfl rfl rfl rfl ?_
                refine ev_loc f_X5_countReadings (nx := 72) rfl rfl rfl rfl ?_
                refine ev_loc f_X5_countReadings (nx := 73) rfl rfl rfl rfl ?_
                refine ev_loc f_X5_countReadings (nx := 75) rfl rfl rfl rfl ?_
                refine ev_loc f_X5_countReadings (nx := 77) rfl rfl rfl rfl ?_
                refine ev_qI0 f_X5_countReadings (nx := 80) (r := [.int y95_4]) rfl rfl rfl rfl rfl rfl rfl (c_d_countBeats hI (ar0) p_a0 (ar1) (y1_5) (y95_6)) rfl (fun w105 l105 u105 q105 => ?_)
                have q105 : ∀ D : s_D, t_VL gr ar0 → t_CV gi gl ar0 D → t_Cb D → w105.toInt = s_cB D ar1 y1_5.toInt y95_6.toInt := q105
                refine ev_addR f_X5_countReadings (nx := 81) (l := 0) (u := 488) rfl l95_4 u95_4 l105 u105 rfl rfl (by decide) (by decide) rfl (fun z106 e106 l106 u106 => ?_)
                refine ev_loc f_X5_countReadings (nx := 83) (lo' := [(4, .int z106), (6, .int y95_6), (5, .int y1_5), (0, .ref ar0), (1, .long ar1), (3, .int ar2)]) rfl rfl rfl rfl ?_
                refine ev_incR f_X5_countReadings (nx := 86) (c := 1) (l := 1) (u := 6) rfl rfl (by decide) (by decide) l95_6 u101 rfl rfl (by decide) (by decide) rfl (fun z107 e107 l107 u107 => ?_)
                refine ev_jmp f_X5_countReadings (nx := 43) rfl rfl rfl ?_
                refine ev_sub (lo := [(6, .int z107), (5, .int y1_5), (4, .int z106), (0, .ref ar0), (1, .long ar1), (3, .int ar2)]) rfl (t_sc rfl (t_sc rfl (t_sc rfl (t_sc rfl (t_sc rfl (t_sc rfl t_sn)))))) ?_
                exact ih95 _ (by omega) (z107) (z106) (Int.le_trans (by decide : (0:Int) ≤ 1) l107) u107 l106 (by omega : z106.toInt ≤ (475:Int)) (by omega) (by
                                                            intro D hl hc hb
                                                            obtain ⟨g1, g2, g3⟩ := j95_1 D hl hc hb
                                                            have hm := hc.1.1
                                                            exact ⟨s_cc_y g1 (by omega) (by omega) (by omega) (q105 D hl hc hb) (by omega) (by omega), by omega, by omega⟩) rfl
              · have r108 : ar2.toInt ≠ (-1) := fun e => h102 (Int32.toInt_inj.mp (e.trans (by decide : ((-1):Int) = ((-1) : Int32).toInt)))
                refine ev_loc f_X5_countReadings (nx := 58) rfl rfl rfl rfl ?_
                refine ev_loc f_X5_countReadings (nx := 60) rfl rfl rfl rfl ?_
                refine ev_if f_X5_countReadings (t1 := 69) (t2 := 63) rfl rfl rfl (fun h109 => ?_) (fun h109 => ?_)
                · have r110 : ar2.toInt = y1_5.toInt := t_eqi h109
                  have u111 : ar2.toInt ≤ 5 := t_equ h109 u6
                  have l112 : 0 ≤ ar2.toInt := t_eql h109 l1_5
                  refine ev_loc f_X5_countReadings (nx := 71) rfl rfl rfl rfl ?_
                  refine ev_loc f_X5_countReadings (nx := 72) rfl rfl rfl rfl ?_
                  refine ev_loc f_X5_countReadings (nx := 73) rfl rfl rfl rfl ?_
                  refine ev_loc f_X5_countReadings (nx := 75) rfl rfl rfl rfl ?_
                  refine ev_loc f_X5_countReadings (nx := 77) rfl rfl rfl rfl ?_
                  refine ev_qI0 f_X5_countReadings (nx := 80) (r := [.int y95_4]) rfl rfl rfl rfl rfl rfl rfl (c_d_countBeats hI (ar0) p_a0 (ar1) (y1_5) (y95_6)) rfl (fun w113 l113 u113 q113 => ?_)
                  have q113 : ∀ D : s_D, t_VL gr ar0 → t_CV gi gl ar0 D → t_Cb D → w113.toInt = s_cB D ar1 y1_5.toInt y95_6.toInt := q113
                  refine ev_addR f_X5_countReadings (nx := 81) (l := 0) (u := 488) rfl l95_4 u95_4 l113 u113 rfl rfl (by decide) (by decide) rfl (fun z114 e114 l114 u114 => ?_)
                  refine ev_loc f_X5_countReadings (nx := 83) (lo' := [(4, .int z114), (6, .int y95_6), (5, .int y1_5), (0, .ref ar0), (1, .long ar1), (3, .int ar2)]) rfl rfl rfl rfl ?_
                  refine ev_incR f_X5_countReadings (nx := 86) (c := 1) (l := 1) (u := 6) rfl rfl (by decide) (by decide) l95_6 u101 rfl rfl (by decide) (by decide) rfl (fun z115 e115 l115 u115 => ?_)
                  refine ev_jmp f_X5_countReadings (nx := 43) rfl rfl rfl ?_
                  refine ev_sub (lo := [(6, .int z115), (5, .int y1_5), (4, .int z114), (0, .ref ar0), (1, .long ar1), (3, .int ar2)]) rfl (t_sc rfl (t_sc rfl (t_sc rfl (t_sc rfl (t_sc rfl (t_sc rfl t_sn)))))) ?_
                  exact ih95 _ (by omega) (z115) (z114) (Int.le_trans (by decide : (0:Int) ≤ 1) l115) u115 l114 (by omega : z114.toInt ≤ (475:Int)) (by omega) (by
                                                            intro D hl hc hb
                                                            obtain ⟨g1, g2, g3⟩ := j95_1 D hl hc hb
                                                            have hm := hc.1.1
                                                            exact ⟨s_cc_y g1 (by omega) (by omega) (by omega) (q113 D hl hc hb) (by omega) (by omega), by omega, by omega⟩) rfl
                · have r116 : ar2.toInt ≠ y1_5.toInt := t_nei h109
                  refine ev_loc f_X5_countReadings (nx := 64) rfl rfl rfl rfl ?_
                  refine ev_loc f_X5_countReadings (nx := 66) rfl rfl rfl rfl ?_
                  refine ev_if f_X5_countReadings (t1 := 69) (t2 := 83) rfl rfl rfl (fun h117 => ?_) (fun h117 => ?_)
                  · have r118 : ar2.toInt = y95_6.toInt := t_eqi h117
                    have u119 : ar2.toInt ≤ 5 := t_equ h117 u101
                    have l120 : 0 ≤ ar2.toInt := t_eql h117 l95_6
                    refine ev_loc f_X5_countReadings (nx := 71) rfl rfl rfl rfl ?_
                    refine ev_loc f_X5_countReadings (nx := 72) rfl rfl rfl rfl ?_
                    refine ev_loc f_X5_countReadings (nx := 73) rfl rfl rfl rfl ?_
                    refine ev_loc f_X5_countReadings (nx := 75) rfl rfl rfl rfl ?_
                    refine ev_loc f_X5_countReadings (nx := 77) rfl rfl rfl rfl ?_
                    refine ev_qI0 f_X5_countReadings (nx := 80) (r := [.int y95_4]) rfl rfl rfl rfl rfl rfl rfl (c_d_countBeats hI (ar0) p_a0 (ar1) (y1_5) (y95_6)) rfl (fun w121 l121 u121 q121 => ?_)
                    have q121 : ∀ D : s_D, t_VL gr ar0 → t_CV gi gl ar0 D → t_Cb D → w121.toInt = s_cB D ar1 y1_5.toInt y95_6.toInt := q121
                    refine ev_addR f_X5_countReadings (nx := 81) (l := 0) (u := 488) rfl l95_4 u95_4 l121 u121 rfl rfl (by decide) (by decide) rfl (fun z122 e122 l122 u122 => ?_)
                    refine ev_loc f_X5_countReadings (nx := 83) (lo' := [(4, .int z122), (6, .int y95_6), (5, .int y1_5), (0, .ref ar0), (1, .long ar1), (3, .int ar2)]) rfl rfl rfl rfl ?_
                    refine ev_incR f_X5_countReadings (nx := 86) (c := 1) (l := 1) (u := 6) rfl rfl (by decide) (by decide) l95_6 u101 rfl rfl (by decide) (by decide) rfl (fun z123 e123 l123 u123 => ?_)
                    refine ev_jmp f_X5_countReadings (nx := 43) rfl rfl rfl ?_
                    refine ev_sub (lo := [(6, .int z123), (5, .int y1_5), (4, .int z122), (0, .ref ar0), (1, .long ar1), (3, .int ar2)]) rfl (t_sc rfl (t_sc rfl (t_sc rfl (t_sc rfl (t_sc rfl (t_sc rfl t_sn)))))) ?_
                    exact ih95 _ (by omega) (z123) (z122) (Int.le_trans (by decide : (0:Int) ≤ 1) l123) u123 l122 (by omega : z122.toInt ≤ (475:Int)) (by omega) (by
                                                            intro D hl hc hb
                                                            obtain ⟨g1, g2, g3⟩ := j95_1 D hl hc hb
                                                            have hm := hc.1.1
                                                            exact ⟨s_cc_y g1 (by omega) (by omega) (by omega) (q121 D hl hc hb) (by omega) (by omega), by omega, by omega⟩) rfl
                  · have r124 : ar2.toInt ≠ y95_6.toInt := t_nei h117
                    refine ev_incR f_X5_countReadings (nx := 86) (c := 1) (l := 1) (u := 6) rfl rfl (by decide) (by decide) l95_6 u101 rfl rfl (by decide) (by decide) rfl (fun z125 e125 l125 u125 => ?_)
                    refine ev_jmp f_X5_countReadings (nx := 43) rfl rfl rfl ?_
                    refine ev_sub (lo := [(6, .int z125), (5, .int y1_5), (4, .int y95_4), (0, .ref ar0), (1, .long ar1), (3, .int ar2)]) rfl (t_sc rfl (t_sc rfl (t_sc rfl (t_sc rfl (t_sc rfl (t_sc rfl t_sn)))))) ?_
                    exact ih95 _ (by omega) (z125) (y95_4) (Int.le_trans (by decide : (0:Int) ≤ 1) l125) u125 l95_4 u95_4 (by omega) (by
                                                            intro D hl hc hb
                                                            obtain ⟨g1, g2, g3⟩ := j95_1 D hl hc hb
                                                            have hm := hc.1.1
                                                            exact ⟨s_cc_n g1 (by omega) (by omega) (by omega) (by omega) (by omega), by omega, by omega⟩) rfl
          refine ev_sub (lo := [(6, .int 0), (5, .int y1_5), (4, .int y1_4), (0, .ref ar0), (1, .long ar1), (3, .int ar2)]) rfl (t_sc rfl (t_sc rfl (t_sc rfl (t_sc rfl (t_sc rfl (t_sc rfl t_sn)))))) ?_
          exact L95 _ (0) (y1_4) (by decide : (0:Int) ≤ (0:Int32).toInt) (Int.le_trans (by decide : (0:Int32).toInt ≤ (0:Int)) (by decide : (0:Int) ≤ 6)) l1_4 (Int.le_trans u1_4 (by decide : (474:Int) ≤ 475)) (by have kf126 : (0 : Int32).toInt = 0 := (by decide); omega) (by
                                                            intro D hl hc hb
                                                            obtain ⟨g1, g2⟩ := j1_1 D hl hc hb
                                                            have hm := hc.1.1
                                                            have z0 : (0 : Int32).toInt = 0 := rfl
                                                            have e1 := s_c1_n (x := ar1) (D := D) (p := ar2.toInt) (a := y1_5) (by omega) (fun hh => by have := hh.1; omega)
                                                            exact ⟨s_cc_b g1 e1 (by omega), by omega, by omega⟩) rfl
  refine ev_sub (lo := [(5, .int 0), (4, .int 0), (0, .ref ar0), (1, .long ar1), (3, .int ar2)]) rfl (t_sc rfl (t_sc rfl (t_sc rfl (t_sc rfl (t_sc rfl t_sn))))) ?_
  exact L1 _ (0) (0) (by decide : (0:Int) ≤ (0:Int32).toInt) (Int.le_trans (by decide : (0:Int32).toInt ≤ (0:Int)) (by decide : (0:Int) ≤ 6)) (by decide : (0:Int) ≤ (0:Int32).toInt) (Int.le_trans (by decide : (0:Int32).toInt ≤ (0:Int)) (by decide : (0:Int) ≤ 474)) (by have kf127 : (0 : Int32).toInt = 0 := (by decide); omega) (fun D hl hc hb => ⟨rfl, by have z0 : (0 : Int32).toInt = 0 := rfl; have := hb.1.1; omega⟩) rfl
/-! ===== the other side's READINGS: single ones first, then the couples ===== -/
noncomputable def s_m1 (D : s_D) (x : Int64) : Nat → Int
  | 0 => 0
  | k + 1 => s_m1 D x k + s_c1 D x (-1) k
noncomputable def s_m2 (D : s_D) (x : Int64) (N : Nat) : Nat → Int
  | 0 => 0
  | k + 1 => s_m2 D x N k + s_cc D x (-1) k N
theorem s_cr_m (D : s_D) (x : Int64) (N : Nat) : ∀ k : Nat, s_cr D x (-1) N k = s_m1 D x k + s_m2 D x N k
  | 0 => rfl
  | k + 1 => by
    show s_cr D x (-1) N k + s_c1 D x (-1) k + s_cc D x (-1) k N = (s_m1 D x k + s_c1 D x (-1) k) + (s_m2 D x N k + s_cc D x (-1) k N)
    rw [s_cr_m D x N k]; omega
section FND
variable {D : s_D} {x y : Int64} {t t1 : Int} {a a' b b' c c' e e' : Int32} {N : Nat}
theorem s_m1_y (h : c.toInt = s_m1 D x a.toNatClampNeg) (h0 : 0 ≤ a.toInt) (hx : s_hd D a.toInt = x) (hc : c'.toInt = c.toInt + 1) (ha : a'.toInt = a.toInt + 1) : c'.toInt = s_m1 D x a'.toNatClampNeg := by
  have c1 := t_clamp (i := a) h0
  have c2 := t_clamp (i := a') (by omega)
  rw [show a'.toNatClampNeg = a.toNatClampNeg + 1 by omega]
  show _ = s_m1 D x a.toNatClampNeg + s_c1 D x (-1) a.toNatClampNeg
  rw [← s_c1_y (p := -1) h0 (Or.inl rfl) hx]; omega
theorem s_m1_n (h : c.toInt = s_m1 D x a.toNatClampNeg) (h0 : 0 ≤ a.toInt) (hx : ¬ s_hd D a.toInt = x) (hc : c'.toInt = c.toInt) (ha : a'.toInt = a.toInt + 1) : c'.toInt = s_m1 D x a'.toNatClampNeg := by
  have c1 := t_clamp (i := a) h0
  have c2 := t_clamp (i := a') (by omega)
  rw [show a'.toNatClampNeg = a.toNatClampNeg + 1 by omega]
  show _ = s_m1 D x a.toNatClampNeg + s_c1 D x (-1) a.toNatClampNeg
  rw [← s_c1_n (p := -1) h0 (fun hh => hx hh.2)]; omega
/-- the couples begin -/
theorem s_m2_b (h : c.toInt = s_m1 D x a.toNatClampNeg) (h0 : 0 ≤ a.toInt) (hN : a.toInt = (N : Int)) (hc : c'.toInt = c.toInt) (ha : a'.toInt = 0) : c'.toInt = s_m1 D x N + s_m2 D x N a'.toNatClampNeg := by
  have c1 := t_clamp (i := a) h0
  have c2 := t_clamp (i := a') (by omega)
  rw [show a'.toNatClampNeg = 0 by omega]
  rw [show a.toNatClampNeg = N by omega] at h
  show _ = s_m1 D x N + 0
  omega
theorem s_m3_b (h : c.toInt = t + s_m2 D x N a.toNatClampNeg) (hc : c'.toInt = c.toInt) (hb : b.toInt = 0) : c'.toInt = t + s_m2 D x N a.toNatClampNeg + s_cc D x (-1) a.toNatClampNeg b.toNatClampNeg := by
  have c2 := t_clamp (i := b) (by omega)
  rw [show b.toNatClampNeg = 0 by omega]
  show _ = _ + 0
  omega
theorem s_m4_b (h : c.toInt = t) (hc : c'.toInt = c.toInt) (he : e.toInt = s_lb a.toInt b.toInt) : t + s_cB D x a.toInt b.toInt = c'.toInt + s_cb D x a.toInt b.toInt (13 - e.toInt).toNat e.toInt := by
  have h1 := s_cb_b (x := x) (D := D) he
  omega
theorem s_m4_y (h : t = c.toInt + s_cb D x a.toInt b.toInt (13 - e.toInt).toNat e.toInt) (h1 : e.toInt ≤ 12) (hx : s_bw D a.toInt b.toInt e.toInt = x) (hc : c'.toInt = c.toInt + 1) (he : e'.toInt = e.toInt + 1) : t = c'.toInt + s_cb D x a.toInt b.toInt (13 - e'.toInt).toNat e'.toInt := s_cb_y h h1 hx hc he
theorem s_m4_n (h : t = c.toInt + s_cb D x a.toInt b.toInt (13 - e.toInt).toNat e.toInt) (h1 : e.toInt ≤ 12) (hx : ¬ s_bw D a.toInt b.toInt e.toInt = x) (hc : c'.toInt = c.toInt) (he : e'.toInt = e.toInt + 1) : t = c'.toInt + s_cb D x a.toInt b.toInt (13 - e'.toInt).toNat e'.toInt := s_cb_n h h1 hx hc he
/-- the next second PORT -/
theorem s_m3_s (h : t + s_cc D x (-1) a.toNatClampNeg b.toNatClampNeg + s_cB D x a.toInt b.toInt = c.toInt + s_cb D x a.toInt b.toInt (13 - e.toInt).toNat e.toInt) (h0 : 0 ≤ a.toInt) (hb0 : 0 ≤ b.toInt) (h1 : 13 ≤ e.toInt) (hc : c'.toInt = c.toInt) (hb : b'.toInt = b.toInt + 1) : c'.toInt = t + s_cc D x (-1) a.toNatClampNeg b'.toNatClampNeg := by
  have c1 := t_clamp (i := a) h0
  have c2 := t_clamp (i := b) hb0
  have c3 := t_clamp (i := b') (by omega)
  have h2 := s_cb_e h h1
  rw [show b'.toNatClampNeg = b.toNatClampNeg + 1 by omega]
  show _ = t + (s_cc D x (-1) a.toNatClampNeg b.toNatClampNeg + s_if ((-1 : Int) = -1 ∨ (-1 : Int) = (a.toNatClampNeg : Int) ∨ (-1 : Int) = (b.toNatClampNeg : Int)) (s_cB D x (a.toNatClampNeg : Int) (b.toNatClampNeg : Int)) 0)
  rw [c1, c2, s_ifT (Or.inl rfl)]; omega
/-- the next first PORT -/
theorem s_m2_s (h : c.toInt = t + s_m2 D x N a.toNatClampNeg + s_cc D x (-1) a.toNatClampNeg b.toNatClampNeg) (h0 : 0 ≤ a.toInt) (hb0 : 0 ≤ b.toInt) (hN : b.toInt = (N : Int)) (hc : c'.toInt = c.toInt) (ha : a'.toInt = a.toInt + 1) : c'.toInt = t + s_m2 D x N a'.toNatClampNeg := by
  have c1 := t_clamp (i := a) h0
  have c2 := t_clamp (i := b) hb0
  have c3 := t_clamp (i := a') (by omega)
  rw [show a'.toNatClampNeg = a.toNatClampNeg + 1 by omega]
  show _ = t + (s_m2 D x N a.toNatClampNeg + s_cc D x (-1) a.toNatClampNeg N)
  rw [show b.toNatClampNeg = N by omega] at h
  omega
theorem s_m2_e (h : c.toInt = s_m1 D x N + s_m2 D x N a.toNatClampNeg) (h0 : 0 ≤ a.toInt) (hN : a.toInt = (N : Int)) (hD : N = (D 0).toNat) : c.toInt = s_ct D x (-1) := by
  have c1 := t_clamp (i := a) h0
  subst hD
  unfold s_ct
  rw [s_cr_m, h, show a.toNatClampNeg = (D 0).toNat by omega]
end FND
