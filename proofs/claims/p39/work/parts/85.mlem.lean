/-! ===== longs ===== -/
theorem t_shr {x y : Int64} {n : Nat} (h : (y.toBitVec.smod 64#64).toNat = n) : (x >>> y).toInt = x.toInt >>> n := by
  show (x.toBitVec.sshiftRight' (y.toBitVec.smod 64#64)).toInt = x.toBitVec.toInt >>> n
  rw [BitVec.toInt_sshiftRight', h]
theorem t_nn64 {x : Int64} (h : 0 ≤ x.toInt) : x.toInt = (x.toBitVec.toNat : Int) := by
  show x.toBitVec.toInt = _
  have h1 : x.toBitVec.toInt = x.toInt := rfl
  have h2 := x.toBitVec.isLt
  rw [BitVec.toInt_eq_toNat_cond]
  rw [BitVec.toInt_eq_toNat_cond] at h1
  split
  · rfl
  · next h3 => rw [if_neg h3] at h1; omega
theorem t_or64 {x y : Int64} {k : Nat} (hk : k ≤ 62) (hx : 0 ≤ x.toInt ∧ x.toInt < 2 ^ k) (hy : 0 ≤ y.toInt ∧ y.toInt < 2 ^ k) : 0 ≤ (x ||| y).toInt ∧ (x ||| y).toInt < 2 ^ k := by
  have ex := t_nn64 hx.1
  have ey := t_nn64 hy.1
  have hx2 : x.toBitVec.toNat < 2 ^ k := by have := hx.2; rw [ex] at this; exact_mod_cast this
  have hy2 : y.toBitVec.toNat < 2 ^ k := by have := hy.2; rw [ey] at this; exact_mod_cast this
  have h1 : (x ||| y).toBitVec.toNat < 2 ^ k := by
    rw [Int64.toBitVec_or, BitVec.toNat_or]
    exact Nat.or_lt_two_pow hx2 hy2
  have h2 : (2 : Nat) ^ k ≤ 2 ^ 62 := Nat.pow_le_pow_right (by decide) hk
  have h3 : (x ||| y).toInt = ((x ||| y).toBitVec.toNat : Int) := by
    show (x ||| y).toBitVec.toInt = _
    rw [BitVec.toInt_eq_toNat_of_lt (by omega)]
  rw [h3]
  exact ⟨by omega, by exact_mod_cast h1⟩
theorem t_sh1 {s : Int32} (a : 0 ≤ s.toInt) (b : s.toInt ≤ 23) : 0 ≤ ((1 : Int64) <<< (s.toInt64 &&& 63)).toInt ∧ ((1 : Int64) <<< (s.toInt64 &&& 63)).toInt < 2 ^ 24 := by
  have h : ((List.range 24).all (fun n => decide (0 ≤ ((1 : Int64) <<< ((Int32.ofNat n).toInt64 &&& 63)).toInt ∧ ((1 : Int64) <<< ((Int32.ofNat n).toInt64 &&& 63)).toInt < 2 ^ 24))) = true := by decide +kernel
  have h1 := List.all_eq_true.mp h s.toInt.toNat (List.mem_range.mpr (by omega))
  have e : Int32.ofNat s.toInt.toNat = s := by
    apply Int32.toInt_inj.mp
    have : (nI s.toInt.toNat).toInt = (s.toInt.toNat : Int) := nI_toInt (by omega)
    have : (Int32.ofNat s.toInt.toNat).toInt = (s.toInt.toNat : Int) := this
    omega
  rw [e] at h1
  exact of_decide_eq_true h1
theorem t_lor1 {x z w : Int64} {s : Int32} (e1 : w = (1 : Int64) <<< (s.toInt64 &&& 63)) (e2 : z = x ||| w) (h : 0 ≤ x.toInt ∧ x.toInt < 16777216) (a : 0 ≤ s.toInt) (b : s.toInt ≤ 23) : 0 ≤ z.toInt ∧ z.toInt < 16777216 := by
  rw [e2, e1]
  exact t_or64 (k := 24) (by decide) h (t_sh1 a b)
theorem t_shl9 {x : Int64} {s : Int32} (h : 0 ≤ x.toInt ∧ x.toInt < 16777216) (a : 0 ≤ s.toInt) (b : s.toInt ≤ 9) : 0 ≤ (x <<< (s.toInt64 &&& 63)).toInt ∧ (x <<< (s.toInt64 &&& 63)).toInt < 2 ^ 33 := by
  have e := t_nn64 h.1
  have hx : x.toBitVec.toNat < 2 ^ 24 := by omega
  have hs : s.toInt = 0 ∨ s.toInt = 1 ∨ s.toInt = 2 ∨ s.toInt = 3 ∨ s.toInt = 4 ∨ s.toInt = 5 ∨ s.toInt = 6 ∨ s.toInt = 7 ∨ s.toInt = 8 ∨ s.toInt = 9 := by omega
  have key : ∀ (y : Int64) (n : Nat), n ≤ 9 → (y.toBitVec.smod 64#64).toNat = n → 0 ≤ (x <<< y).toInt ∧ (x <<< y).toInt < 2 ^ 33 := by
    intro y n hn hy
    have h1 : (x <<< y).toBitVec.toNat = x.toBitVec.toNat * 2 ^ n := by
      show (x.toBitVec <<< (y.toBitVec.smod 64#64)).toNat = _
      rw [BitVec.shiftLeft_eq', BitVec.toNat_shiftLeft, hy, Nat.shiftLeft_eq]
      have h2 : (2 : Nat) ^ n ≤ 2 ^ 9 := Nat.pow_le_pow_right (by decide) hn
      have h3 : x.toBitVec.toNat * 2 ^ n ≤ 2 ^ 24 * 2 ^ 9 := Nat.mul_le_mul (by omega) h2
      exact Nat.mod_eq_of_lt (by omega)
    have h2 : (2 : Nat) ^ n ≤ 2 ^ 9 := Nat.pow_le_pow_right (by decide) hn
    have h3 : x.toBitVec.toNat * 2 ^ n ≤ (2 ^ 24 - 1) * 2 ^ 9 := Nat.mul_le_mul (by omega) h2
    have h4 : (x <<< y).toInt = ((x <<< y).toBitVec.toNat : Int) := by
      show (x <<< y).toBitVec.toInt = _
      rw [BitVec.toInt_eq_toNat_of_lt (by rw [h1]; omega)]
    rw [h4, h1]
    omega
  rcases hs with h | h | h | h | h | h | h | h | h | h
  · rw [show s = 0 from Int32.toInt_inj.mp h]; exact key _ 0 (by decide) (by decide)
  · rw [show s = 1 from Int32.toInt_inj.mp h]; exact key _ 1 (by decide) (by decide)
  · rw [show s = 2 from Int32.toInt_inj.mp h]; exact key _ 2 (by decide) (by decide)
  · rw [show s = 3 from Int32.toInt_inj.mp h]; exact key _ 3 (by decide) (by decide)
  · rw [show s = 4 from Int32.toInt_inj.mp h]; exact key _ 4 (by decide) (by decide)
  · rw [show s = 5 from Int32.toInt_inj.mp h]; exact key _ 5 (by decide) (by decide)
  · rw [show s = 6 from Int32.toInt_inj.mp h]; exact key _ 6 (by decide) (by decide)
  · rw [show s = 7 from Int32.toInt_inj.mp h]; exact key _ 7 (by decide) (by decide)
  · rw [show s = 8 from Int32.toInt_inj.mp h]; exact key _ 8 (by decide) (by decide)
  · rw [show s = 9 from Int32.toInt_inj.mp h]; exact key _ 9 (by decide) (by decide)
theorem t_ech {x z w : Int64} {s : Int32} (e1 : w = x <<< (s.toInt64 &&& 63)) (e2 : z = x ||| w) (h : 0 ≤ x.toInt ∧ x.toInt < 16777216) (a : 0 ≤ s.toInt) (b : s.toInt ≤ 9) : 0 ≤ z.toInt ∧ z.toInt < 8589934592 := by
  rw [e2, e1]
  exact t_or64 (k := 33) (by decide) ⟨h.1, by omega⟩ (t_shl9 h a b)
theorem t_or33 {x y z : Int64} (e : z = x ||| y) (h : 0 ≤ x.toInt ∧ x.toInt < 8589934592) (g : 0 ≤ y.toInt ∧ y.toInt < 8589934592) : 0 ≤ z.toInt ∧ z.toInt < 8589934592 := by
  rw [e]; exact t_or64 (k := 33) (by decide) h g
/-- k and k - 1: fewer -/
theorem t_bits {k w z : Int64} {c : Int32} (ec : c = lg_cmp k 0) (h : ¬ c = 0) (e1 : w = k - 1) (e2 : z = k &&& w) : z.toUInt64.toNat < k.toUInt64.toNat := by
  have hk : k ≠ 0 := fun e => h (ec.trans ((lg_cmp_eq k 0).mpr e))
  have hk0 : k.toBitVec.toNat ≠ 0 := fun e => hk (Int64.toBitVec_inj.mp (BitVec.eq_of_toNat_eq e))
  have h1 : w.toBitVec.toNat = k.toBitVec.toNat - 1 := by
    rw [e1, Int64.toBitVec_sub, BitVec.toNat_sub]
    have := k.toBitVec.isLt
    have h1 : (1 : Int64).toBitVec.toNat = 1 := rfl
    rw [h1]
    omega
  show z.toBitVec.toNat < k.toBitVec.toNat
  rw [e2, Int64.toBitVec_and, BitVec.toNat_and]
  have := @Nat.and_le_right k.toBitVec.toNat w.toBitVec.toNat
  omega
theorem t_shr1 {v z : Int64} {c : Int32} (ec : c = lg_cmp v 0) (h : ¬ c ≤ 0) (e : z = v >>> ((1 : Int32).toInt64 &&& 63)) : z.toInt.toNat < v.toInt.toNat := by
  have hv : 0 < v.toInt := by
    have h1 : ¬ v ≤ 0 := fun q => h (ec ▸ (lg_cmp_le v 0).mpr q)
    have h2 : 0 < v := Int64.not_le.mp h1
    have := Int64.lt_iff_toInt_lt.mp h2
    have h0 : (0 : Int64).toInt = 0 := rfl
    omega
  rw [e, t_shr (n := 1) (by decide), Int.shiftRight_eq_div_pow]
  omega
theorem t_sil {all z1 z2 : Int64} {b c : Int32} (e1 : z1 = all >>> (b.toInt64 &&& 63)) (e2 : z2 = z1 &&& 1) (ec : c = lg_cmp z2 1) (h : c = 0) (ha : 0 ≤ all.toInt ∧ all.toInt < 8589934592) (hb : b.toInt ≤ 33) : b.toInt ≤ 32 := by
  by_cases h33 : b.toInt = 33
  · exfalso
    have hb : b = 33 := Int32.toInt_inj.mp h33
    subst hb
    have h1 : z1.toInt = 0 := by
      rw [e1, t_shr (n := 33) (by decide), Int.shiftRight_eq_div_pow]
      omega
    have h2 : z1 = 0 := Int64.toInt_inj.mp h1
    have h3 : z2 = 1 := (lg_cmp_eq z2 1).mp (ec.symm.trans h)
    rw [e2, h2] at h3
    exact absurd h3 (by decide)
  · omega
theorem t_lrem {x y z : Int64} (e : z = x - x / y * y) (hx : 0 ≤ x.toInt) (hy : 0 < y.toInt) : 0 ≤ z.toInt ∧ z.toInt < y.toInt := by
  have hne : y ≠ -1 := by rintro rfl; exact absurd hy (by decide)
  have h1 : (x / y).toInt = x.toInt / y.toInt := by
    rw [Int64.toInt_div_of_ne_right x y hne, Int.tdiv_eq_ediv_of_nonneg hx]
  have hlt := Int64.toInt_lt x
  have hd := Int.mul_ediv_add_emod x.toInt y.toInt
  have hm1 := Int.emod_nonneg x.toInt (show y.toInt ≠ 0 by omega)
  have hm2 := Int.emod_lt_of_pos x.toInt hy
  have hc : x.toInt / y.toInt * y.toInt = y.toInt * (x.toInt / y.toInt) := Int.mul_comm _ _
  have hq : 0 ≤ x.toInt / y.toInt * y.toInt := Int.mul_nonneg (Int.ediv_nonneg hx (by omega)) (by omega)
  have h2 : (x / y * y).toInt = x.toInt / y.toInt * y.toInt := by
    rw [Int64.toInt_mul, h1, Int.bmod_def]
    omega
  rw [e, Int64.toInt_sub, h2, Int.bmod_def]
  omega
theorem t_lne {x : Int64} (h : 0 < x.toInt) : ¬ x = 0 := by rintro rfl; exact absurd h (by decide)
theorem t_lnz {k : Int64} {c : Int32} (ec : c = lg_cmp k 0) (h : ¬ c = 0) (g : 0 ≤ k.toInt) : 0 < k.toInt := by
  have hk : k ≠ 0 := fun e => h (ec.trans ((lg_cmp_eq k 0).mpr e))
  have : k.toInt ≠ 0 := fun e => hk (Int64.toInt_inj.mp e)
  omega
theorem t_lz {k : Int64} {c : Int32} (ec : c = lg_cmp k 0) (h : c = 0) : k.toInt = 0 := by
  rw [(lg_cmp_eq k 0).mp (ec.symm.trans h)]; rfl
theorem t_slotp {b k : Nat} (hb : b < 5) (hk : k < 350) : t_ab 70 (350 * b + k) = t_ab 70 k := by
  have h1 : Nat.blt (350 * b + k) 1750 = true := Nat.blt_eq.mpr (by omega)
  have h2 : Nat.blt k 1750 = true := Nat.blt_eq.mpr (by omega)
  show cond (Nat.blt (350 * b + k) 1750) (t_abf t_ab7 ((350 * b + k) % 350)) none = cond (Nat.blt k 1750) (t_abf t_ab7 (k % 350)) none
  rw [h1, h2, show (350 * b + k) % 350 = k % 350 by omega]
section TQ3
variable {sh : List (Nat ⊕ (Nat × Nat))} {gi : Nat → Nat → Int32} {gr : Nat → Nat → Value}
/-- from a slot's place to the same place of another one -/
theorem t_I.astS (h : t_I sh gi gr) {i j x : Int32} {a b k : Nat} (e : x = gi 70 j.toNatClampNeg) (hi : i.toInt = ((350 * b + k : Nat) : Int)) (hj : j.toInt = ((350 * a + k : Nat) : Int)) (ha : a < 5) (hb : b < 5) (hk : k < 350) : t_I sh (x_up2 gi 70 i.toNatClampNeg x) gr := by
  have hs : sh[70]? = some (.inr (0, 1760)) := h.wf.s rfl
  have ei : i.toNatClampNeg = 350 * b + k := by show i.toInt.toNat = _; rw [hi]; rfl
  have ej : j.toNatClampNeg = 350 * a + k := by show j.toInt.toNat = _; rw [hj]; rfl
  refine h.astG hs (fun lo hi he => ?_) (fun k hk e => by have := hk.2.1; omega)
  rw [ei, t_slotp hb hk, ← t_slotp ha hk, ← ej] at he
  rw [e]
  exact h.2.2.1 70 _ lo hi he
end TQ3
theorem t_nG {wl : List (Nat × Nat)} {k lo hi j : Nat} (h : wl.all (fun q => !(q.1 == k) || (!(q.2 == 9999) && (if q.2 < 10000 then decide (q.2 < lo) || decide (hi ≤ q.2) else decide ((q.2 - 10000) % 100000 < lo) || decide (hi ≤ (q.2 - 10000) / 100000)))) = true) (h1 : lo ≤ j) (h2 : j < hi) (h0 : decide (hi ≤ 10000) = true := by decide) : t_in wl k j = false := by
  have h0 := of_decide_eq_true h0
  cases hc : t_in wl k j with
  | false => rfl
  | true =>
    exfalso
    obtain ⟨q, hq, hq2⟩ := List.any_eq_true.mp hc
    have h3 := List.all_eq_true.mp h q hq
    rw [Bool.and_eq_true] at hq2
    rw [hq2.1] at h3
    simp only [Bool.not_true, Bool.false_or, Bool.and_eq_true, Bool.not_eq_true', beq_eq_false_iff_ne] at h3
    obtain ⟨h4, h5⟩ := h3
    have h6 := hq2.2
    unfold t_cov at h6
    simp only [Bool.or_eq_true, Bool.and_eq_true, beq_iff_eq] at h6
    rcases h6 with h6 | h6 | h6
    · exact h4 h6
    · split at h5
      · simp only [Bool.or_eq_true, decide_eq_true_eq] at h5; omega
      · omega
    · have g1 := Nat.le_of_ble_eq_true h6.1
      have g2 := Nat.le_of_ble_eq_true h6.2.1
      have g3 := Nat.le_of_ble_eq_true h6.2.2
      rw [if_neg (by omega)] at h5
      simp only [Bool.or_eq_true, decide_eq_true_eq] at h5
      omega
/-- one run, one end -/
theorem x_Ev.and {X : x_Ext} {d mi pc : Nat} {lo : x_Lo} {st : List Value} {G : x_G} {P P' : Option Value → x_G → Prop} (h : x_Ev X d mi pc lo st G P) (h' : x_Ev X d mi pc lo st G P') : x_Ev X d mi pc lo st G (fun v G' => P v G' ∧ P' v G') := by
  obtain ⟨n, v, G1, h1, h2⟩ := h
  obtain ⟨n', v', G1', h1', h2'⟩ := h'
  have e1 := x_exec_le2 h1 (Nat.le_max_left n n')
  have e2 := x_exec_le2 h1' (Nat.le_max_right n n')
  rw [e1] at e2
  cases e2
  exact ⟨n, v, G1, h1, h2, h2'⟩
theorem x_Ev.all {X : x_Ext} {d mi pc : Nat} {lo : x_Lo} {st : List Value} {G : x_G} {α : Type} (a0 : α) {P : α → Option Value → x_G → Prop} (h : ∀ a, x_Ev X d mi pc lo st G (P a)) : x_Ev X d mi pc lo st G (fun v G' => ∀ a, P a v G') := by
  obtain ⟨n, v, G1, h1, -⟩ := h a0
  refine ⟨n, v, G1, h1, fun a => ?_⟩
  obtain ⟨n', v', G1', h1', h2'⟩ := h a
  have e1 := x_exec_le2 h1 (Nat.le_max_left n n')
  have e2 := x_exec_le2 h1' (Nat.le_max_right n n')
  rw [e1] at e2
  cases e2
  exact h2'
theorem x_Me.and {X : x_Ext} {d mi : Nat} {as : List Value} {G : x_G} {P P' : Option Value → x_G → Prop} (h : x_Me X d mi as G P) (h' : x_Me X d mi as G P') : x_Me X d mi as G (fun v G' => P v G' ∧ P' v G') := ⟨h.1, h.2.1, h.2.2.and h'.2.2⟩
theorem x_Me.all {X : x_Ext} {d mi : Nat} {as : List Value} {G : x_G} {α : Type} (a0 : α) {P : α → Option Value → x_G → Prop} (h : ∀ a, x_Me X d mi as G (P a)) : x_Me X d mi as G (fun v G' => ∀ a, P a v G') := ⟨(h a0).1, (h a0).2.1, x_Ev.all a0 (fun a => (h a).2.2)⟩
