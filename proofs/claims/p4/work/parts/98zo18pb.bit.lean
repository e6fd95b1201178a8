/-! ===== the class's pile of truths, as a number ===== -/
noncomputable def s_bv : List Int → Int
  | [] => 0
  | a :: t => a + 2 * s_bv t
theorem s_bv_b : ∀ (st : List Int) (n : Nat), s_01 st → st.length ≤ n → 0 ≤ s_bv st ∧ s_bv st < ((2 ^ n : Nat) : Int)
  | [], n, _, _ => ⟨Int.le_refl _, by have := Nat.two_pow_pos n; show (0 : Int) < ((2 ^ n : Nat) : Int); omega⟩
  | a :: t, 0, _, h => absurd h (by rw [List.length_cons]; omega)
  | a :: t, n + 1, h, hl => by
    rw [List.length_cons] at hl
    have ih := s_bv_b t n (fun x hx => h x (List.mem_cons_of_mem _ hx)) (by omega)
    have ha := h a List.mem_cons_self
    show 0 ≤ a + 2 * s_bv t ∧ a + 2 * s_bv t < ((2 ^ (n + 1) : Nat) : Int)
    rw [Nat.pow_succ]; omega
section BIT
variable {p q z b2 z1 z2 w : Int64} {a B b t : Int}
theorem t_n64 (h0 : 0 ≤ p.toInt) : (p.toBitVec.toNat : Int) = p.toInt := by
  have h2 := BitVec.toInt_eq_toNat_cond p.toBitVec
  have h3 : p.toInt = p.toBitVec.toInt := rfl
  have h4 := p.toBitVec.isLt
  split at h2 <;> omega
theorem t_i64 {k : Nat} (h : z.toBitVec.toNat = k) (hk : k < 9223372036854775808) : z.toInt = (k : Int) := by
  have h3 : z.toInt = z.toBitVec.toInt := rfl
  rw [h3, BitVec.toInt_eq_toNat_of_lt (by omega), h]
theorem t_xor1 (e : z = p ^^^ 1) (hp : p.toInt = a + 2 * B) (ha : a = 0 ∨ a = 1) (hB : 0 ≤ B ∧ B < 1073741824) : z.toInt = (1 - a) + 2 * B := by
  have hn := t_n64 (p := p) (by omega)
  have hz : z.toBitVec.toNat = p.toBitVec.toNat ^^^ 1 := by
    rw [e]; show (p.toBitVec ^^^ (1 : Int64).toBitVec).toNat = _; rw [BitVec.toNat_xor]; rfl
  have h2 : (p.toBitVec.toNat ^^^ 1) / 2 ^ 1 = p.toBitVec.toNat / 2 ^ 1 := by
    rw [Nat.xor_div_two_pow]; exact Nat.xor_zero _
  have h3 : (p.toBitVec.toNat ^^^ 1) % 2 ^ 1 = (p.toBitVec.toNat % 2 ^ 1) ^^^ 1 := Nat.xor_mod_two_pow
  have h4 := t_i64 hz (by omega)
  rcases ha with h | h
  · rw [show p.toBitVec.toNat % 2 ^ 1 = 0 by omega, show 0 ^^^ 1 = 1 from rfl] at h3; omega
  · rw [show p.toBitVec.toNat % 2 ^ 1 = 1 by omega, show 1 ^^^ 1 = 0 from rfl] at h3; omega
theorem t_bit0 (hp : p.toInt = a + 2 * B) (ha : a = 0 ∨ a = 1) (hB : 0 ≤ B) : p.toBitVec.getLsbD 0 = decide (a = 1) := by
  have hn := t_n64 (p := p) (by omega)
  show p.toBitVec.toNat.testBit 0 = _
  rw [Nat.testBit_zero]
  rcases ha with h | h
  · rw [show p.toBitVec.toNat % 2 = 0 by omega, h]; rfl
  · rw [show p.toBitVec.toNat % 2 = 1 by omega, h]; rfl
theorem t_m2 : (∀ i : Fin 64, i.val ≠ 0 → (-2 : Int64).toBitVec.getLsbD i.val = true) ∧ (-2 : Int64).toBitVec.getLsbD 0 = false ∧ ∀ i : Fin 64, (-1 : Int64).toBitVec.getLsbD i.val = true := by decide +kernel
theorem t_orm2 (e : z = p ||| (-2)) (hp : p.toInt = a + 2 * B) (ha : a = 0 ∨ a = 1) (hB : 0 ≤ B) : z = if a = 1 then -1 else -2 := by
  obtain ⟨m1, m2, m3⟩ := t_m2
  have hb := t_bit0 hp ha hB
  have he : z.toBitVec = p.toBitVec ||| (-2 : Int64).toBitVec := by rw [e]; rfl
  by_cases h : a = 1
  · rw [if_pos h]
    apply Int64.toBitVec_inj.mp
    apply BitVec.eq_of_getLsbD_eq
    intro i hi
    rw [he, BitVec.getLsbD_or, m3 ⟨i, hi⟩]
    by_cases h0 : i = 0
    · rw [h0, hb, decide_eq_true h]; rfl
    · rw [m1 ⟨i, hi⟩ h0, Bool.or_true]
  · rw [if_neg h]
    apply Int64.toBitVec_inj.mp
    apply BitVec.eq_of_getLsbD_eq
    intro i hi
    rw [he, BitVec.getLsbD_or]
    by_cases h0 : i = 0
    · rw [h0, hb, decide_eq_false h]; rfl
    · rw [m1 ⟨i, hi⟩ h0, Bool.or_true]
theorem t_anm1 (e : z = p &&& (-1)) : z = p := by
  rw [e]
  apply Int64.toBitVec_inj.mp
  show p.toBitVec &&& (-1 : Int64).toBitVec = _
  rw [show (-1 : Int64).toBitVec = BitVec.allOnes 64 by decide, BitVec.and_allOnes]
theorem t_anm2 (e : z = p &&& (-2)) (hp : p.toInt = b + 2 * t) (hb : b = 0 ∨ b = 1) (ht : 0 ≤ t ∧ t < 1073741824) : z.toInt = 2 * t := by
  have hn := t_n64 (p := p) (by omega)
  have hz : z.toBitVec.toNat = p.toBitVec.toNat &&& 18446744073709551614 := by
    rw [e]; show (p.toBitVec &&& (-2 : Int64).toBitVec).toNat = _; rw [BitVec.toNat_and]; rfl
  have h2 : (p.toBitVec.toNat &&& 18446744073709551614) / 2 ^ 1 = p.toBitVec.toNat / 2 ^ 1 := by
    rw [Nat.and_div_two_pow, show 18446744073709551614 / 2 ^ 1 = 2 ^ 63 - 1 from rfl, Nat.and_two_pow_sub_one_eq_mod]
    omega
  have h3 : (p.toBitVec.toNat &&& 18446744073709551614) % 2 ^ 1 = (p.toBitVec.toNat % 2 ^ 1) &&& 0 := Nat.and_mod_two_pow
  rw [Nat.and_zero] at h3
  have h4 := t_i64 hz (by omega)
  omega
theorem t_anb1 (e : z = p &&& 1) (hp : p.toInt = a + 2 * B) (ha : a = 0 ∨ a = 1) (hB : 0 ≤ B) : z.toInt = a := by
  have hn := t_n64 (p := p) (by omega)
  have hz : z.toBitVec.toNat = p.toBitVec.toNat &&& 1 := by
    rw [e]; show (p.toBitVec &&& (1 : Int64).toBitVec).toNat = _; rw [BitVec.toNat_and]; rfl
  have h2 : p.toBitVec.toNat &&& (2 ^ 1 - 1) = p.toBitVec.toNat % 2 ^ 1 := Nat.and_two_pow_sub_one_eq_mod _ _
  have h4 := t_i64 (k := p.toBitVec.toNat % 2 ^ 1) (hz.trans h2) (by omega)
  omega
/-- an even number or a truth -/
theorem t_or1 (e : z = p ||| q) (hp : p.toInt = b + 2 * t) (hb : b = 0 ∨ b = 1) (ht : 0 ≤ t ∧ t < 1073741824) (hq : q.toInt = a) (ha : a = 0 ∨ a = 1) : z.toInt = (if a = 1 ∨ b = 1 then 1 else 0) + 2 * t := by
  have hn := t_n64 (p := p) (by omega)
  have hm := t_n64 (p := q) (by omega)
  have hz : z.toBitVec.toNat = p.toBitVec.toNat ||| q.toBitVec.toNat := by
    rw [e]; show (p.toBitVec ||| q.toBitVec).toNat = _; rw [BitVec.toNat_or]
  have h2 : (p.toBitVec.toNat ||| q.toBitVec.toNat) / 2 ^ 1 = p.toBitVec.toNat / 2 ^ 1 := by
    rw [Nat.or_div_two_pow, show q.toBitVec.toNat / 2 ^ 1 = 0 by omega, Nat.or_zero]
  have h3 : (p.toBitVec.toNat ||| q.toBitVec.toNat) % 2 ^ 1 = (p.toBitVec.toNat % 2 ^ 1) ||| (q.toBitVec.toNat % 2 ^ 1) := Nat.or_mod_two_pow
  have hk : (p.toBitVec.toNat % 2 ^ 1) ||| (q.toBitVec.toNat % 2 ^ 1) = if a = 1 ∨ b = 1 then 1 else 0 := by
    rcases ha with h | h <;> rcases hb with h' | h'
    · rw [show p.toBitVec.toNat % 2 ^ 1 = 0 by omega, show q.toBitVec.toNat % 2 ^ 1 = 0 by omega, if_neg (by omega)]; rfl
    · rw [show p.toBitVec.toNat % 2 ^ 1 = 1 by omega, show q.toBitVec.toNat % 2 ^ 1 = 0 by omega, if_pos (Or.inr h')]; rfl
    · rw [show p.toBitVec.toNat % 2 ^ 1 = 0 by omega, show q.toBitVec.toNat % 2 ^ 1 = 1 by omega, if_pos (Or.inl h)]; rfl
    · rw [show p.toBitVec.toNat % 2 ^ 1 = 1 by omega, show q.toBitVec.toNat % 2 ^ 1 = 1 by omega, if_pos (Or.inl h)]; rfl
  rw [hk] at h3
  by_cases hab : a = 1 ∨ b = 1
  · rw [if_pos hab] at h3 ⊢
    have h4 := t_i64 hz (by omega)
    omega
  · rw [if_neg hab] at h3 ⊢
    have h4 := t_i64 hz (by omega)
    omega
end BIT
section BI2
variable {p q u m z : Int64} {a b t : Int}
theorem t_sh1C (e : z = p >>> ((1 : Int32).toInt64 &&& 63)) : z.toInt = p.toInt / 2 := by
  rw [e]
  have h1 : (((1 : Int32).toInt64 &&& 63).toBitVec.smod 64#64).toNat = 1 := by decide
  rw [t_shr h1, Int.shiftRight_eq_div_pow]; rfl
theorem t_shl1 (e : z = p <<< ((1 : Int32).toInt64 &&& 63)) (h : 0 ≤ p.toInt ∧ p.toInt < 2147483648) : z.toInt = 2 * p.toInt := by
  have hn := t_n64 (p := p) h.1
  have h1 : (((1 : Int32).toInt64 &&& 63).toBitVec.smod 64#64).toNat = 1 := by decide
  have hz : z.toBitVec.toNat = p.toBitVec.toNat * 2 := by
    rw [e]
    show (p.toBitVec <<< (((1 : Int32).toInt64 &&& 63).toBitVec.smod 64#64).toNat).toNat = _
    rw [h1, BitVec.toNat_shiftLeft, Nat.shiftLeft_eq]
    omega
  have h4 := t_i64 hz (by omega)
  omega
theorem t_andP (eu : u = p >>> ((1 : Int32).toInt64 &&& 63)) (em : m = p ||| (-2)) (e : z = u &&& m) (hp : p.toInt = a + 2 * (b + 2 * t)) (ha : a = 0 ∨ a = 1) (hb : b = 0 ∨ b = 1) (ht : 0 ≤ t ∧ t < 268435456) : z.toInt = (if a = 1 ∧ b = 1 then 1 else 0) + 2 * t := by
  have hu := t_sh1C eu
  have hm := t_orm2 em hp ha (by omega)
  have hu2 : u.toInt = b + 2 * t := by omega
  rcases ha with h | h
  · rw [if_neg (show ¬ a = 1 by omega)] at hm
    rw [hm] at e
    rw [if_neg (fun hh => by omega), t_anm2 e hu2 hb (by omega)]; omega
  · rw [if_pos h] at hm
    rw [hm] at e
    rw [t_anm1 e, hu2]
    rcases hb with h' | h'
    · rw [if_neg (fun hh => by omega), h']
    · rw [if_pos ⟨h, h'⟩, h']
theorem t_orP (eu : u = p >>> ((1 : Int32).toInt64 &&& 63)) (em : m = p &&& 1) (e : z = u ||| m) (hp : p.toInt = a + 2 * (b + 2 * t)) (ha : a = 0 ∨ a = 1) (hb : b = 0 ∨ b = 1) (ht : 0 ≤ t ∧ t < 268435456) : z.toInt = (if a = 1 ∨ b = 1 then 1 else 0) + 2 * t := by
  have hu := t_sh1C eu
  exact t_or1 e (by omega) hb (by omega) (t_anb1 em hp ha (by omega)) ha
theorem t_orb (e : z = p ||| q) (hp : p.toInt = 2 * t) (ht : 0 ≤ t ∧ t < 1073741824) (hq : q.toInt = a) (ha : a = 0 ∨ a = 1) : z.toInt = a + 2 * t := by
  have h := t_or1 (b := 0) e (by omega) (Or.inl rfl) ht hq ha
  rcases ha with h' | h'
  · rw [if_neg (fun hh => by omega)] at h; omega
  · rw [if_pos (Or.inl h')] at h; omega
theorem t_lcm1 {c : Int32} (e : c = lg_cmp z 1) : c = 0 ↔ z.toInt = 1 := by
  rw [e, lg_cmp_eq]
  exact ⟨fun h => by rw [h]; rfl, fun h => Int64.toInt_inj.mp (h.trans (by rfl))⟩
end BI2
section HIA
variable {F : Nat → Int} {S st : List Int} {j : Nat}
theorem s_HI_a (H : s_HI F S j st) (hj : j < S.length) (hc : S.getD j 0 = 19) : ∃ a b t, st = a :: b :: t ∧ (a = 0 ∨ a = 1) ∧ (b = 0 ∨ b = 1) ∧ s_HI F S (j + 1) ((if a = 1 ∧ b = 1 then 1 else 0) :: t) := by
  obtain ⟨a, b, t, e, ha, hb, h⟩ := s_HI_j H hj (Or.inr hc)
  refine ⟨a, b, t, e, ha, hb, ?_⟩
  by_cases hab : a = 1 ∧ b = 1
  · rw [if_pos hab]; rw [if_pos (Or.inl ⟨hc, hab⟩)] at h; exact h
  · rw [if_neg hab]; rw [if_neg (fun hh => hh.elim (fun x => hab x.2) (fun x => by omega))] at h; exact h
theorem s_HI_o (H : s_HI F S j st) (hj : j < S.length) (hc : S.getD j 0 = 18) : ∃ a b t, st = a :: b :: t ∧ (a = 0 ∨ a = 1) ∧ (b = 0 ∨ b = 1) ∧ s_HI F S (j + 1) ((if a = 1 ∨ b = 1 then 1 else 0) :: t) := by
  obtain ⟨a, b, t, e, ha, hb, h⟩ := s_HI_j H hj (Or.inl hc)
  refine ⟨a, b, t, e, ha, hb, ?_⟩
  by_cases hab : a = 1 ∨ b = 1
  · rw [if_pos hab]; rw [if_pos (Or.inr ⟨hc, hab⟩)] at h; exact h
  · rw [if_neg hab]; rw [if_neg (fun hh => hh.elim (fun x => by omega) (fun x => hab x.2))] at h; exact h
end HIA
