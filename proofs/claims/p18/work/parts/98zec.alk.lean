/-! ===== how many COUPLES are ALIKE ===== -/
noncomputable def s_ai (D : s_D) (e : Int) (a : Nat) : Nat → Int
  | 0 => 0
  | k + 1 => s_ai D e a k + s_if (a < k ∧ s_ec (s_so D a) e = s_ec (s_so D k) e) 1 0
noncomputable def s_ao (D : s_D) (e : Int) (N : Nat) : Nat → Int
  | 0 => 0
  | a + 1 => s_ao D e N a + s_ai D e a N
noncomputable def s_al (D : s_D) (e : Int) : Int := s_ao D e (D 0).toNat (D 0).toNat
section ALK
variable {D : s_D} {e : Int} {a b b' n n' : Int32} {N : Nat}
theorem s_ai_0 {k j : Nat} : ∀ i : Nat, i ≤ k + 1 → s_ai D e k i = 0
  | 0, _ => rfl
  | i + 1, h => by
    show s_ai D e k i + s_if (k < i ∧ _) 1 0 = 0
    rw [s_ai_0 (j := j) i (by omega), s_ifF (fun hh => by omega)]; rfl
theorem s_ai_b (h : n.toInt = s_ao D e N a.toNatClampNeg) (h0 : 0 ≤ a.toInt) (hb : b.toInt = a.toInt + 1) : n.toInt = s_ao D e N a.toNatClampNeg + s_ai D e a.toNatClampNeg b.toNatClampNeg := by
  have c1 := t_clamp (i := a) h0
  have c2 := t_clamp (i := b) (by omega)
  rw [s_ai_0 (j := 0) _ (by omega), h]; omega
theorem s_ai_y (h : n.toInt = s_ao D e N a.toNatClampNeg + s_ai D e a.toNatClampNeg b.toNatClampNeg) (h0 : 0 ≤ a.toInt) (hab : a.toInt < b.toInt) (hx : s_ec (s_so D a.toNatClampNeg) e = s_ec (s_so D b.toNatClampNeg) e) (hn : n'.toInt = n.toInt + 1) (hb : b'.toInt = b.toInt + 1) : n'.toInt = s_ao D e N a.toNatClampNeg + s_ai D e a.toNatClampNeg b'.toNatClampNeg := by
  have c1 := t_clamp (i := a) h0
  have c2 := t_clamp (i := b) (by omega)
  have c3 := t_clamp (i := b') (by omega)
  rw [show b'.toNatClampNeg = b.toNatClampNeg + 1 by omega]
  show n'.toInt = s_ao D e N a.toNatClampNeg + (s_ai D e a.toNatClampNeg b.toNatClampNeg + s_if (a.toNatClampNeg < b.toNatClampNeg ∧ s_ec (s_so D a.toNatClampNeg) e = s_ec (s_so D b.toNatClampNeg) e) 1 0)
  rw [s_ifT ⟨by omega, hx⟩]; omega
theorem s_ai_n (h : n.toInt = s_ao D e N a.toNatClampNeg + s_ai D e a.toNatClampNeg b.toNatClampNeg) (h0 : 0 ≤ a.toInt) (hab : a.toInt < b.toInt) (hx : ¬ s_ec (s_so D a.toNatClampNeg) e = s_ec (s_so D b.toNatClampNeg) e) (hn : n'.toInt = n.toInt) (hb : b'.toInt = b.toInt + 1) : n'.toInt = s_ao D e N a.toNatClampNeg + s_ai D e a.toNatClampNeg b'.toNatClampNeg := by
  have c1 := t_clamp (i := a) h0
  have c2 := t_clamp (i := b) (by omega)
  have c3 := t_clamp (i := b') (by omega)
  rw [show b'.toNatClampNeg = b.toNatClampNeg + 1 by omega]
  show n'.toInt = s_ao D e N a.toNatClampNeg + (s_ai D e a.toNatClampNeg b.toNatClampNeg + s_if (a.toNatClampNeg < b.toNatClampNeg ∧ s_ec (s_so D a.toNatClampNeg) e = s_ec (s_so D b.toNatClampNeg) e) 1 0)
  rw [s_ifF (fun hh => hx hh.2)]; omega
theorem s_ao_s {a' : Int32} (h : n.toInt = s_ao D e N a.toNatClampNeg + s_ai D e a.toNatClampNeg b.toNatClampNeg) (h0 : 0 ≤ a.toInt) (ha : a'.toInt = a.toInt + 1) (hb : 0 ≤ b.toInt) (hN : b.toInt = (N : Int)) : n.toInt = s_ao D e N a'.toNatClampNeg := by
  have c1 := t_clamp (i := a) h0
  have c2 := t_clamp (i := b) hb
  have c3 := t_clamp (i := a') (by omega)
  rw [show a'.toNatClampNeg = a.toNatClampNeg + 1 by omega]
  show n.toInt = s_ao D e N a.toNatClampNeg + s_ai D e a.toNatClampNeg N
  rw [h, show b.toNatClampNeg = N by omega]
theorem t_le0 {x y : Int64} {c : Int32} (ec : c = lg_cmp x y) (h : c = 0) : x = y := (lg_cmp_eq _ _).mp (ec.symm.trans h)
theorem t_le1 {x y : Int64} {c : Int32} (ec : c = lg_cmp x y) (h : ¬ c = 0) : ¬ x = y := fun hh => h (ec.trans ((lg_cmp_eq _ _).mpr hh))
end ALK
/-- the least ECHO by which none are ALIKE -/
noncomputable def s_ce (D : s_D) : Nat → Int → Int
  | 0, _ => -1
  | m + 1, e => s_if (s_al D e = 0) e (s_ce D m (e + 1))
section CEC
variable {D : s_D} {x e e' : Int}
theorem s_ce_1 (h1 : e ≤ 9) : s_ce D (10 - e).toNat e = s_if (s_al D e = 0) e (s_ce D (10 - (e + 1)).toNat (e + 1)) := by
  rw [show (10 - e).toNat = (10 - (e + 1)).toNat + 1 by omega]; rfl
theorem s_ce_s (h : x = s_ce D (10 - e).toNat e) (h1 : e ≤ 9) (hn : ¬ s_al D e = 0) (he : e' = e + 1) : x = s_ce D (10 - e').toNat e' := by
  rw [h, s_ce_1 h1, s_ifF hn, he]
theorem s_ce_f (h : x = s_ce D (10 - e).toNat e) (h1 : e ≤ 9) (hn : s_al D e = 0) : x = e := by
  rw [h, s_ce_1 h1, s_ifT hn]
theorem s_ce_e (h : x = s_ce D (10 - e).toNat e) (h1 : 10 ≤ e) : x = -1 := by
  rw [h, show (10 - e).toNat = 0 by omega]; rfl
end CEC
