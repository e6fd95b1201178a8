/-! ===== those that come later by a seed ===== -/
noncomputable def s_Ay (D : s_D) (sd : Int) (j : Nat) : Int := s_A D j + s_dl sd j
noncomputable def s_By (D : s_D) (sd : Int) (j : Nat) : Int := s_B D j + s_dl sd ((D 1).toNat + j)
noncomputable def s_PY (D : s_D) (sd : Int) (k j : Nat) : Int :=
  match k with
  | 0 => if j = 0 then ((D 1).toNat : Int) else ((D 2).toNat : Int)
  | 1 => s_Ay D sd (s_or (s_Ay D sd) (D 1).toNat j)
  | 2 => D (54 + 5 * s_or (s_Ay D sd) (D 1).toNat j)
  | 3 => D (55 + 5 * s_or (s_Ay D sd) (D 1).toNat j)
  | 4 => D (56 + 5 * s_or (s_Ay D sd) (D 1).toNat j)
  | 5 => s_By D sd (s_or (s_By D sd) (D 2).toNat j)
  | 6 => D (83 + 3 * s_or (s_By D sd) (D 2).toNat j)
  | 7 => D (84 + 3 * s_or (s_By D sd) (D 2).toNat j)
  | _ => D 4 + (if (j : Int) < D 6 then 0 else D 5)
/-- a day by the RULES R, late by sd; many such days -/
noncomputable def s_day (D : s_D) (R : List (List Int × Int)) (sd : Int) : Nat → Int := s_dy (s_PY D sd) (fun F => s_ac F R) 301 0 (fun _ => 0)
noncomputable def s_wsm (D : s_D) (R : List (List Int × Int)) (sd : Int) : Nat → Int
  | 0 => 0
  | n + 1 => s_wsm D R sd n + s_day D R (sd + (n : Int)) 5
noncomputable def s_gd1 (P : Nat → Nat → Int) (Z : Nat → Int) : Int := if Int32.ofInt (Z 6) = 0 ∧ s_lf P Z = 0 then 1 else 0
noncomputable def s_gds (D : s_D) (R : List (List Int × Int)) (sd : Int) : Nat → Int
  | 0 => 0
  | n + 1 => s_gds D R sd n + s_gd1 (s_PY D (sd + (n : Int))) (s_day D R (sd + (n : Int)))
section CUM
variable {D : s_D} {sd a b : Int} {x y z z1 z2 u v w : Int32} {i j n : Nat}
theorem s_dl_n (h : sd = -1) : s_dl sd i = 0 := if_pos h
theorem s_dl_y (h : sd ≠ -1) : s_dl sd i = s_drw sd (i + 1) / 8 % 8 := if_neg h
/-- the rest and the quotient of what isn't below nothing -/
theorem t_dv (e : w = x / y) (hx : x.toInt = a) (h0 : 0 ≤ a) (hy : y.toInt = b) (h1 : 1 ≤ b) : w.toInt = a / b := by
  have hlt := Int32.toInt_lt x
  have h2 : a / b ≤ a := Int.ediv_le_self b h0
  have h3 : 0 ≤ a / b := Int.ediv_nonneg h0 (by omega)
  rw [e, Int32.toInt_div, hx, hy, Int.tdiv_eq_ediv_of_nonneg h0, Int.bmod_eq_of_le] <;> omega
theorem t_rm (e : w = x - x / y * y) (hx : x.toInt = a) (h0 : 0 ≤ a) (hy : y.toInt = b) (h1 : 1 ≤ b) : w.toInt = a % b := by
  have hlt := Int32.toInt_lt x
  have hq : (x / y).toInt = a / b := t_dv rfl hx h0 hy h1
  have h3 : 0 ≤ a / b := Int.ediv_nonneg h0 (by omega)
  have h4 : a / b * b ≤ a := Int.ediv_mul_le a (by omega)
  have h5 : 0 ≤ a / b * b := Int.mul_nonneg h3 (by omega)
  have hm : (x / y * y).toInt = a / b * b := by rw [Int32.toInt_mul, hq, hy, Int.bmod_eq_of_le] <;> omega
  rw [e, Int32.toInt_sub, hx, hm, Int.bmod_eq_of_le, Int.emod_def, Int.mul_comm b]
  · omega
  · omega
theorem t_drw (e1 : z1 = x * 2749) (e2 : z2 = z1 + 12553) (e3 : w = z2 - z2 / 65536 * 65536) (hx : x.toInt = a) (h0 : 0 ≤ a) (h1 : a < 65536) : w.toInt = s_dr1 a := by
  have k1 : (2749 : Int32).toInt = 2749 := rfl
  have k2 : (12553 : Int32).toInt = 12553 := rfl
  have f1 : z1.toInt = a * 2749 := by rw [e1, Int32.toInt_mul, hx, k1, Int.bmod_eq_of_le] <;> omega
  have f2 : z2.toInt = a * 2749 + 12553 := by rw [e2, Int32.toInt_add, f1, k2, Int.bmod_eq_of_le] <;> omega
  exact t_rm e3 f2 (by omega) rfl (by decide)
theorem t_dl8 (e4 : u = w / 8) (e5 : v = u - u / 8 * 8) (hw : w.toInt = a) (h0 : 0 ≤ a) : v.toInt = a / 8 % 8 :=
  t_rm e5 (t_dv e4 hw h0 rfl (by decide)) (Int.ediv_nonneg h0 (by decide)) rfl (by decide)
theorem s_Ay_b (hD : s_DB D) (hj : (j : Int) < D 1) : 0 ≤ s_Ay D sd j ∧ s_Ay D sd j ≤ 1000 := by
  have h1 := (hD.1 j hj).1
  have h2 := s_dl_b (seed := sd) (n := j)
  show 0 ≤ D (53 + 5 * j) + s_dl sd j ∧ D (53 + 5 * j) + s_dl sd j ≤ 1000
  omega
theorem s_By_b (hD : s_DB D) (hj : (j : Int) < D 2) : 0 ≤ s_By D sd j ∧ s_By D sd j ≤ 1000 := by
  have h1 := (hD.2.1 j hj).1
  have h2 := s_dl_b (seed := sd) (n := (D 1).toNat + j)
  show 0 ≤ D (82 + 3 * j) + s_dl sd ((D 1).toNat + j) ∧ D (82 + 3 * j) + s_dl sd ((D 1).toNat + j) ≤ 1000
  omega
theorem s_PY_O (hb : t_Cb D) (hD : s_DB D) : s_PO (s_PY D sd) := by
  have b1 := hb.2.1
  have b2 := hb.2.2
  have o1 : ∀ s : Nat, (s : Int) < ((D 1).toNat : Int) → ((s_or (s_Ay D sd) (D 1).toNat s : Nat) : Int) < D 1 := fun s hs => by have := s_or_lt (s_Ay D sd) (D 1).toNat s (by omega); omega
  have o2 : ∀ c : Nat, (c : Int) < ((D 2).toNat : Int) → ((s_or (s_By D sd) (D 2).toNat c : Nat) : Int) < D 2 := fun c hc => by have := s_or_lt (s_By D sd) (D 2).toNat c (by omega); omega
  refine ⟨fun s hs => ?_, fun c hc => ?_, fun m => ?_⟩
  · have h := o1 s hs
    exact ⟨(s_Ay_b hD h).1, (hD.1 _ h).2.1.1, (hD.1 _ h).2.2.1⟩
  · have h := o2 c hc
    exact ⟨(s_By_b hD h).1, (hD.2.1 _ h).2.1.1, (hD.2.1 _ h).2.2.1⟩
  · have d4 := hD.2.2.1
    have d5 := hD.2.2.2
    show 1 ≤ D 4 + (if (m : Int) < D 6 then 0 else D 5) ∧ D 4 + (if (m : Int) < D 6 then 0 else D 5) ≤ D 4 + (if ((m + 1 : Nat) : Int) < D 6 then 0 else D 5)
    split <;> split <;> omega
theorem s_PY_B (hb : t_Cb D) (hD : s_DB D) : s_PB (s_PY D sd) := by
  have b1 := hb.2.1
  have b2 := hb.2.2
  have o1 : ∀ s : Nat, (s : Int) < ((D 1).toNat : Int) → ((s_or (s_Ay D sd) (D 1).toNat s : Nat) : Int) < D 1 := fun s hs => by have := s_or_lt (s_Ay D sd) (D 1).toNat s (by omega); omega
  have o2 : ∀ c : Nat, (c : Int) < ((D 2).toNat : Int) → ((s_or (s_By D sd) (D 2).toNat c : Nat) : Int) < D 2 := fun c hc => by have := s_or_lt (s_By D sd) (D 2).toNat c (by omega); omega
  refine ⟨?_, fun s hs => ?_, fun c hc => ?_, fun m => ?_⟩
  · show 0 ≤ (((D 1).toNat : Nat) : Int) ∧ (((D 1).toNat : Nat) : Int) ≤ 6 ∧ 0 ≤ (((D 2).toNat : Nat) : Int) ∧ (((D 2).toNat : Nat) : Int) ≤ 6
    omega
  · have h := o1 s hs
    exact ⟨(s_Ay_b hD h).2, (hD.1 _ h).2.1.2, (hD.1 _ h).2.2.2⟩
  · have h := o2 c hc
    exact ⟨(s_By_b hD h).2, (hD.2.1 _ h).2.1.2, (hD.2.1 _ h).2.2.2⟩
  · have d4 := hD.2.2.1
    have d5 := hD.2.2.2
    show 0 ≤ D 4 + (if (m : Int) < D 6 then 0 else D 5) ∧ D 4 + (if (m : Int) < D 6 then 0 else D 5) ≤ 1000
    split <;> omega
end CUM
