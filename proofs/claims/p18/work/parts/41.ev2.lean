/-! ===== printed by gen41.py: the cells that stand from the start on ===== -/
noncomputable def x_sh0 : List (Nat ⊕ (Nat × Nat)) := [.inl 10, .inr (4, 4), .inr (2, 900), .inl 4, .inr (1, 6), .inr (1, 6), .inl 3, .inr (0, 6), .inr (0, 6), .inr (0, 6), .inr (0, 6), .inr (3, 6), .inr (0, 6), .inl 3, .inr (0, 6), .inr (0, 6), .inr (0, 6), .inr (0, 6), .inr (3, 6), .inr (5, 3), .inr (6, 3), .inr (0, 1422), .inl 0, .inr (1, 30), .inr (0, 30), .inr (1, 30), .inr (0, 4), .inr (0, 4), .inl 1, .inl 3, .inr (0, 6), .inr (0, 6), .inr (0, 6), .inr (0, 6), .inr (3, 6), .inl 3, .inr (0, 6), .inr (0, 6), .inr (0, 6), .inr (0, 6), .inr (3, 6), .inr (0, 72), .inr (0, 72), .inr (0, 6), .inr (0, 6), .inl 2, .inl 3, .inr (0, 6), .inr (0, 6), .inr (0, 6), .inr (0, 6), .inr (3, 6), .inl 3, .inr (0, 6), .inr (0, 6), .inr (0, 6), .inr (0, 6), .inr (3, 6), .inr (0, 6), .inr (0, 6), .inr (0, 5), .inl 9, .inr (1, 60), .inl 9, .inr (1, 60), .inl 9, .inr (1, 60), .inl 9, .inr (1, 60), .inl 11, .inr (0, 1760), .inr (1, 100), .inr (0, 4), .inr (0, 4), .inr (1, 240), .inr (2, 900), .inr (2, 900), .inr (0, 60), .inr (0, 500), .inr (0, 500), .inr (0, 500), .inr (0, 500), .inr (0, 500), .inr (0, 500), .inr (1, 30), .inr (1, 30), .inr (1, 4), .inr (0, 30), .inr (0, 5), .inr (0, 12), .inr (0, 6), .inr (0, 6), .inr (0, 23716), .inr (0, 100), .inr (0, 100), .inr (0, 100), .inr (0, 100), .inr (0, 100), .inr (0, 100), .inr (3, 6), .inr (3, 60), .inr (0, 5)]
noncomputable def x_fx : List ((Nat × Nat) × Nat) := [((0, 3), 1), ((0, 4), 2), ((0, 10), 19), ((0, 11), 20), ((0, 13), 21), ((0, 15), 22), ((0, 16), 28), ((0, 17), 45), ((1, 0), 61), ((1, 1), 63), ((1, 2), 65), ((1, 3), 67), ((3, 1), 4), ((3, 2), 5), ((3, 7), 6), ((3, 8), 12), ((3, 9), 13), ((6, 1), 7), ((6, 2), 8), ((6, 3), 9), ((6, 4), 10), ((6, 5), 11), ((13, 1), 14), ((13, 2), 15), ((13, 3), 16), ((13, 4), 17), ((13, 5), 18), ((22, 0), 23), ((22, 1), 24), ((22, 2), 25), ((22, 4), 26), ((22, 5), 27), ((28, 2), 29), ((28, 3), 35), ((28, 7), 41), ((28, 9), 42), ((28, 10), 43), ((28, 11), 44), ((29, 1), 30), ((29, 2), 31), ((29, 3), 32), ((29, 4), 33), ((29, 5), 34), ((35, 1), 36), ((35, 2), 37), ((35, 3), 38), ((35, 4), 39), ((35, 5), 40), ((45, 0), 46), ((45, 1), 52), ((45, 2), 58), ((45, 3), 59), ((45, 16), 60), ((46, 1), 47), ((46, 2), 48), ((46, 3), 49), ((46, 4), 50), ((46, 5), 51), ((52, 1), 53), ((52, 2), 54), ((52, 3), 55), ((52, 4), 56), ((52, 5), 57), ((61, 0), 62), ((63, 0), 64), ((65, 0), 66), ((67, 0), 68), ((69, 0), 70), ((69, 1), 71), ((69, 5), 72), ((69, 6), 73), ((69, 7), 74), ((69, 8), 75), ((69, 9), 76), ((69, 21), 77), ((69, 26), 78), ((69, 27), 79), ((69, 28), 80), ((69, 31), 81), ((69, 32), 82), ((69, 33), 83), ((69, 34), 84), ((69, 35), 85), ((69, 36), 86), ((69, 37), 87), ((69, 38), 88), ((69, 41), 89), ((69, 42), 90), ((69, 43), 91), ((69, 47), 92), ((69, 49), 93), ((69, 50), 94), ((69, 51), 95), ((69, 52), 96), ((69, 53), 97), ((69, 54), 98), ((69, 71), 99), ((69, 72), 100), ((69, 73), 101)]
noncomputable def x_fixed (k j : Nat) : Option Nat := x_fx.lookup (k, j)
/-- the world's fixed part is as it was made -/
noncomputable def x_WF (sh : List (Nat ⊕ (Nat × Nat))) (gr : Nat → Nat → Value) : Prop := (∀ (k : Nat) (s : Nat ⊕ (Nat × Nat)), x_sh0[k]? = some s → sh[k]? = some s) ∧ ∀ k j v, x_fixed k j = some v → gr k j = .ref v
/-! the fixed part, looked up in a tree -/
noncomputable def x_tall {α : Type} (f : α → Bool) (t : Lean.RArray α) : Bool := @Lean.RArray.rec α (fun _ => Bool) f (fun _ _ _ l r => l && r) t
theorem x_tall_get {α : Type} {f : α → Bool} : ∀ (t : Lean.RArray α) (n : Nat), x_tall f t = true → f (t.get n) = true
  | .leaf x, _, h => h
  | .branch p l r, n, h => by
    have h2 := (Bool.and_eq_true _ _).mp (show (x_tall f l && x_tall f r) = true from h)
    show f (@Bool.rec (fun _ => α) (l.get n) (r.get n) (Nat.ble p n)) = true
    cases Nat.ble p n with
    | true => exact x_tall_get r n h2.2
    | false => exact x_tall_get l n h2.1
noncomputable abbrev x_bt {α : Type} (t : Lean.RArray (Nat × Option α)) (n : Nat) : Option α := @Bool.rec (fun _ => Option α) none (t.get n).2 (Nat.beq (t.get n).1 n)
theorem x_bt_ok {α : Type} {t : Lean.RArray (Nat × Option α)} {f : Nat × Option α → Bool} (h : x_tall f t = true) {n : Nat} {v : α} (e : x_bt t n = some v) : f (n, some v) = true := by
  have h1 := x_tall_get t n h
  unfold x_bt at e
  cases hb : Nat.beq (t.get n).1 n with
  | false => rw [hb] at e; cases e
  | true =>
    rw [hb] at e
    have e1 : (t.get n).1 = n := Nat.eq_of_beq_eq_true hb
    have e2 : (t.get n).2 = some v := e
    rw [← e1, ← e2]; exact h1
noncomputable def x_sh1T : Lean.RArray (Nat × Option ((Nat ⊕ (Nat × Nat)))) := (.branch 51 (.branch 25 (.branch 12 (.branch 6 (.branch 3 (.branch 1 (.leaf (0, some (.inl 10))) (.branch 2 (.leaf (1, some (.inr (4, 4)))) (.leaf (2, some (.inr (2, 900)))))) (.branch 4 (.leaf (3, some (.inl 4))) (.branch 5 (.leaf (4, some (.inr (1, 6)))) (.leaf (5, some (.inr (1, 6))))))) (.branch 9 (.branch 7 (.leaf (6, some (.inl 3))) (.branch 8 (.leaf (7, some (.inr (0, 6)))) (.leaf (8, some (.inr (0, 6)))))) (.branch 10 (.leaf (9, some (.inr (0, 6)))) (.branch 11 (.leaf (10, some (.inr (0, 6)))) (.leaf (11, some (.inr (3, 6)))))))) (.branch 18 (.branch 15 (.branch 13 (.leaf (12, some (.inr (0, 6)))) (.branch 14 (.leaf (13, some (.inl 3))) (.leaf (14, some (.inr (0, 6)))))) (.branch 16 (.leaf (15, some (.inr (0, 6)))) (.branch 17 (.leaf (16, some (.inr (0, 6)))) (.leaf (17, some (.inr (0, 6))))))) (.branch 21 (.branch 19 (.leaf (18, some (.inr (3, 6)))) (.branch 20 (.leaf (19, some (.inr (5, 3)))) (.leaf (20, some (.inr (6, 3)))))) (.branch 23 (.branch 22 (.leaf (21, some (.inr (0, 1422)))) (.leaf (22, some (.inl 0)))) (.branch 24 (.leaf (23, some (.inr (1, 30)))) (.leaf (24, some (.inr (0, 30))))))))) (.branch 38 (.branch 31 (.branch 28 (.branch 26 (.leaf (25, some (.inr (1, 30)))) (.branch 27 (.leaf (26, some (.inr (0, 4)))) (.leaf (27, some (.inr (0, 4)))))) (.branch 29 (.leaf (28, some (.inl 1))) (.branch 30 (.leaf (29, some (.inl 3))) (.leaf (30, some (.inr (0, 6))))))) (.branch 34 (.branch 32 (.leaf (31, some (.inr (0, 6)))) (.branch 33 (.leaf (32, some (.inr (0, 6)))) (.leaf (33, some (.inr (0, 6)))))) (.branch 36 (.branch 35 (.leaf (34, some (.inr (3, 6)))) (.leaf (35, some (.inl 3)))) (.branch 37 (.leaf (36, some (.inr (0, 6)))) (.leaf (37, some (.inr (0, 6)))))))) (.branch 44 (.branch 41 (.branch 39 (.leaf (38, some (.inr (0, 6)))) (.branch 40 (.leaf (39, some (.inr (0, 6)))) (.leaf (40, some (.inr (3, 6)))))) (.branch 42 (.leaf (41, some (.inr (0, 72)))) (.branch 43 (.leaf (42, some (.inr (0, 72)))) (.leaf (43, some (.inr (0, 6))))))) (.branch 47 (.branch 45 (.leaf (44, some (.inr (0, 6)))) (.branch 46 (.leaf (45, some (.inl 2))) (.leaf (46, some (.inl 3))))) (.branch 49 (.branch 48 (.leaf (47, some (.inr (0, 6)))) (.leaf (48, some (.inr (0, 6))))) (.branch 50 (.leaf (49, some (.inr (0, 6)))) (.leaf (50, some (.inr (0, 6)))))))))) (.branch 76 (.branch 63 (.branch 57 (.branch 54 (.branch 52 (.leaf (51, some (.inr (3, 6)))) (.branch 53 (.leaf (52, some (.inl 3))) (.leaf (53, some (.inr (0, 6)))))) (.branch 55 (.leaf (54, some (.inr (0, 6)))) (.branch 56 (.leaf (55, some (.inr (0, 6)))) (.leaf (56, some (.inr (0, 6))))))) (.branch 60 (.branch 58 (.leaf (57, some (.inr (3, 6)))) (.branch 59 (.leaf (58, some (.inr (0, 6)))) (.leaf (59, some (.inr (0, 6)))))) (.branch 61 (.leaf (60, some (.inr (0, 5)))) (.branch 62 (.leaf (61, some (.inl 9))) (.leaf (62, some (.inr (1, 60)))))))) (.branch 69 (.branch 66 (.branch 64 (.leaf (63, some (.inl 9))) (.branch 65 (.leaf (64, some (.inr (1, 60)))) (.leaf (65, some (.inl 9))))) (.branch 67 (.leaf (66, some (.inr (1, 60)))) (.branch 68 (.leaf (67, some (.inl 9))) (.leaf (68, some (.inr (1, 60))))))) (.branch 72 (.branch 70 (.leaf (69, some (.inl 11))) (.branch 71 (.leaf (70, some (.inr (0, 1760)))) (.leaf (71, some (.inr (1, 100)))))) (.branch 74 (.branch 73 (.leaf (72, some (.inr (0, 4)))) (.leaf (73, some (.inr (0, 4))))) (.branch 75 (.leaf (74, some (.inr (1, 240)))) (.leaf (75, some (.inr (2, 900))))))))) (.branch 89 (.branch 82 (.branch 79 (.branch 77 (.leaf (76, some (.inr (2, 900)))) (.branch 78 (.leaf (77, some (.inr (0, 60)))) (.leaf (78, some (.inr (0, 500)))))) (.branch 80 (.leaf (79, some (.inr (0, 500)))) (.branch 81 (.leaf (80, some (.inr (0, 500)))) (.leaf (81, some (.inr (0, 500))))))) (.branch 85 (.branch 83 (.leaf (82, some (.inr (0, 500)))) (.branch 84 (.leaf (83, some (.inr (0, 500)))) (.leaf (84, some (.inr (1, 30)))))) (.branch 87 (.branch 86 (.leaf (85, some (.inr (1, 30)))) (.leaf (86, some (.inr (1, 4))))) (.branch 88 (.leaf (87, some (.inr (0, 30)))) (.leaf (88, some (.inr (0, 5)))))))) (.branch 95 (.branch 92 (.branch 90 (.leaf (89, some (.inr (0, 12)))) (.branch 91 (.leaf (90, some (.inr (0, 6)))) (.leaf (91, some (.inr (0, 6)))))) (.branch 93 (.leaf (92, some (.inr (0, 23716)))) (.branch 94 (.leaf (93, some (.inr (0, 100)))) (.leaf (94, some (.inr (0, 100))))))) (.branch 98 (.branch 96 (.leaf (95, some (.inr (0, 100)))) (.branch 97 (.leaf (96, some (.inr (0, 100)))) (.leaf (97, some (.inr (0, 100)))))) (.branch 100 (.branch 99 (.leaf (98, some (.inr (0, 100)))) (.leaf (99, some (.inr (3, 6))))) (.branch 101 (.leaf (100, some (.inr (3, 60)))) (.leaf (101, some (.inr (0, 5)))))))))))
noncomputable abbrev x_sh1 (k : Nat) : Option (Nat ⊕ (Nat × Nat)) := x_bt x_sh1T k
theorem x_sh1_ok {k : Nat} {s : Nat ⊕ (Nat × Nat)} (h : x_sh1 k = some s) : x_sh0[k]? = some s :=
  of_decide_eq_true (x_bt_ok (f := fun q => decide (x_sh0[q.1]? = q.2)) (by decide +kernel) h)
noncomputable def x_fx1T : Lean.RArray (Nat × Option (Nat)) := (.branch 5761 (.branch 1667 (.branch 385 (.branch 16 (.branch 11 (.branch 4 (.leaf (3, some 1)) (.branch 10 (.leaf (4, some 2)) (.leaf (10, some 19)))) (.branch 13 (.leaf (11, some 20)) (.branch 15 (.leaf (13, some 21)) (.leaf (15, some 22))))) (.branch 129 (.branch 17 (.leaf (16, some 28)) (.branch 128 (.leaf (17, some 45)) (.leaf (128, some 61)))) (.branch 130 (.leaf (129, some 63)) (.branch 131 (.leaf (130, some 65)) (.leaf (131, some 67)))))) (.branch 770 (.branch 392 (.branch 386 (.leaf (385, some 4)) (.branch 391 (.leaf (386, some 5)) (.leaf (391, some 6)))) (.branch 393 (.leaf (392, some 12)) (.branch 769 (.leaf (393, some 13)) (.leaf (769, some 7))))) (.branch 773 (.branch 771 (.leaf (770, some 8)) (.branch 772 (.leaf (771, some 9)) (.leaf (772, some 10)))) (.branch 1665 (.leaf (773, some 11)) (.branch 1666 (.leaf (1665, some 14)) (.leaf (1666, some 15))))))) (.branch 3594 (.branch 2820 (.branch 2816 (.branch 1668 (.leaf (1667, some 16)) (.branch 1669 (.leaf (1668, some 17)) (.leaf (1669, some 18)))) (.branch 2817 (.leaf (2816, some 23)) (.branch 2818 (.leaf (2817, some 24)) (.leaf (2818, some 25))))) (.branch 3587 (.branch 2821 (.leaf (2820, some 26)) (.branch 3586 (.leaf (2821, some 27)) (.leaf (3586, some 29)))) (.branch 3591 (.leaf (3587, some 35)) (.branch 3593 (.leaf (3591, some 41)) (.leaf (3593, some 42)))))) (.branch 3717 (.branch 3714 (.branch 3595 (.leaf (3594, some 43)) (.branch 3713 (.leaf (3595, some 44)) (.leaf (3713, some 30)))) (.branch 3715 (.leaf (3714, some 31)) (.branch 3716 (.leaf (3715, some 32)) (.leaf (3716, some 33))))) (.branch 4483 (.branch 4481 (.leaf (3717, some 34)) (.branch 4482 (.leaf (4481, some 36)) (.leaf (4482, some 37)))) (.branch 4485 (.branch 4484 (.leaf (4483, some 38)) (.leaf (4484, some 39))) (.branch 5760 (.leaf (4485, some 40)) (.leaf (5760, some 46)))))))) (.branch 8853 (.branch 6660 (.branch 5891 (.branch 5776 (.branch 5762 (.leaf (5761, some 52)) (.branch 5763 (.leaf (5762, some 58)) (.leaf (5763, some 59)))) (.branch 5889 (.leaf (5776, some 60)) (.branch 5890 (.leaf (5889, some 47)) (.leaf (5890, some 48))))) (.branch 6657 (.branch 5892 (.leaf (5891, some 49)) (.branch 5893 (.leaf (5892, some 50)) (.leaf (5893, some 51)))) (.branch 6658 (.leaf (6657, some 53)) (.branch 6659 (.leaf (6658, some 54)) (.leaf (6659, some 55)))))) (.branch 8832 (.branch 8064 (.branch 6661 (.leaf (6660, some 56)) (.branch 7808 (.leaf (6661, some 57)) (.leaf (7808, some 62)))) (.branch 8320 (.leaf (8064, some 64)) (.branch 8576 (.leaf (8320, some 66)) (.leaf (8576, some 68))))) (.branch 8838 (.branch 8833 (.leaf (8832, some 70)) (.branch 8837 (.leaf (8833, some 71)) (.leaf (8837, some 72)))) (.branch 8840 (.branch 8839 (.leaf (8838, some 73)) (.leaf (8839, some 74))) (.branch 8841 (.leaf (8840, some 75)) (.leaf (8841, some 76))))))) (.branch 8873 (.branch 8865 (.branch 8860 (.branch 8858 (.leaf (8853, some 77)) (.branch 8859 (.leaf (8858, some 78)) (.leaf (8859, some 79)))) (.branch 8863 (.leaf (8860, some 80)) (.branch 8864 (.leaf (8863, some 81)) (.leaf (8864, some 82))))) (.branch 8868 (.branch 8866 (.leaf (8865, some 83)) (.branch 8867 (.leaf (8866, some 84)) (.leaf (8867, some 85)))) (.branch 8869 (.leaf (8868, some 86)) (.branch 8870 (.leaf (8869, some 87)) (.leaf (8870, some 88)))))) (.branch 8883 (.branch 8879 (.branch 8874 (.leaf (8873, some 89)) (.branch 8875 (.leaf (8874, some 90)) (.leaf (8875, some 91)))) (.branch 8881 (.leaf (8879, some 92)) (.branch 8882 (.leaf (8881, some 93)) (.leaf (8882, some 94))))) (.branch 8886 (.branch 8884 (.leaf (8883, some 95)) (.branch 8885 (.leaf (8884, some 96)) (.leaf (8885, some 97)))) (.branch 8904 (.branch 8903 (.leaf (8886, some 98)) (.leaf (8903, some 99))) (.branch 8905 (.leaf (8904, some 100)) (.leaf (8905, some 101)))))))))
noncomputable abbrev x_fx1 (k j : Nat) : Option Nat := @Bool.rec (fun _ => Option Nat) none (x_bt x_fx1T (128 * k + j)) (Nat.ble j 127)
theorem x_fx1_ok {k j v : Nat} (h : x_fx1 k j = some v) : x_fixed k j = some v := by
  unfold x_fx1 at h
  cases hb : Nat.ble j 127 with
  | false => rw [hb] at h; cases h
  | true =>
    rw [hb] at h
    have hj : j ≤ 127 := Nat.le_of_ble_eq_true hb
    have h1 := of_decide_eq_true (x_bt_ok (f := fun q => decide (x_fixed (q.1 / 128) (q.1 % 128) = q.2)) (by decide +kernel) h)
    rw [show (128 * k + j) / 128 = k by omega, show (128 * k + j) % 128 = j by omega] at h1
    exact h1
theorem x_WF.s {sh : List (Nat ⊕ (Nat × Nat))} {gr : Nat → Nat → Value} (h : x_WF sh gr) {k : Nat} {s : Nat ⊕ (Nat × Nat)} (hk : x_sh1 k = some s) : sh[k]? = some s := h.1 k s (x_sh1_ok hk)
theorem x_WF.s0 {sh : List (Nat ⊕ (Nat × Nat))} {gr : Nat → Nat → Value} (h : x_WF sh gr) {k : Nat} {s : Nat ⊕ (Nat × Nat)} (hk : x_sh0[k]? = some s) : sh[k]? = some s := h.1 k s hk
theorem x_WF.r0 {sh : List (Nat ⊕ (Nat × Nat))} {gr : Nat → Nat → Value} (h : x_WF sh gr) {k j v : Nat} (hk : x_fixed k j = some v) : gr k j = .ref v := h.2 k j v hk
theorem x_WF.r {sh : List (Nat ⊕ (Nat × Nat))} {gr : Nat → Nat → Value} (h : x_WF sh gr) {k j v : Nat} (hk : x_fx1 k j = some v) : gr k j = .ref v := h.2 k j v (x_fx1_ok hk)
noncomputable def x_tyI : FieldType → Bool | .int | .boolean | .byte | .char | .short => true | _ => false
noncomputable def x_tyR : FieldType → Bool | .object _ | .array _ => true | _ => false
section XEV2
variable {X : x_Ext} {d mi pc nx a b q len ml : Nat} {z : Int} {lo lo' : x_Lo} {r : List Value} {P : Option Value → x_G → Prop} {T : List (Nat × x_Row)} {rt : Option FieldType}
variable {sh : List (Nat ⊕ (Nat × Nat))} {gi : Nat → Nat → Int32} {gl : Nat → Nat → Int64} {gr : Nat → Nat → Value} {k i0 n : Nat} {i : Int32}
theorem ev_getI (F : x_F mi T ml rt) (hr : x_lk T pc = some (.getfield i0, len, a, b, q, z)) (hk : sh[k]? = some (.inl a)) (hb : decide (b < (x_fty a).length) = true) (ht : x_tyI ((x_fty a).getD b .int) = true) (hn : pc + len = nx) (kk : x_Ev X d mi nx lo (.int (gi k b) :: r) (sh, gi, gl, gr) P) : x_Ev X d mi pc lo (.ref k :: r) (sh, gi, gl, gr) P := by
  refine ev_heap F hr rfl ?_ hn kk
  show (if sh[k]? = some (.inl a) ∧ b < (x_fty a).length then _ else none) = _
  rw [if_pos ⟨hk, of_decide_eq_true hb⟩]
  revert ht
  cases (x_fty a).getD b .int <;> intro ht <;> first | rfl | cases ht
theorem ev_getL (F : x_F mi T ml rt) (hr : x_lk T pc = some (.getfield i0, len, a, b, q, z)) (hk : sh[k]? = some (.inl a)) (hb : decide (b < (x_fty a).length) = true) (ht : (x_fty a).getD b .int = .long) (hn : pc + len = nx) (kk : x_Ev X d mi nx lo (.long (gl k b) :: r) (sh, gi, gl, gr) P) : x_Ev X d mi pc lo (.ref k :: r) (sh, gi, gl, gr) P := by
  refine ev_heap F hr rfl ?_ hn kk
  show (if sh[k]? = some (.inl a) ∧ b < (x_fty a).length then _ else none) = _
  rw [if_pos ⟨hk, of_decide_eq_true hb⟩, ht]
  rfl
theorem ev_getR {v : Value} (F : x_F mi T ml rt) (hr : x_lk T pc = some (.getfield i0, len, a, b, q, z)) (hk : sh[k]? = some (.inl a)) (hb : decide (b < (x_fty a).length) = true) (ht : x_tyR ((x_fty a).getD b .int) = true) (hv : gr k b = v) (hv2 : x_isR v = true) (hn : pc + len = nx) (kk : x_Ev X d mi nx lo (v :: r) (sh, gi, gl, gr) P) : x_Ev X d mi pc lo (.ref k :: r) (sh, gi, gl, gr) P := by
  refine ev_heap F hr rfl ?_ hn kk
  show (if sh[k]? = some (.inl a) ∧ b < (x_fty a).length then _ else none) = _
  rw [if_pos ⟨hk, of_decide_eq_true hb⟩]
  have h : x_fv (sh, gi, gl, gr) k b ((x_fty a).getD b .int) = v := by
    revert ht
    cases (x_fty a).getD b .int <;> intro ht <;> first | (cases ht; done) | (show x_nr (gr k b) = v; rw [hv]; exact x_nr_isR hv2)
  rw [h]
theorem ev_putI {x : Int32} (F : x_F mi T ml rt) (hr : x_lk T pc = some (.putfield i0, len, a, b, q, z)) (hk : sh[k]? = some (.inl a)) (hb : decide (b < (x_fty a).length) = true) (ht : (x_fty a).getD b .int = .int) (hn : pc + len = nx) (kk : x_Ev X d mi nx lo r (sh, x_up2 gi k b x, gl, gr) P) : x_Ev X d mi pc lo (.int x :: .ref k :: r) (sh, gi, gl, gr) P := by
  refine ev_heap F hr rfl ?_ hn kk
  show (if sh[k]? = some (.inl a) ∧ b < (x_fty a).length ∧ _ then _ else none) = _
  rw [ht, if_pos ⟨hk, of_decide_eq_true hb, rfl⟩]
  rfl
theorem ev_putZ {x : Int32} (F : x_F mi T ml rt) (hr : x_lk T pc = some (.putfield i0, len, a, b, q, z)) (hk : sh[k]? = some (.inl a)) (hb : decide (b < (x_fty a).length) = true) (ht : (x_fty a).getD b .int = .boolean) (hx : x = 0 ∨ x = 1) (hn : pc + len = nx) (kk : x_Ev X d mi nx lo r (sh, x_up2 gi k b x, gl, gr) P) : x_Ev X d mi pc lo (.int x :: .ref k :: r) (sh, gi, gl, gr) P := by
  refine ev_heap F hr rfl ?_ hn kk
  show (if sh[k]? = some (.inl a) ∧ b < (x_fty a).length ∧ _ then _ else none) = _
  rw [ht, if_pos ⟨hk, of_decide_eq_true hb, by rcases hx with rfl | rfl <;> rfl⟩]
  rfl
theorem ev_putL {x : Int64} (F : x_F mi T ml rt) (hr : x_lk T pc = some (.putfield i0, len, a, b, q, z)) (hk : sh[k]? = some (.inl a)) (hb : decide (b < (x_fty a).length) = true) (ht : (x_fty a).getD b .int = .long) (hn : pc + len = nx) (kk : x_Ev X d mi nx lo r (sh, gi, x_up2 gl k b x, gr) P) : x_Ev X d mi pc lo (.long x :: .ref k :: r) (sh, gi, gl, gr) P := by
  refine ev_heap F hr rfl ?_ hn kk
  show (if sh[k]? = some (.inl a) ∧ b < (x_fty a).length ∧ _ then _ else none) = _
  rw [ht, if_pos ⟨hk, of_decide_eq_true hb, rfl⟩]
  rfl
theorem ev_putR {v : Value} (F : x_F mi T ml rt) (hr : x_lk T pc = some (.putfield i0, len, a, b, q, z)) (hk : sh[k]? = some (.inl a)) (hb : decide (b < (x_fty a).length) = true) (ht : x_tyR ((x_fty a).getD b .int) = true) (hv : x_isR v = true) (hn : pc + len = nx) (kk : x_Ev X d mi nx lo r (sh, gi, gl, x_up2 gr k b v) P) : x_Ev X d mi pc lo (v :: .ref k :: r) (sh, gi, gl, gr) P := by
  refine ev_heap F hr rfl ?_ hn kk
  show (if sh[k]? = some (.inl a) ∧ b < (x_fty a).length ∧ _ then _ else none) = _
  have h : x_fit ((x_fty a).getD b .int) v = true ∧ x_put (sh, gi, gl, gr) k b ((x_fty a).getD b .int) v = (sh, gi, gl, x_up2 gr k b v) := by
    revert ht
    cases (x_fty a).getD b .int <;> intro ht <;> first | (cases ht; done) | exact ⟨hv, rfl⟩
  rw [if_pos ⟨hk, of_decide_eq_true hb, h.1⟩, h.2]
theorem ev_alen (F : x_F mi T ml rt) {t : Nat} (hr : x_lk T pc = some (.arraylength, len, a, b, q, z)) (hk : sh[k]? = some (.inr (t, n))) (ht : decide (t < 7) = true) (hn : pc + len = nx) (kk : x_Ev X d mi nx lo (.int (Int32.ofNat n) :: r) (sh, gi, gl, gr) P) : x_Ev X d mi pc lo (.ref k :: r) (sh, gi, gl, gr) P := by
  refine ev_heap F hr rfl ?_ hn kk
  simp only [x_heap, hk, of_decide_eq_true ht, if_true]
theorem x_ix (h0 : ¬ i < 0) (h1 : i.toNatClampNeg < n) : ¬ (i < 0 ∨ n ≤ i.toNatClampNeg) := fun h => h.elim h0 (fun h => absurd h1 (Nat.not_lt.mpr h))
theorem ev_iald (F : x_F mi T ml rt) (hr : x_lk T pc = some (.iaload, len, a, b, q, z)) (hk : sh[k]? = some (.inr (0, n))) (h0 : ¬ i < 0) (h1 : i.toNatClampNeg < n) (hn : pc + len = nx) (kk : x_Ev X d mi nx lo (.int (gi k i.toNatClampNeg) :: r) (sh, gi, gl, gr) P) : x_Ev X d mi pc lo (.int i :: .ref k :: r) (sh, gi, gl, gr) P := by
  refine ev_heap F hr rfl ?_ hn kk
  simp only [x_heap, x_ldA, hk]
  rw [if_pos ⟨rfl, x_ix h0 h1⟩]; rfl
theorem ev_lald (F : x_F mi T ml rt) (hr : x_lk T pc = some (.laload, len, a, b, q, z)) (hk : sh[k]? = some (.inr (1, n))) (h0 : ¬ i < 0) (h1 : i.toNatClampNeg < n) (hn : pc + len = nx) (kk : x_Ev X d mi nx lo (.long (gl k i.toNatClampNeg) :: r) (sh, gi, gl, gr) P) : x_Ev X d mi pc lo (.int i :: .ref k :: r) (sh, gi, gl, gr) P := by
  refine ev_heap F hr rfl ?_ hn kk
  simp only [x_heap, x_ldA, hk]
  rw [if_pos ⟨rfl, x_ix h0 h1⟩]; rfl
theorem ev_bald (F : x_F mi T ml rt) {t : Nat} (hr : x_lk T pc = some (.baload, len, a, b, q, z)) (hk : sh[k]? = some (.inr (t, n))) (ht : (t == 2 || t == 3) = true) (h0 : ¬ i < 0) (h1 : i.toNatClampNeg < n) (hn : pc + len = nx) (kk : x_Ev X d mi nx lo (.int (gi k i.toNatClampNeg) :: r) (sh, gi, gl, gr) P) : x_Ev X d mi pc lo (.int i :: .ref k :: r) (sh, gi, gl, gr) P := by
  refine ev_heap F hr rfl ?_ hn kk
  simp only [x_heap, x_ldA, hk]
  rw [if_pos ⟨ht, x_ix h0 h1⟩]
  simp only [Bool.or_eq_true, beq_iff_eq] at ht
  rcases ht with rfl | rfl <;> rfl
theorem ev_aald (F : x_F mi T ml rt) {t : Nat} {v : Value} (hr : x_lk T pc = some (.aaload, len, a, b, q, z)) (hk : sh[k]? = some (.inr (t, n))) (ht : (decide (4 ≤ t) && decide (t < 7)) = true) (h0 : ¬ i < 0) (h1 : i.toNatClampNeg < n) (hv : gr k i.toNatClampNeg = v) (hv2 : x_isR v = true) (hn : pc + len = nx) (kk : x_Ev X d mi nx lo (v :: r) (sh, gi, gl, gr) P) : x_Ev X d mi pc lo (.int i :: .ref k :: r) (sh, gi, gl, gr) P := by
  refine ev_heap F hr rfl ?_ hn kk
  simp only [x_heap, x_ldA, hk]
  rw [if_pos ⟨ht, x_ix h0 h1⟩]
  have h : x_fv (sh, gi, gl, gr) k i.toNatClampNeg (x_ety t) = v := by
    simp only [Bool.and_eq_true, decide_eq_true_eq] at ht
    obtain rfl | rfl | rfl : t = 4 ∨ t = 5 ∨ t = 6 := by omega
    all_goals (show x_nr (gr k _) = v; rw [hv]; exact x_nr_isR hv2)
  rw [h]
theorem ev_iast (F : x_F mi T ml rt) {x : Int32} (hr : x_lk T pc = some (.iastore, len, a, b, q, z)) (hk : sh[k]? = some (.inr (0, n))) (h0 : ¬ i < 0) (h1 : i.toNatClampNeg < n) (hn : pc + len = nx) (kk : x_Ev X d mi nx lo r (sh, x_up2 gi k i.toNatClampNeg x, gl, gr) P) : x_Ev X d mi pc lo (.int x :: .int i :: .ref k :: r) (sh, gi, gl, gr) P := by
  refine ev_heap F hr rfl ?_ hn kk
  simp only [x_heap, x_stA, hk]
  rw [if_pos ⟨trivial, x_ix h0 h1⟩]; rfl
theorem ev_last (F : x_F mi T ml rt) {x : Int64} (hr : x_lk T pc = some (.lastore, len, a, b, q, z)) (hk : sh[k]? = some (.inr (1, n))) (h0 : ¬ i < 0) (h1 : i.toNatClampNeg < n) (hn : pc + len = nx) (kk : x_Ev X d mi nx lo r (sh, gi, x_up2 gl k i.toNatClampNeg x, gr) P) : x_Ev X d mi pc lo (.long x :: .int i :: .ref k :: r) (sh, gi, gl, gr) P := by
  refine ev_heap F hr rfl ?_ hn kk
  simp only [x_heap, x_stA, hk]
  rw [if_pos ⟨trivial, x_ix h0 h1⟩]; rfl
theorem ev_bast (F : x_F mi T ml rt) {x : Int32} (hr : x_lk T pc = some (.bastore, len, a, b, q, z)) (hk : sh[k]? = some (.inr (2, n))) (h0 : ¬ i < 0) (h1 : i.toNatClampNeg < n) (hn : pc + len = nx) (kk : x_Ev X d mi nx lo r (sh, x_up2 gi k i.toNatClampNeg x.toInt8.toInt32, gl, gr) P) : x_Ev X d mi pc lo (.int x :: .int i :: .ref k :: r) (sh, gi, gl, gr) P := by
  refine ev_heap F hr rfl ?_ hn kk
  simp only [x_heap, x_aty, x_stA, hk]
  rw [if_pos trivial, if_pos ⟨trivial, x_ix h0 h1⟩]; rfl
theorem ev_zast (F : x_F mi T ml rt) {x : Int32} (hr : x_lk T pc = some (.bastore, len, a, b, q, z)) (hk : sh[k]? = some (.inr (3, n))) (h0 : ¬ i < 0) (h1 : i.toNatClampNeg < n) (hn : pc + len = nx) (kk : x_Ev X d mi nx lo r (sh, x_up2 gi k i.toNatClampNeg (x &&& 1), gl, gr) P) : x_Ev X d mi pc lo (.int x :: .int i :: .ref k :: r) (sh, gi, gl, gr) P := by
  refine ev_heap F hr rfl ?_ hn kk
  simp only [x_heap, x_aty, x_stA, hk]
  rw [if_neg (by decide), if_pos ⟨trivial, x_ix h0 h1⟩]; rfl
theorem ev_ic {n0 : Int} {v : Int32} (F : x_F mi T ml rt) (hr : x_lk T pc = some (.iconst n0, len, a, b, q, z)) (hv : Int32.ofInt n0 = v) (hn : pc + len = nx) (kk : x_Ev X d mi nx lo (.int v :: r) (sh, gi, gl, gr) P) : x_Ev X d mi pc lo r (sh, gi, gl, gr) P := by
  subst hv; exact ev_alu F hr rfl rfl hn kk
theorem ev_bp {n0 : Int} {v : Int32} (F : x_F mi T ml rt) (hr : x_lk T pc = some (.bipush n0, len, a, b, q, z)) (hv : (Int8.ofInt n0).toInt32 = v) (hn : pc + len = nx) (kk : x_Ev X d mi nx lo (.int v :: r) (sh, gi, gl, gr) P) : x_Ev X d mi pc lo r (sh, gi, gl, gr) P := by
  subst hv; exact ev_alu F hr rfl rfl hn kk
theorem ev_sp {n0 : Int} {v : Int32} (F : x_F mi T ml rt) (hr : x_lk T pc = some (.sipush n0, len, a, b, q, z)) (hv : (Int16.ofInt n0).toInt32 = v) (hn : pc + len = nx) (kk : x_Ev X d mi nx lo (.int v :: r) (sh, gi, gl, gr) P) : x_Ev X d mi pc lo r (sh, gi, gl, gr) P := by
  subst hv; exact ev_alu F hr rfl rfl hn kk
theorem ev_lc {n0 : Fin 2} {v : Int64} (F : x_F mi T ml rt) (hr : x_lk T pc = some (.lconst n0, len, a, b, q, z)) (hv : Int64.ofNat (n0 : Nat) = v) (hn : pc + len = nx) (kk : x_Ev X d mi nx lo (.long v :: r) (sh, gi, gl, gr) P) : x_Ev X d mi pc lo r (sh, gi, gl, gr) P := by
  subst hv; exact ev_alu F hr rfl rfl hn kk
theorem ev_ldI {v : Int32} (F : x_F mi T ml rt) (hr : x_lk T pc = some (.ldc i0, len, 0, b, q, z)) (hv : Int32.ofInt z = v) (hn : pc + len = nx) (kk : x_Ev X d mi nx lo (.int v :: r) (sh, gi, gl, gr) P) : x_Ev X d mi pc lo r (sh, gi, gl, gr) P := by
  subst hv; exact ev_heap F hr rfl rfl hn kk
theorem ev_ldW {v : Int32} (F : x_F mi T ml rt) (hr : x_lk T pc = some (.ldc_w i0, len, a, b, q, z)) (hv : Int32.ofInt z = v) (hn : pc + len = nx) (kk : x_Ev X d mi nx lo (.int v :: r) (sh, gi, gl, gr) P) : x_Ev X d mi pc lo r (sh, gi, gl, gr) P := by
  subst hv; exact ev_heap F hr rfl rfl hn kk
theorem ev_ldL {v : Int64} (F : x_F mi T ml rt) (hr : x_lk T pc = some (.ldc2_w i0, len, a, b, q, z)) (hv : Int64.ofInt z = v) (hn : pc + len = nx) (kk : x_Ev X d mi nx lo (.long v :: r) (sh, gi, gl, gr) P) : x_Ev X d mi pc lo r (sh, gi, gl, gr) P := by
  subst hv; exact ev_heap F hr rfl rfl hn kk
theorem ev_inc {n0 : Int} {x c : Int32} {j : Nat} (F : x_F mi T ml rt) (hr : x_lk T pc = some (.iinc j n0, len, a, b, q, z)) (hg : x_get lo j = some (.int x)) (hc : Int32.ofInt n0 = c) (hj : decide (j < ml) = true) (hl : x_set1 lo j (.int (x + c)) = lo') (hn : pc + len = nx) (kk : x_Ev X d mi nx lo' r (sh, gi, gl, gr) P) : x_Ev X d mi pc lo r (sh, gi, gl, gr) P := by
  subst hc; subst hl
  refine ev_loc F hr rfl ?_ hn kk
  simp only [x_loc, hg, of_decide_eq_true hj, if_true]
end XEV2
