/-! ===== what is refused has a count above nothing ===== -/
section POS
variable {b : Nat → Int32} {n p : Nat} {D : s_D}
noncomputable def s_pos (r : s_R) : Prop := 0 ≤ r.1.1
theorem s_pos_if {c : Prop} {x y : s_R} (hx : s_pos x) (hy : s_pos y) : s_pos (s_if c x y) := by
  rcases Classical.em c with h | h
  · rw [s_ifT h]; exact hx
  · rw [s_ifF h]; exact hy
theorem s_pos_bad {x : Int} (hx : 0 ≤ x) : s_pos (s_bad b n p x D) := by
  show 0 ≤ s_fk b n p x
  unfold s_fk; split
  · decide
  · exact hx
theorem s_pos_ok : s_pos (s_ok p D) := Int.le_refl 0
theorem s_pos_kw {i : Nat} {k : Nat → s_R} (h : ∀ q, s_pos (k q)) : s_pos (s_kw b n p i D k) := s_pos_if (h _) (s_pos_bad (by decide))
theorem s_pos_num {lo hi : Int} {k : Nat → s_R} (h : ∀ q, s_pos (k q)) : s_pos (s_num b n p lo hi D k) := s_pos_if (s_pos_if (h _) (s_pos_bad (by decide))) (s_pos_bad (by decide))
theorem s_pos_name {k : Nat → s_R} (h : ∀ q, s_pos (k q)) : s_pos (s_name b n p D k) := s_pos_if (s_pos_if (s_pos_bad (by decide)) (h _)) (s_pos_bad (by decide))
theorem s_pos_come {k : Nat → Int → Int → Int → s_R} (h : ∀ q x y z, s_pos (k q x y z)) : s_pos (s_come b n p D k) := s_pos_kw fun _ => s_pos_num fun _ => s_pos_kw fun _ => s_pos_num fun _ => s_pos_kw fun _ => s_pos_num fun _ => h _ _ _ _
theorem s_pos_port : s_pos (s_port b n p D) := s_pos_if (s_pos_bad (by decide)) (s_pos_name fun _ => s_pos_kw fun _ => s_pos_if (s_pos_if (s_pos_bad (by decide)) s_pos_ok) (s_pos_bad (by decide)))
theorem s_pos_turns : s_pos (s_turns b n p D) := s_pos_if (s_pos_num fun _ => s_pos_ok) (s_pos_bad (by decide))
theorem s_pos_frost : s_pos (s_frost b n p D) := s_pos_if (s_pos_num fun _ => s_pos_kw fun _ => s_pos_num fun _ => s_pos_ok) (s_pos_bad (by decide))
theorem s_pos_echo : s_pos (s_echo b n p D) := s_pos_if (s_pos_num fun _ => s_pos_ok) (s_pos_bad (by decide))
theorem s_pos_ship : s_pos (s_ship b n p D) := s_pos_if (s_pos_bad (by decide)) (s_pos_name fun _ => s_pos_kw fun _ => s_pos_if (s_pos_if (s_pos_bad (by decide)) (s_pos_come fun _ _ _ _ => s_pos_if s_pos_ok s_pos_ok)) (s_pos_bad (by decide)))
theorem s_pos_cart : s_pos (s_cart b n p D) := s_pos_if (s_pos_bad (by decide)) (s_pos_name fun _ => s_pos_come fun _ _ _ _ => s_pos_ok)
theorem s_pos_part : s_pos (s_part b n p D) := s_pos_if s_pos_port (s_pos_if s_pos_turns (s_pos_if s_pos_frost (s_pos_if s_pos_echo (s_pos_if s_pos_ship (s_pos_if s_pos_cart (s_pos_bad (by decide)))))))
theorem s_pos_semi {r : s_R} (h : s_pos r) : s_pos (s_semi b n r) := s_pos_if (s_pos_if s_pos_ok (s_pos_bad (by decide))) h
theorem s_pos_rv : ∀ (m p : Nat) (D : s_D), s_pos (s_rv b n m p D)
  | 0, _, _ => s_pos_ok
  | m + 1, _, _ => s_pos_if s_pos_ok (s_pos_if (s_pos_rv m _ _) (s_pos_semi s_pos_part))
end POS
