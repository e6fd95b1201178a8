/-! ===== RULES on the other side: the answers as a list ===== -/
/-- nothing but what is a step -/
noncomputable def s_crs (R : List (List Int × Int)) : Prop := ∀ i, i < (s_flr R).length → (s_flr R).getD i 0 = 18 ∨ (s_flr R).getD i 0 = 19 ∨ (s_flr R).getD i 0 = 20 ∨ (s_flr R).getD i 0 = 15 ∨ (s_flr R).getD i 0 = 16 ∨ (2200000 ≤ (s_flr R).getD i 0 ∧ (s_flr R).getD i 0 < 2700000)
section HOL
variable {f f' : Nat → Int32} {g g1 : Nat → Nat → Int32} {F : Nat → Int} {h n u : Nat} {v : Int32} {a b : Int} {t st : List Int} {R : List (List Int × Int)}
theorem t_UK.crs (h : t_UK g u R) : s_crs R := by
  intro i hi
  have h1 := h.2.1 i hi
  unfold s_cdr at h1
  rcases h1 with h1 | h1 | h1 | h1 | h1 | ⟨h1, h2, h3, h4⟩
  · exact Or.inr (Or.inr (Or.inl h1.1))
  · exact Or.inr (Or.inl h1.1)
  · exact Or.inl h1.1
  · exact Or.inr (Or.inr (Or.inr (Or.inl h1.1)))
  · exact Or.inr (Or.inr (Or.inr (Or.inr (Or.inl h1.1))))
  · exact Or.inr (Or.inr (Or.inr (Or.inr (Or.inr (by omega)))))
theorem s_sl_len : ∀ n : Nat, (s_sl f n).length = n
  | 0 => rfl
  | n + 1 => by
    show (s_sl f n).length + 1 = n + 1
    rw [s_sl_len n]
theorem s_sl_1 (e : s_sl f n = a :: t) : ∃ k, n = k + 1 ∧ (f k).toInt = a ∧ s_sl f k = t := by
  cases n with
  | zero => cases e
  | succ k => exact ⟨k, rfl, (List.cons.inj e).1, (List.cons.inj e).2⟩
theorem s_sl_2 (e : s_sl f n = a :: b :: t) : ∃ k, n = k + 2 ∧ (f (k + 1)).toInt = a ∧ (f k).toInt = b ∧ s_sl f k = t := by
  obtain ⟨k, h1, h2, h3⟩ := s_sl_1 e
  obtain ⟨j, h4, h5, h6⟩ := s_sl_1 h3
  subst h4
  exact ⟨j, h1, h2, h5, h6⟩
theorem s_sl_u (e1 : f' h = v) (e2 : ∀ j, j < h → f' j = f j) : s_sl f' (h + 1) = v.toInt :: s_sl f h := by
  show (f' h).toInt :: s_sl f' h = _
  rw [e1, s_sl_eq h e2]
theorem t_MA.fr (h : t_MA F g) (e69 : g1 69 = g 69) (e89 : g1 89 = g 89) (e90 : g1 90 = g 90) (e91 : g1 91 = g 91) (e99 : g1 99 = g 99) : t_MA F g1 := by
  have ew : s_mwk g1 = s_mwk g := funext fun k => by unfold s_mwk t_sa t_si; rw [e69, e89, e90, e99]
  have ec : s_mck g1 = s_mck g := funext fun k => by unfold s_mck t_ca t_ci; rw [e69, e89, e91]
  have ex : s_mx g1 = s_mx g := by
    unfold s_mx t_S
    rw [show t_sa g1 = t_sa g from funext fun k => by unfold t_sa t_si; rw [e89, e90], e69]
  have e1 : s_mw g1 = s_mw g := by unfold s_mw t_S; rw [ew, e69]
  have e2 : s_mc g1 = s_mc g := by unfold s_mc t_C; rw [ec, e69]
  unfold t_MA
  rw [e69, e1, e2, ex]
  exact h
theorem t_cb1 {x : Int32} (h : x.toInt = 0 ∨ x.toInt = 1) : (x &&& 1).toInt = x.toInt := by
  rcases h with h | h
  · rw [show x = 0 from Int32.toInt_inj.mp (h.trans rfl)]; rfl
  · rw [show x = 1 from Int32.toInt_inj.mp (h.trans rfl)]; rfl
end HOL
