/-! ===== the shadow machine is sound ===== -/
theorem x_heap_mono {X : x_Ext} {a b : Nat} {z : Int} {ins : Instr} {st st' : List Value} {G G' : x_G} (h : x_heap X a b z ins st G = some (st', G')) : G'.1 = G.1 ∨ ∃ sh, G' = x_new G sh := by
  unfold x_heap at h
  split at h
  all_goals first
    | (cases h; exact Or.inl rfl)
    | (cases h; done)
    | (split at h <;> first | (cases h; exact Or.inl rfl) | (cases h; done) | (cases h; exact Or.inl (x_put_1 _ _ _ _ _)) | (cases h; exact Or.inr ⟨_, rfl⟩) | (obtain ⟨n, -, -, rfl⟩ := x_stA_spec (by assumption); cases h; exact Or.inl (x_put_1 _ _ _ _ _)) | (split at h <;> first | (cases h; exact Or.inl rfl) | (cases h; done) | (cases h; exact Or.inr ⟨_, rfl⟩) | (rename_i hh; obtain ⟨n, -, -, rfl⟩ := x_stA_spec hh; cases h; exact Or.inl (x_put_1 _ _ _ _ _))))
    | (split at h <;> rename_i hh <;> first | (cases h; done) | (obtain ⟨n, -, -, rfl⟩ := x_stA_spec hh; cases h; exact Or.inl (x_put_1 _ _ _ _ _)))
theorem x_heap_le {X : x_Ext} {a b : Nat} {z : Int} {ins : Instr} {st st' : List Value} {G G' : x_G} (h : x_heap X a b z ins st G = some (st', G')) : G.1.length ≤ G'.1.length ∧ x_nS G ≤ x_nS G' := by
  rcases x_heap_mono h with e | ⟨sh, rfl⟩
  · exact ⟨by rw [e]; exact Nat.le_refl _, by rw [x_nS_eq e]; exact Nat.le_refl _⟩
  · exact ⟨by rw [x_nC_new]; omega, by rw [x_nS_new]; omega⟩
theorem x_cpy_1 (G : x_G) (k0 k1 t sp dp n : Nat) : (x_cpy G k0 k1 t sp dp n).1 = G.1 := by unfold x_cpy; split <;> rfl
theorem x_exec_le {X : x_Ext} : ∀ (n d mi pc : Nat) (lo : x_Lo) (st : List Value) (G : x_G) (v : Option Value) (Gf : x_G), x_exec X n d mi pc lo st G = some (v, Gf) → G.1.length ≤ Gf.1.length ∧ x_nS G ≤ x_nS Gf := by
  intro n
  induction n with
  | zero => intro d mi pc lo st G v Gf h; cases h
  | succ n ih =>
    intro d mi pc lo st G v Gf h
    unfold x_exec at h
    split at h
    · cases h
    · split at h
      · split at h
        · exact ih _ _ _ _ _ _ _ _ h
        · cases h
      · split at h
        · exact ih _ _ _ _ _ _ _ _ h
        · cases h
      · split at h
        · exact ih _ _ _ _ _ _ _ _ h
        · cases h
      · split at h
        · next hh =>
          have h1 := x_heap_le hh
          have h2 := ih _ _ _ _ _ _ _ _ h
          exact ⟨Nat.le_trans h1.1 h2.1, Nat.le_trans h1.2 h2.2⟩
        · cases h
      · split at h
        · split at h
          · split at h
            · exact ih _ _ _ _ _ _ _ _ h
            · cases h
          · cases h
        · split at h
          · split at h
            · split at h
              · split at h
                · have h2 := ih _ _ _ _ _ _ _ _ h
                  rw [x_cpy_1, x_nS_eq (x_cpy_1 _ _ _ _ _ _ _)] at h2
                  exact h2
                · cases h
              · cases h
            · cases h
          · split at h
            · split at h
              · split at h
                · exact ih _ _ _ _ _ _ _ _ h
                · cases h
              · cases h
            · split at h
              · split at h
                · next hh =>
                  have h1 := ih _ _ _ _ _ _ _ _ hh
                  have h2 := ih _ _ _ _ _ _ _ _ h
                  exact ⟨Nat.le_trans h1.1 h2.1, Nat.le_trans h1.2 h2.2⟩
                · cases h
              · cases h
      · split at h
        · cases h; exact ⟨Nat.le_refl _, Nat.le_refl _⟩
        · cases h
