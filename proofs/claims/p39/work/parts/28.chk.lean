/-! ===== printed by gen.py: the tables are checked, all ===== -/
theorem x_mAll (k : Nat) (hk : k < 328) : x_okM k := by
  by_cases h0 : k < 40
  · exact x_mA_0 k (by omega) h0
  by_cases h1 : k < 81
  · exact x_mA_1 k (by omega) h1
  by_cases h2 : k < 133
  · exact x_mA_2 k (by omega) h2
  by_cases h3 : k < 192
  · exact x_mA_3 k (by omega) h3
  by_cases h4 : k < 231
  · exact x_mA_4 k (by omega) h4
  by_cases h5 : k < 276
  · exact x_mA_5 k (by omega) h5
  by_cases h6 : k < 307
  · exact x_mA_6 k (by omega) h6
  by_cases h7 : k < 328
  · exact x_mA_7 k (by omega) h7
  omega
theorem x_tabsLen : x_tabs.length = 329 := by decide +kernel
theorem x_cAll (k : Nat) (hk : k < 329) : x_chkT (x_y k) (x_b k) (x_tab k) = true := by
  by_cases h0 : k < 40
  · exact x_cA_0 k (by omega) h0
  by_cases h1 : k < 81
  · exact x_cA_1 k (by omega) h1
  by_cases h2 : k < 133
  · exact x_cA_2 k (by omega) h2
  by_cases h3 : k < 192
  · exact x_cA_3 k (by omega) h3
  by_cases h4 : k < 231
  · exact x_cA_4 k (by omega) h4
  by_cases h5 : k < 276
  · exact x_cA_5 k (by omega) h5
  by_cases h6 : k < 307
  · exact x_cA_6 k (by omega) h6
  by_cases h7 : k < 329
  · exact x_cA_7 k (by omega) h7
  omega
theorem x_lookup_mem {α β : Type} [BEq α] [LawfulBEq α] : ∀ {l : List (α × β)} {a : α} {b : β}, l.lookup a = some b → (a, b) ∈ l
  | (c, d) :: l, a, b, h => by
    rw [List.lookup_cons] at h
    split at h
    next heq => cases h; rw [eq_of_beq heq]; exact List.mem_cons_self
    next => exact List.mem_cons_of_mem _ (x_lookup_mem h)
theorem x_CHK_ok : x_CHK := by
  refine ⟨fun mi pc row h => ?_, fun mi hmi => x_mAll mi hmi⟩
  have hm := x_lookup_mem h
  have hk : mi < 329 := by
    rcases Nat.lt_or_ge mi 329 with q | q
    · exact q
    · exfalso
      unfold x_tab at hm
      rw [List.getElem?_eq_none (by rw [x_tabsLen]; exact q)] at hm
      simp at hm
  exact List.all_eq_true.mp (x_cAll mi hk) (pc, row) hm
