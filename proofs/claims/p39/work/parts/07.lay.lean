/-! ===== printed by gen.py: classes by number ===== -/
noncomputable def x_gw0 : List Cond := lw_tbl.filter goodWord
theorem x_lay_0 : (decide (([0, 2, 4, 6, 8, 10, 12] : List Nat).filterMap (fun i => (lw_tbl.drop 348)[i]?) = u_ws RX0 TX0 7) && (u_ws RX0 TX0 7).all goodWord) = true := by decide +kernel
theorem x_fp_0 : ∀ k, k < 7 → parseFieldDescriptor (TX0 k).2.2.1 = some ((x_fty 0).getD k .int) := by decide +kernel
theorem x_nf_0 : (x_fty 0).all (fun t => decide (t ≠ .float) && decide (t ≠ .double)) = true := by decide +kernel
theorem x_lay_1 : (decide (([0, 2, 4, 6, 8, 10, 12, 14, 16, 18, 20, 22] : List Nat).filterMap (fun i => (lw_tbl.drop 389)[i]?) = u_ws RX1 TX1 12) && (u_ws RX1 TX1 12).all goodWord) = true := by decide +kernel
theorem x_fp_1 : ∀ k, k < 12 → parseFieldDescriptor (TX1 k).2.2.1 = some ((x_fty 1).getD k .int) := by decide +kernel
theorem x_nf_1 : (x_fty 1).all (fun t => decide (t ≠ .float) && decide (t ≠ .double)) = true := by decide +kernel
theorem x_lay_2 : (decide (([0, 2, 4, 6, 8, 10, 12, 14, 16, 18, 20, 22, 24, 26, 28, 30, 32] : List Nat).filterMap (fun i => (lw_tbl.drop 443)[i]?) = u_ws RX2 TX2 17) && (u_ws RX2 TX2 17).all goodWord) = true := by decide +kernel
theorem x_fp_2 : ∀ k, k < 17 → parseFieldDescriptor (TX2 k).2.2.1 = some ((x_fty 2).getD k .int) := by decide +kernel
theorem x_nf_2 : (x_fty 2).all (fun t => decide (t ≠ .float) && decide (t ≠ .double)) = true := by decide +kernel
theorem x_lay_3 : (decide (([0, 2, 4, 6, 8, 10] : List Nat).filterMap (fun i => (lw_tbl.drop 254)[i]?) = u_ws RX4 TX4 6) && (u_ws RX4 TX4 6).all goodWord) = true := by decide +kernel
theorem x_fp_3 : ∀ k, k < 6 → parseFieldDescriptor (TX4 k).2.2.1 = some ((x_fty 3).getD k .int) := by decide +kernel
theorem x_nf_3 : (x_fty 3).all (fun t => decide (t ≠ .float) && decide (t ≠ .double)) = true := by decide +kernel
theorem x_lay_4 : (decide (([0, 2, 4, 6, 8, 10, 12, 14, 16, 18] : List Nat).filterMap (fun i => (lw_tbl.drop 306)[i]?) = u_ws RX5 TX5 10) && (u_ws RX5 TX5 10).all goodWord) = true := by decide +kernel
theorem x_fp_4 : ∀ k, k < 10 → parseFieldDescriptor (TX5 k).2.2.1 = some ((x_fty 4).getD k .int) := by decide +kernel
theorem x_nf_4 : (x_fty 4).all (fun t => decide (t ≠ .float) && decide (t ≠ .double)) = true := by decide +kernel
theorem x_lay_5 : (decide (([0, 2, 4, 6, 8, 10, 12, 14] : List Nat).filterMap (fun i => (lw_tbl.drop 724)[i]?) = u_ws RX6 TX6 8) && (u_ws RX6 TX6 8).all goodWord) = true := by decide +kernel
theorem x_fp_5 : ∀ k, k < 8 → parseFieldDescriptor (TX6 k).2.2.1 = some ((x_fty 5).getD k .int) := by decide +kernel
theorem x_nf_5 : (x_fty 5).all (fun t => decide (t ≠ .float) && decide (t ≠ .double)) = true := by decide +kernel
theorem x_lay_6 : (decide (([0, 2, 4, 6, 8, 10, 12] : List Nat).filterMap (fun i => (lw_tbl.drop 878)[i]?) = u_ws RX7 TX7 7) && (u_ws RX7 TX7 7).all goodWord) = true := by decide +kernel
theorem x_fp_6 : ∀ k, k < 7 → parseFieldDescriptor (TX7 k).2.2.1 = some ((x_fty 6).getD k .int) := by decide +kernel
theorem x_nf_6 : (x_fty 6).all (fun t => decide (t ≠ .float) && decide (t ≠ .double)) = true := by decide +kernel
theorem x_lay_7 : (decide (([0, 2, 4] : List Nat).filterMap (fun i => (lw_tbl.drop 902)[i]?) = u_ws RX8 TX8 3) && (u_ws RX8 TX8 3).all goodWord) = true := by decide +kernel
theorem x_fp_7 : ∀ k, k < 3 → parseFieldDescriptor (TX8 k).2.2.1 = some ((x_fty 7).getD k .int) := by decide +kernel
theorem x_nf_7 : (x_fty 7).all (fun t => decide (t ≠ .float) && decide (t ≠ .double)) = true := by decide +kernel
theorem x_lay_8 : (decide (([0, 2, 4, 6, 8, 10, 12, 14, 16, 18, 20, 22] : List Nat).filterMap (fun i => (lw_tbl.drop 683)[i]?) = u_ws RX9 TX9 12) && (u_ws RX9 TX9 12).all goodWord) = true := by decide +kernel
theorem x_fp_8 : ∀ k, k < 12 → parseFieldDescriptor (TX9 k).2.2.1 = some ((x_fty 8).getD k .int) := by decide +kernel
theorem x_nf_8 : (x_fty 8).all (fun t => decide (t ≠ .float) && decide (t ≠ .double)) = true := by decide +kernel
theorem x_lay_9 : (decide (([0, 2, 4] : List Nat).filterMap (fun i => (lw_tbl.drop 488)[i]?) = u_ws RX10 TX10 3) && (u_ws RX10 TX10 3).all goodWord) = true := by decide +kernel
theorem x_fp_9 : ∀ k, k < 3 → parseFieldDescriptor (TX10 k).2.2.1 = some ((x_fty 9).getD k .int) := by decide +kernel
theorem x_nf_9 : (x_fty 9).all (fun t => decide (t ≠ .float) && decide (t ≠ .double)) = true := by decide +kernel
theorem x_lay_10 : (decide (([0, 2, 4, 6, 8, 10, 12, 14, 16, 18, 20, 22, 24, 26, 28, 30, 32, 34] : List Nat).filterMap (fun i => (lw_tbl.drop 513)[i]?) = u_ws RX11 TX11 18) && (u_ws RX11 TX11 18).all goodWord) = true := by decide +kernel
theorem x_fp_10 : ∀ k, k < 18 → parseFieldDescriptor (TX11 k).2.2.1 = some ((x_fty 10).getD k .int) := by decide +kernel
theorem x_nf_10 : (x_fty 10).all (fun t => decide (t ≠ .float) && decide (t ≠ .double)) = true := by decide +kernel
theorem x_lay_11 : (decide (([0, 2, 4, 6, 8, 10, 12, 14, 16, 18, 20, 22, 24, 26, 28, 30, 32, 34, 36, 38, 40, 42, 44, 46, 48, 50, 52, 54, 56, 58, 60, 62, 64, 66, 68, 70, 72, 74, 76, 78, 80, 82, 84, 86, 88, 90, 92, 94, 96, 98, 100, 102, 104, 106, 108, 110, 112, 114, 116, 118, 120, 122, 124, 126, 128, 130, 132, 134, 136, 138, 140, 142, 144, 146, 148, 150] : List Nat).filterMap (fun i => (lw_tbl.drop 1516)[i]?) = u_ws RX12 TX12 76) && (u_ws RX12 TX12 76).all goodWord) = true := by decide +kernel
theorem x_fp_11 : ∀ k, k < 76 → parseFieldDescriptor (TX12 k).2.2.1 = some ((x_fty 11).getD k .int) := by decide +kernel
theorem x_nf_11 : (x_fty 11).all (fun t => decide (t ≠ .float) && decide (t ≠ .double)) = true := by decide +kernel
theorem x_lay_of {c : Nat} {l : List Nat} {ws : List Cond} (h : (decide (l.filterMap (fun i => (lw_tbl.drop c)[i]?) = ws) && ws.all goodWord) = true) : ∀ w ∈ ws, w ∈ x_gw0 := by
  rw [Bool.and_eq_true, decide_eq_true_eq] at h
  intro w hw
  refine List.mem_filter.mpr ⟨?_, List.all_eq_true.mp h.2 w hw⟩
  rw [← h.1] at hw
  obtain ⟨i, -, hi⟩ := List.mem_filterMap.mp hw
  exact List.mem_of_mem_drop (List.mem_of_getElem? hi)
noncomputable def x_CI0 (ci : Nat) (C : String) (T : u_T) (N : Nat) : Prop := vwCl[ci]? = some (C, T, N) ∧ (x_fty ci).length = N ∧ (∀ k, k < N → parseFieldDescriptor (T k).2.2.1 = some ((x_fty ci).getD k .int)) ∧ (∀ a, a < N → ∀ b, b < N → a ≠ b → (T a).2.1 ≠ (T b).2.1) ∧ ∀ w ∈ u_ws C T N, w ∈ x_gw0
theorem x_ci0 (a : Nat) (C : String) (T : u_T) (N : Nat) (h : vwCl[a]? = some (C, T, N)) : x_CI0 a C T N ∧ ((x_fty a).all (fun t => decide (t ≠ .float) && decide (t ≠ .double)) = true) ∧ a < 12 := by
  match a, h with
  | 0, h => cases h; exact ⟨⟨rfl, rfl, x_fp_0, nmX0, x_lay_of x_lay_0⟩, x_nf_0, by omega⟩
  | 1, h => cases h; exact ⟨⟨rfl, rfl, x_fp_1, nmX1, x_lay_of x_lay_1⟩, x_nf_1, by omega⟩
  | 2, h => cases h; exact ⟨⟨rfl, rfl, x_fp_2, nmX2, x_lay_of x_lay_2⟩, x_nf_2, by omega⟩
  | 3, h => cases h; exact ⟨⟨rfl, rfl, x_fp_3, nmX4, x_lay_of x_lay_3⟩, x_nf_3, by omega⟩
  | 4, h => cases h; exact ⟨⟨rfl, rfl, x_fp_4, nmX5, x_lay_of x_lay_4⟩, x_nf_4, by omega⟩
  | 5, h => cases h; exact ⟨⟨rfl, rfl, x_fp_5, nmX6, x_lay_of x_lay_5⟩, x_nf_5, by omega⟩
  | 6, h => cases h; exact ⟨⟨rfl, rfl, x_fp_6, nmX7, x_lay_of x_lay_6⟩, x_nf_6, by omega⟩
  | 7, h => cases h; exact ⟨⟨rfl, rfl, x_fp_7, nmX8, x_lay_of x_lay_7⟩, x_nf_7, by omega⟩
  | 8, h => cases h; exact ⟨⟨rfl, rfl, x_fp_8, nmX9, x_lay_of x_lay_8⟩, x_nf_8, by omega⟩
  | 9, h => cases h; exact ⟨⟨rfl, rfl, x_fp_9, nmX10, x_lay_of x_lay_9⟩, x_nf_9, by omega⟩
  | 10, h => cases h; exact ⟨⟨rfl, rfl, x_fp_10, nmX11, x_lay_of x_lay_10⟩, x_nf_10, by omega⟩
  | 11, h => cases h; exact ⟨⟨rfl, rfl, x_fp_11, nmX12, x_lay_of x_lay_11⟩, x_nf_11, by omega⟩
  | a + 12, h => exact absurd h (by simp [vwCl])
