/-! ===== printed by gen90.py: the goal ===== -/
theorem so_63 (x : Int32) : ∃ k : Nat, k < 64 ∧ x &&& 63 = nI k := by
  refine ⟨(x &&& 63).toBitVec.toNat, ?_, ?_⟩
  · have h : (x &&& 63).toBitVec = x.toBitVec &&& (63 : Int32).toBitVec := Int32.toBitVec_and x 63
    rw [h, BitVec.toNat_and]
    exact Nat.lt_of_le_of_lt Nat.and_le_right (by decide)
  · apply Int32.toBitVec_inj.mp
    show (x &&& 63).toBitVec = (Int32.ofNat (x &&& 63).toBitVec.toNat).toBitVec
    rw [Int32.toBitVec_ofNat']
    simp
theorem so_eq {x : Int32} {n : Int} {c : Int32} (hc : c.toInt = n) (h : x.toInt = n) : x = c := Int32.toInt_inj.mp (by rw [h, hc])
section XG
variable {X : x_Ext} {sh : List (Nat ⊕ (Nat × Nat))} {gi : Nat → Nat → Int32} {gl : Nat → Nat → Int64} {gr : Nat → Nat → Value}
theorem pq_11 (hR : x_R W1 (sh, gi, gl, gr)) (hX : X.1 = 6) : x_Ev X 1000 n_L_law 630 [(3, .int 0), (2, .ref 69), (1, .ref 0), (0, .retAddr 30)] [] (sh, gi, gl, gr) x_P1 := by
  have l1 : -2147483648 ≤ (X.2 1).toInt := Int32.le_toInt _
  have u1 : (X.2 1).toInt ≤ 2147483647 := by have := Int32.toInt_lt (X.2 1); omega
  have h : (X.2 1).toInt ≤ -1 ∨ (X.2 1).toInt = 0 ∨ (X.2 1).toInt = 1 ∨ (X.2 1).toInt = 2 ∨ (X.2 1).toInt = 3 ∨ (X.2 1).toInt = 4 ∨ (X.2 1).toInt = 5 ∨ (X.2 1).toInt = 6 ∨ (X.2 1).toInt = 7 ∨ 8 ≤ (X.2 1).toInt := by omega
  rcases h with h | h | h | h | h | h | h | h | h | h
  · exact pc_11_l hR hX l1 h
  · exact pc_11_0 hR hX (so_eq (by decide) h)
  · exact pc_11_1 hR hX (so_eq (by decide) h)
  · exact pc_11_2 hR hX (so_eq (by decide) h)
  · exact pc_11_3 hR hX (so_eq (by decide) h)
  · exact pc_11_4 hR hX (so_eq (by decide) h)
  · exact pc_11_5 hR hX (so_eq (by decide) h)
  · exact pc_11_6 hR hX (so_eq (by decide) h)
  · exact pc_11_7 hR hX (so_eq (by decide) h)
  · exact pc_11_h hR hX h u1
theorem pq_8 (hR : x_R W1 (sh, gi, gl, gr)) (hX : X.1 = 6) : x_Ev X 1000 n_L_law 561 [(3, .int 0), (2, .ref 69), (1, .ref 0), (0, .retAddr 30)] [] (sh, gi, gl, gr) x_P1 := by
  have l1 : -2147483648 ≤ (X.2 1).toInt := Int32.le_toInt _
  have u1 : (X.2 1).toInt ≤ 2147483647 := by have := Int32.toInt_lt (X.2 1); omega
  have h : (X.2 1).toInt ≤ -1 ∨ (X.2 1).toInt = 0 ∨ 1 ≤ (X.2 1).toInt := by omega
  rcases h with h | h | h
  · exact pc_8_l hR hX l1 h
  · have e : X.2 1 = 0 := so_eq (by decide) h
    exact pc_8 hR hX (by rw [e]; exact cl_8)
  · exact pc_8_h hR hX h u1
theorem pq_9 (hR : x_R W1 (sh, gi, gl, gr)) (hX : X.1 = 6) : x_Ev X 1000 n_L_law 584 [(3, .int 0), (2, .ref 69), (1, .ref 0), (0, .retAddr 30)] [] (sh, gi, gl, gr) x_P1 := by
  have l1 : -2147483648 ≤ (X.2 1).toInt := Int32.le_toInt _
  have u1 : (X.2 1).toInt ≤ 2147483647 := by have := Int32.toInt_lt (X.2 1); omega
  have h : (X.2 1).toInt ≤ -1 ∨ (X.2 1).toInt = 0 ∨ 1 ≤ (X.2 1).toInt := by omega
  rcases h with h | h | h
  · exact pc_9_l hR hX l1 h
  · have e : X.2 1 = 0 := so_eq (by decide) h
    exact pc_9 hR hX (by rw [e]; exact cl_9)
  · exact pc_9_h hR hX h u1
theorem pq_3 (hR : x_R W1 (sh, gi, gl, gr)) (hX : X.1 = 6) : x_Ev X 1000 n_L_law 285 [(3, .int 0), (2, .ref 69), (1, .ref 0), (0, .retAddr 30)] [] (sh, gi, gl, gr) x_P1 := by
  have l1 : -2147483648 ≤ (X.2 1).toInt := Int32.le_toInt _
  have u1 : (X.2 1).toInt ≤ 2147483647 := by have := Int32.toInt_lt (X.2 1); omega
  have h : (X.2 1).toInt ≤ -1 ∨ (X.2 1).toInt = 0 ∨ (X.2 1).toInt = 1 ∨ (X.2 1).toInt = 2 ∨ (X.2 1).toInt = 3 ∨ 4 ≤ (X.2 1).toInt := by omega
  rcases h with h | h | h | h | h | h
  · exact pc_3_l hR hX l1 h
  · exact pc_3_0 hR hX (so_eq (by decide) h)
  · exact pc_3_1 hR hX (so_eq (by decide) h)
  · exact pc_3_2 hR hX (so_eq (by decide) h)
  · exact pc_3_3 hR hX (so_eq (by decide) h)
  · exact pc_3_h hR hX h u1
theorem pq_4 (hR : x_R W1 (sh, gi, gl, gr)) (hX : X.1 = 6) : x_Ev X 1000 n_L_law 328 [(3, .int 0), (2, .ref 69), (1, .ref 0), (0, .retAddr 30)] [] (sh, gi, gl, gr) x_P1 := by
  have l1 : -2147483648 ≤ (X.2 1).toInt := Int32.le_toInt _
  have u1 : (X.2 1).toInt ≤ 2147483647 := by have := Int32.toInt_lt (X.2 1); omega
  have h : (X.2 1).toInt ≤ -1 ∨ (X.2 1).toInt = 0 ∨ (X.2 1).toInt = 1 ∨ (X.2 1).toInt = 2 ∨ (X.2 1).toInt = 3 ∨ 4 ≤ (X.2 1).toInt := by omega
  rcases h with h | h | h | h | h | h
  · exact pc_4_l hR hX l1 h
  · exact pc_4_0 hR hX (so_eq (by decide) h)
  · exact pc_4_1 hR hX (so_eq (by decide) h)
  · exact pc_4_2 hR hX (so_eq (by decide) h)
  · exact pc_4_3 hR hX (so_eq (by decide) h)
  · exact pc_4_h hR hX h u1
theorem pq_5 (hR : x_R W1 (sh, gi, gl, gr)) (hX : X.1 = 6) : x_Ev X 1000 n_L_law 401 [(3, .int 0), (2, .ref 69), (1, .ref 0), (0, .retAddr 30)] [] (sh, gi, gl, gr) x_P1 := by
  have l1 : -2147483648 ≤ (X.2 1).toInt := Int32.le_toInt _
  have u1 : (X.2 1).toInt ≤ 2147483647 := by have := Int32.toInt_lt (X.2 1); omega
  have h : (X.2 1).toInt ≤ -1 ∨ (X.2 1).toInt = 0 ∨ (X.2 1).toInt = 1 ∨ (X.2 1).toInt = 2 ∨ (X.2 1).toInt = 3 ∨ 4 ≤ (X.2 1).toInt := by omega
  rcases h with h | h | h | h | h | h
  · exact pc_5_l hR hX l1 h
  · exact pc_5_0 hR hX (so_eq (by decide) h)
  · exact pc_5_1 hR hX (so_eq (by decide) h)
  · exact pc_5_2 hR hX (so_eq (by decide) h)
  · exact pc_5_3 hR hX (so_eq (by decide) h)
  · exact pc_5_h hR hX h u1
theorem pq_6 (hR : x_R W1 (sh, gi, gl, gr)) (hX : X.1 = 6) : x_Ev X 1000 n_L_law 435 [(3, .int 0), (2, .ref 69), (1, .ref 0), (0, .retAddr 30)] [] (sh, gi, gl, gr) x_P1 := by
  have l1 : -2147483648 ≤ (X.2 1).toInt := Int32.le_toInt _
  have u1 : (X.2 1).toInt ≤ 2147483647 := by have := Int32.toInt_lt (X.2 1); omega
  have l3 : -2147483648 ≤ (X.2 3).toInt := Int32.le_toInt _
  have u3 : (X.2 3).toInt ≤ 2147483647 := by have := Int32.toInt_lt (X.2 3); omega
  have h : (X.2 1).toInt ≤ -1 ∨ (X.2 1).toInt = 0 ∨ (X.2 1).toInt = 1 ∨ (X.2 1).toInt = 2 ∨ (X.2 1).toInt = 3 ∨ 4 ≤ (X.2 1).toInt := by omega
  have g : (X.2 3).toInt ≤ -1 ∨ (X.2 3).toInt = 0 ∨ (X.2 3).toInt = 1 ∨ (X.2 3).toInt = 2 ∨ (X.2 3).toInt = 3 ∨ 4 ≤ (X.2 3).toInt := by omega
  rcases h with h | h | h | h | h | h
  · exact pc_6_l hR hX l1 h
  · have e := so_eq (c := 0) (by decide) h
    rcases g with g | g | g | g | g | g
    · exact pc_6_0_l hR hX e l3 g
    · exact pc_6_0_0 hR hX e (so_eq (by decide) g)
    · exact pc_6_0_1 hR hX e (so_eq (by decide) g)
    · exact pc_6_0_2 hR hX e (so_eq (by decide) g)
    · exact pc_6_0_3 hR hX e (so_eq (by decide) g)
    · exact pc_6_0_h hR hX e g u3
  · have e := so_eq (c := 1) (by decide) h
    rcases g with g | g | g | g | g | g
    · exact pc_6_1_l hR hX e l3 g
    · exact pc_6_1_0 hR hX e (so_eq (by decide) g)
    · exact pc_6_1_1 hR hX e (so_eq (by decide) g)
    · exact pc_6_1_2 hR hX e (so_eq (by decide) g)
    · exact pc_6_1_3 hR hX e (so_eq (by decide) g)
    · exact pc_6_1_h hR hX e g u3
  · have e := so_eq (c := 2) (by decide) h
    rcases g with g | g | g | g | g | g
    · exact pc_6_2_l hR hX e l3 g
    · exact pc_6_2_0 hR hX e (so_eq (by decide) g)
    · exact pc_6_2_1 hR hX e (so_eq (by decide) g)
    · exact pc_6_2_2 hR hX e (so_eq (by decide) g)
    · exact pc_6_2_3 hR hX e (so_eq (by decide) g)
    · exact pc_6_2_h hR hX e g u3
  · have e := so_eq (c := 3) (by decide) h
    rcases g with g | g | g | g | g | g
    · exact pc_6_3_l hR hX e l3 g
    · exact pc_6_3_0 hR hX e (so_eq (by decide) g)
    · exact pc_6_3_1 hR hX e (so_eq (by decide) g)
    · exact pc_6_3_2 hR hX e (so_eq (by decide) g)
    · exact pc_6_3_3 hR hX e (so_eq (by decide) g)
    · exact pc_6_3_h hR hX e g u3
  · exact pc_6_h hR hX h u1
theorem pq_25 (hR : x_R W1 (sh, gi, gl, gr)) (hX : X.1 = 6) : x_Ev X 1000 n_L_law 1075 [(3, .int 0), (2, .ref 69), (1, .ref 0), (0, .retAddr 30)] [] (sh, gi, gl, gr) x_P1 := by
  by_cases hv : (X.2 1).toInt < 1 ∨ 4 < (X.2 1).toInt ∨ (X.2 2).toInt < 1 ∨ 4 < (X.2 2).toInt ∨ (X.2 3).toInt < 0 ∨ 9 < (X.2 3).toInt
  · exact pc_25_x hR hX hv
  have h1 : (X.2 1).toInt = 1 ∨ (X.2 1).toInt = 2 ∨ (X.2 1).toInt = 3 ∨ (X.2 1).toInt = 4 := by omega
  have h2 : (X.2 2).toInt = 1 ∨ (X.2 2).toInt = 2 ∨ (X.2 2).toInt = 3 ∨ (X.2 2).toInt = 4 := by omega
  have h3 : (X.2 3).toInt = 0 ∨ (X.2 3).toInt = 1 ∨ (X.2 3).toInt = 2 ∨ (X.2 3).toInt = 3 ∨ (X.2 3).toInt = 4 ∨ (X.2 3).toInt = 5 ∨ (X.2 3).toInt = 6 ∨ (X.2 3).toInt = 7 ∨ (X.2 3).toInt = 8 ∨ (X.2 3).toInt = 9 := by omega
  refine pc_25 hR hX ?_
  rcases h1 with h1 | h1 | h1 | h1 <;> rcases h2 with h2 | h2 | h2 | h2 <;> rcases h3 with h3 | h3 | h3 | h3 | h3 | h3 | h3 | h3 | h3 | h3
  · rw [so_eq (c := 1) (by decide) h1, so_eq (c := 1) (by decide) h2, so_eq (c := 0) (by decide) h3]; exact cd_1_1_0
  · rw [so_eq (c := 1) (by decide) h1, so_eq (c := 1) (by decide) h2, so_eq (c := 1) (by decide) h3]; exact cd_1_1_1
  · rw [so_eq (c := 1) (by decide) h1, so_eq (c := 1) (by decide) h2, so_eq (c := 2) (by decide) h3]; exact cd_1_1_2
  · rw [so_eq (c := 1) (by decide) h1, so_eq (c := 1) (by decide) h2, so_eq (c := 3) (by decide) h3]; exact cd_1_1_3
  · rw [so_eq (c := 1) (by decide) h1, so_eq (c := 1) (by decide) h2, so_eq (c := 4) (by decide) h3]; exact cd_1_1_4
  · rw [so_eq (c := 1) (by decide) h1, so_eq (c := 1) (by decide) h2, so_eq (c := 5) (by decide) h3]; exact cd_1_1_5
  · rw [so_eq (c := 1) (by decide) h1, so_eq (c := 1) (by decide) h2, so_eq (c := 6) (by decide) h3]; exact cd_1_1_6
  · rw [so_eq (c := 1) (by decide) h1, so_eq (c := 1) (by decide) h2, so_eq (c := 7) (by decide) h3]; exact cd_1_1_7
  · rw [so_eq (c := 1) (by decide) h1, so_eq (c := 1) (by decide) h2, so_eq (c := 8) (by decide) h3]; exact cd_1_1_8
  · rw [so_eq (c := 1) (by decide) h1, so_eq (c := 1) (by decide) h2, so_eq (c := 9) (by decide) h3]; exact cd_1_1_9
  · rw [so_eq (c := 1) (by decide) h1, so_eq (c := 2) (by decide) h2, so_eq (c := 0) (by decide) h3]; exact cd_1_2_0
  · rw [so_eq (c := 1) (by decide) h1, so_eq (c := 2) (by decide) h2, so_eq (c := 1) (by decide) h3]; exact cd_1_2_1
  · rw [so_eq (c := 1) (by decide) h1, so_eq (c := 2) (by decide) h2, so_eq (c := 2) (by decide) h3]; exact cd_1_2_2
  · rw [so_eq (c := 1) (by decide) h1, so_eq (c := 2) (by decide) h2, so_eq (c := 3) (by decide) h3]; exact cd_1_2_3
  · rw [so_eq (c := 1) (by decide) h1, so_eq (c := 2) (by decide) h2, so_eq (c := 4) (by decide) h3]; exact cd_1_2_4
  · rw [so_eq (c := 1) (by decide) h1, so_eq (c := 2) (by decide) h2, so_eq (c := 5) (by decide) h3]; exact cd_1_2_5
  · rw [so_eq (c := 1) (by decide) h1, so_eq (c := 2) (by decide) h2, so_eq (c := 6) (by decide) h3]; exact cd_1_2_6
  · rw [so_eq (c := 1) (by decide) h1, so_eq (c := 2) (by decide) h2, so_eq (c := 7) (by decide) h3]; exact cd_1_2_7
  · rw [so_eq (c := 1) (by decide) h1, so_eq (c := 2) (by decide) h2, so_eq (c := 8) (by decide) h3]; exact cd_1_2_8
  · rw [so_eq (c := 1) (by decide) h1, so_eq (c := 2) (by decide) h2, so_eq (c := 9) (by decide) h3]; exact cd_1_2_9
  · rw [so_eq (c := 1) (by decide) h1, so_eq (c := 3) (by decide) h2, so_eq (c := 0) (by decide) h3]; exact cd_1_3_0
  · rw [so_eq (c := 1) (by decide) h1, so_eq (c := 3) (by decide) h2, so_eq (c := 1) (by decide) h3]; exact cd_1_3_1
  · rw [so_eq (c := 1) (by decide) h1, so_eq (c := 3) (by decide) h2, so_eq (c := 2) (by decide) h3]; exact cd_1_3_2
  · rw [so_eq (c := 1) (by decide) h1, so_eq (c := 3) (by decide) h2, so_eq (c := 3) (by decide) h3]; exact cd_1_3_3
  · rw [so_eq (c := 1) (by decide) h1, so_eq (c := 3) (by decide) h2, so_eq (c := 4) (by decide) h3]; exact cd_1_3_4
  · rw [so_eq (c := 1) (by decide) h1, so_eq (c := 3) (by decide) h2, so_eq (c := 5) (by decide) h3]; exact cd_1_3_5
  · rw [so_eq (c := 1) (by decide) h1, so_eq (c := 3) (by decide) h2, so_eq (c := 6) (by decide) h3]; exact cd_1_3_6
  · rw [so_eq (c := 1) (by decide) h1, so_eq (c := 3) (by decide) h2, so_eq (c := 7) (by decide) h3]; exact cd_1_3_7
  · rw [so_eq (c := 1) (by decide) h1, so_eq (c := 3) (by decide) h2, so_eq (c := 8) (by decide) h3]; exact cd_1_3_8
  · rw [so_eq (c := 1) (by decide) h1, so_eq (c := 3) (by decide) h2, so_eq (c := 9) (by decide) h3]; exact cd_1_3_9
  · rw [so_eq (c := 1) (by decide) h1, so_eq (c := 4) (by decide) h2, so_eq (c := 0) (by decide) h3]; exact cd_1_4_0
  · rw [so_eq (c := 1) (by decide) h1, so_eq (c := 4) (by decide) h2, so_eq (c := 1) (by decide) h3]; exact cd_1_4_1
  · rw [so_eq (c := 1) (by decide) h1, so_eq (c := 4) (by decide) h2, so_eq (c := 2) (by decide) h3]; exact cd_1_4_2
  · rw [so_eq (c := 1) (by decide) h1, so_eq (c := 4) (by decide) h2, so_eq (c := 3) (by decide) h3]; exact cd_1_4_3
  · rw [so_eq (c := 1) (by decide) h1, so_eq (c := 4) (by decide) h2, so_eq (c := 4) (by decide) h3]; exact cd_1_4_4
  · rw [so_eq (c := 1) (by decide) h1, so_eq (c := 4) (by decide) h2, so_eq (c := 5) (by decide) h3]; exact cd_1_4_5
  · rw [so_eq (c := 1) (by decide) h1, so_eq (c := 4) (by decide) h2, so_eq (c := 6) (by decide) h3]; exact cd_1_4_6
  · rw [so_eq (c := 1) (by decide) h1, so_eq (c := 4) (by decide) h2, so_eq (c := 7) (by decide) h3]; exact cd_1_4_7
  · rw [so_eq (c := 1) (by decide) h1, so_eq (c := 4) (by decide) h2, so_eq (c := 8) (by decide) h3]; exact cd_1_4_8
  · rw [so_eq (c := 1) (by decide) h1, so_eq (c := 4) (by decide) h2, so_eq (c := 9) (by decide) h3]; exact cd_1_4_9
  · rw [so_eq (c := 2) (by decide) h1, so_eq (c := 1) (by decide) h2, so_eq (c := 0) (by decide) h3]; exact cd_2_1_0
  · rw [so_eq (c := 2) (by decide) h1, so_eq (c := 1) (by decide) h2, so_eq (c := 1) (by decide) h3]; exact cd_2_1_1
  · rw [so_eq (c := 2) (by decide) h1, so_eq (c := 1) (by decide) h2, so_eq (c := 2) (by decide) h3]; exact cd_2_1_2
  · rw [so_eq (c := 2) (by decide) h1, so_eq (c := 1) (by decide) h2, so_eq (c := 3) (by decide) h3]; exact cd_2_1_3
  · rw [so_eq (c := 2) (by decide) h1, so_eq (c := 1) (by decide) h2, so_eq (c := 4) (by decide) h3]; exact cd_2_1_4
  · rw [so_eq (c := 2) (by decide) h1, so_eq (c := 1) (by decide) h2, so_eq (c := 5) (by decide) h3]; exact cd_2_1_5
  · rw [so_eq (c := 2) (by decide) h1, so_eq (c := 1) (by decide) h2, so_eq (c := 6) (by decide) h3]; exact cd_2_1_6
  · rw [so_eq (c := 2) (by decide) h1, so_eq (c := 1) (by decide) h2, so_eq (c := 7) (by decide) h3]; exact cd_2_1_7
  · rw [so_eq (c := 2) (by decide) h1, so_eq (c := 1) (by decide) h2, so_eq (c := 8) (by decide) h3]; exact cd_2_1_8
  · rw [so_eq (c := 2) (by decide) h1, so_eq (c := 1) (by decide) h2, so_eq (c := 9) (by decide) h3]; exact cd_2_1_9
  · rw [so_eq (c := 2) (by decide) h1, so_eq (c := 2) (by decide) h2, so_eq (c := 0) (by decide) h3]; exact cd_2_2_0
  · rw [so_eq (c := 2) (by decide) h1, so_eq (c := 2) (by decide) h2, so_eq (c := 1) (by decide) h3]; exact cd_2_2_1
  · rw [so_eq (c := 2) (by decide) h1, so_eq (c := 2) (by decide) h2, so_eq (c := 2) (by decide) h3]; exact cd_2_2_2
  · rw [so_eq (c := 2) (by decide) h1, so_eq (c := 2) (by decide) h2, so_eq (c := 3) (by decide) h3]; exact cd_2_2_3
  · rw [so_eq (c := 2) (by decide) h1, so_eq (c := 2) (by decide) h2, so_eq (c := 4) (by decide) h3]; exact cd_2_2_4
  · rw [so_eq (c := 2) (by decide) h1, so_eq (c := 2) (by decide) h2, so_eq (c := 5) (by decide) h3]; exact cd_2_2_5
  · rw [so_eq (c := 2) (by decide) h1, so_eq (c := 2) (by decide) h2, so_eq (c := 6) (by decide) h3]; exact cd_2_2_6
  · rw [so_eq (c := 2) (by decide) h1, so_eq (c := 2) (by decide) h2, so_eq (c := 7) (by decide) h3]; exact cd_2_2_7
  · rw [so_eq (c := 2) (by decide) h1, so_eq (c := 2) (by decide) h2, so_eq (c := 8) (by decide) h3]; exact cd_2_2_8
  · rw [so_eq (c := 2) (by decide) h1, so_eq (c := 2) (by decide) h2, so_eq (c := 9) (by decide) h3]; exact cd_2_2_9
  · rw [so_eq (c := 2) (by decide) h1, so_eq (c := 3) (by decide) h2, so_eq (c := 0) (by decide) h3]; exact cd_2_3_0
  · rw [so_eq (c := 2) (by decide) h1, so_eq (c := 3) (by decide) h2, so_eq (c := 1) (by decide) h3]; exact cd_2_3_1
  · rw [so_eq (c := 2) (by decide) h1, so_eq (c := 3) (by decide) h2, so_eq (c := 2) (by decide) h3]; exact cd_2_3_2
  · rw [so_eq (c := 2) (by decide) h1, so_eq (c := 3) (by decide) h2, so_eq (c := 3) (by decide) h3]; exact cd_2_3_3
  · rw [so_eq (c := 2) (by decide) h1, so_eq (c := 3) (by decide) h2, so_eq (c := 4) (by decide) h3]; exact cd_2_3_4
  · rw [so_eq (c := 2) (by decide) h1, so_eq (c := 3) (by decide) h2, so_eq (c := 5) (by decide) h3]; exact cd_2_3_5
  · rw [so_eq (c := 2) (by decide) h1, so_eq (c := 3) (by decide) h2, so_eq (c := 6) (by decide) h3]; exact cd_2_3_6
  · rw [so_eq (c := 2) (by decide) h1, so_eq (c := 3) (by decide) h2, so_eq (c := 7) (by decide) h3]; exact cd_2_3_7
  · rw [so_eq (c := 2) (by decide) h1, so_eq (c := 3) (by decide) h2, so_eq (c := 8) (by decide) h3]; exact cd_2_3_8
  · rw [so_eq (c := 2) (by decide) h1, so_eq (c := 3) (by decide) h2, so_eq (c := 9) (by decide) h3]; exact cd_2_3_9
  · rw [so_eq (c := 2) (by decide) h1, so_eq (c := 4) (by decide) h2, so_eq (c := 0) (by decide) h3]; exact cd_2_4_0
  · rw [so_eq (c := 2) (by decide) h1, so_eq (c := 4) (by decide) h2, so_eq (c := 1) (by decide) h3]; exact cd_2_4_1
  · rw [so_eq (c := 2) (by decide) h1, so_eq (c := 4) (by decide) h2, so_eq (c := 2) (by decide) h3]; exact cd_2_4_2
  · rw [so_eq (c := 2) (by decide) h1, so_eq (c := 4) (by decide) h2, so_eq (c := 3) (by decide) h3]; exact cd_2_4_3
  · rw [so_eq (c := 2) (by decide) h1, so_eq (c := 4) (by decide) h2, so_eq (c := 4) (by decide) h3]; exact cd_2_4_4
  · rw [so_eq (c := 2) (by decide) h1, so_eq (c := 4) (by decide) h2, so_eq (c := 5) (by decide) h3]; exact cd_2_4_5
  · rw [so_eq (c := 2) (by decide) h1, so_eq (c := 4) (by decide) h2, so_eq (c := 6) (by decide) h3]; exact cd_2_4_6
  · rw [so_eq (c := 2) (by decide) h1, so_eq (c := 4) (by decide) h2, so_eq (c := 7) (by decide) h3]; exact cd_2_4_7
  · rw [so_eq (c := 2) (by decide) h1, so_eq (c := 4) (by decide) h2, so_eq (c := 8) (by decide) h3]; exact cd_2_4_8
  · rw [so_eq (c := 2) (by decide) h1, so_eq (c := 4) (by decide) h2, so_eq (c := 9) (by decide) h3]; exact cd_2_4_9
  · rw [so_eq (c := 3) (by decide) h1, so_eq (c := 1) (by decide) h2, so_eq (c := 0) (by decide) h3]; exact cd_3_1_0
  · rw [so_eq (c := 3) (by decide) h1, so_eq (c := 1) (by decide) h2, so_eq (c := 1) (by decide) h3]; exact cd_3_1_1
  · rw [so_eq (c := 3) (by decide) h1, so_eq (c := 1) (by decide) h2, so_eq (c := 2) (by decide) h3]; exact cd_3_1_2
  · rw [so_eq (c := 3) (by decide) h1, so_eq (c := 1) (by decide) h2, so_eq (c := 3) (by decide) h3]; exact cd_3_1_3
  · rw [so_eq (c := 3) (by decide) h1, so_eq (c := 1) (by decide) h2, so_eq (c := 4) (by decide) h3]; exact cd_3_1_4
  · rw [so_eq (c := 3) (by decide) h1, so_eq (c := 1) (by decide) h2, so_eq (c := 5) (by decide) h3]; exact cd_3_1_5
  · rw [so_eq (c := 3) (by decide) h1, so_eq (c := 1) (by decide) h2, so_eq (c := 6) (by decide) h3]; exact cd_3_1_6
  · rw [so_eq (c := 3) (by decide) h1, so_eq (c := 1) (by decide) h2, so_eq (c := 7) (by decide) h3]; exact cd_3_1_7
  · rw [so_eq (c := 3) (by decide) h1, so_eq (c := 1) (by decide) h2, so_eq (c := 8) (by decide) h3]; exact cd_3_1_8
  · rw [so_eq (c := 3) (by decide) h1, so_eq (c := 1) (by decide) h2, so_eq (c := 9) (by decide) h3]; exact cd_3_1_9
  · rw [so_eq (c := 3) (by decide) h1, so_eq (c := 2) (by decide) h2, so_eq (c := 0) (by decide) h3]; exact cd_3_2_0
  · rw [so_eq (c := 3) (by decide) h1, so_eq (c := 2) (by decide) h2, so_eq (c := 1) (by decide) h3]; exact cd_3_2_1
  · rw [so_eq (c := 3) (by decide) h1, so_eq (c := 2) (by decide) h2, so_eq (c := 2) (by decide) h3]; exact cd_3_2_2
  · rw [so_eq (c := 3) (by decide) h1, so_eq (c := 2) (by decide) h2, so_eq (c := 3) (by decide) h3]; exact cd_3_2_3
  · rw [so_eq (c := 3) (by decide) h1, so_eq (c := 2) (by decide) h2, so_eq (c := 4) (by decide) h3]; exact cd_3_2_4
  · rw [so_eq (c := 3) (by decide) h1, so_eq (c := 2) (by decide) h2, so_eq (c := 5) (by decide) h3]; exact cd_3_2_5
  · rw [so_eq (c := 3) (by decide) h1, so_eq (c := 2) (by decide) h2, so_eq (c := 6) (by decide) h3]; exact cd_3_2_6
  · rw [so_eq (c := 3) (by decide) h1, so_eq (c := 2) (by decide) h2, so_eq (c := 7) (by decide) h3]; exact cd_3_2_7
  · rw [so_eq (c := 3) (by decide) h1, so_eq (c := 2) (by decide) h2, so_eq (c := 8) (by decide) h3]; exact cd_3_2_8
  · rw [so_eq (c := 3) (by decide) h1, so_eq (c := 2) (by decide) h2, so_eq (c := 9) (by decide) h3]; exact cd_3_2_9
  · rw [so_eq (c := 3) (by decide) h1, so_eq (c := 3) (by decide) h2, so_eq (c := 0) (by decide) h3]; exact cd_3_3_0
  · rw [so_eq (c := 3) (by decide) h1, so_eq (c := 3) (by decide) h2, so_eq (c := 1) (by decide) h3]; exact cd_3_3_1
  · rw [so_eq (c := 3) (by decide) h1, so_eq (c := 3) (by decide) h2, so_eq (c := 2) (by decide) h3]; exact cd_3_3_2
  · rw [so_eq (c := 3) (by decide) h1, so_eq (c := 3) (by decide) h2, so_eq (c := 3) (by decide) h3]; exact cd_3_3_3
  · rw [so_eq (c := 3) (by decide) h1, so_eq (c := 3) (by decide) h2, so_eq (c := 4) (by decide) h3]; exact cd_3_3_4
  · rw [so_eq (c := 3) (by decide) h1, so_eq (c := 3) (by decide) h2, so_eq (c := 5) (by decide) h3]; exact cd_3_3_5
  · rw [so_eq (c := 3) (by decide) h1, so_eq (c := 3) (by decide) h2, so_eq (c := 6) (by decide) h3]; exact cd_3_3_6
  · rw [so_eq (c := 3) (by decide) h1, so_eq (c := 3) (by decide) h2, so_eq (c := 7) (by decide) h3]; exact cd_3_3_7
  · rw [so_eq (c := 3) (by decide) h1, so_eq (c := 3) (by decide) h2, so_eq (c := 8) (by decide) h3]; exact cd_3_3_8
  · rw [so_eq (c := 3) (by decide) h1, so_eq (c := 3) (by decide) h2, so_eq (c := 9) (by decide) h3]; exact cd_3_3_9
  · rw [so_eq (c := 3) (by decide) h1, so_eq (c := 4) (by decide) h2, so_eq (c := 0) (by decide) h3]; exact cd_3_4_0
  · rw [so_eq (c := 3) (by decide) h1, so_eq (c := 4) (by decide) h2, so_eq (c := 1) (by decide) h3]; exact cd_3_4_1
  · rw [so_eq (c := 3) (by decide) h1, so_eq (c := 4) (by decide) h2, so_eq (c := 2) (by decide) h3]; exact cd_3_4_2
  · rw [so_eq (c := 3) (by decide) h1, so_eq (c := 4) (by decide) h2, so_eq (c := 3) (by decide) h3]; exact cd_3_4_3
  · rw [so_eq (c := 3) (by decide) h1, so_eq (c := 4) (by decide) h2, so_eq (c := 4) (by decide) h3]; exact cd_3_4_4
  · rw [so_eq (c := 3) (by decide) h1, so_eq (c := 4) (by decide) h2, so_eq (c := 5) (by decide) h3]; exact cd_3_4_5
  · rw [so_eq (c := 3) (by decide) h1, so_eq (c := 4) (by decide) h2, so_eq (c := 6) (by decide) h3]; exact cd_3_4_6
  · rw [so_eq (c := 3) (by decide) h1, so_eq (c := 4) (by decide) h2, so_eq (c := 7) (by decide) h3]; exact cd_3_4_7
  · rw [so_eq (c := 3) (by decide) h1, so_eq (c := 4) (by decide) h2, so_eq (c := 8) (by decide) h3]; exact cd_3_4_8
  · rw [so_eq (c := 3) (by decide) h1, so_eq (c := 4) (by decide) h2, so_eq (c := 9) (by decide) h3]; exact cd_3_4_9
  · rw [so_eq (c := 4) (by decide) h1, so_eq (c := 1) (by decide) h2, so_eq (c := 0) (by decide) h3]; exact cd_4_1_0
  · rw [so_eq (c := 4) (by decide) h1, so_eq (c := 1) (by decide) h2, so_eq (c := 1) (by decide) h3]; exact cd_4_1_1
  · rw [so_eq (c := 4) (by decide) h1, so_eq (c := 1) (by decide) h2, so_eq (c := 2) (by decide) h3]; exact cd_4_1_2
  · rw [so_eq (c := 4) (by decide) h1, so_eq (c := 1) (by decide) h2, so_eq (c := 3) (by decide) h3]; exact cd_4_1_3
  · rw [so_eq (c := 4) (by decide) h1, so_eq (c := 1) (by decide) h2, so_eq (c := 4) (by decide) h3]; exact cd_4_1_4
  · rw [so_eq (c := 4) (by decide) h1, so_eq (c := 1) (by decide) h2, so_eq (c := 5) (by decide) h3]; exact cd_4_1_5
  · rw [so_eq (c := 4) (by decide) h1, so_eq (c := 1) (by decide) h2, so_eq (c := 6) (by decide) h3]; exact cd_4_1_6
  · rw [so_eq (c := 4) (by decide) h1, so_eq (c := 1) (by decide) h2, so_eq (c := 7) (by decide) h3]; exact cd_4_1_7
  · rw [so_eq (c := 4) (by decide) h1, so_eq (c := 1) (by decide) h2, so_eq (c := 8) (by decide) h3]; exact cd_4_1_8
  · rw [so_eq (c := 4) (by decide) h1, so_eq (c := 1) (by decide) h2, so_eq (c := 9) (by decide) h3]; exact cd_4_1_9
  · rw [so_eq (c := 4) (by decide) h1, so_eq (c := 2) (by decide) h2, so_eq (c := 0) (by decide) h3]; exact cd_4_2_0
  · rw [so_eq (c := 4) (by decide) h1, so_eq (c := 2) (by decide) h2, so_eq (c := 1) (by decide) h3]; exact cd_4_2_1
  · rw [so_eq (c := 4) (by decide) h1, so_eq (c := 2) (by decide) h2, so_eq (c := 2) (by decide) h3]; exact cd_4_2_2
  · rw [so_eq (c := 4) (by decide) h1, so_eq (c := 2) (by decide) h2, so_eq (c := 3) (by decide) h3]; exact cd_4_2_3
  · rw [so_eq (c := 4) (by decide) h1, so_eq (c := 2) (by decide) h2, so_eq (c := 4) (by decide) h3]; exact cd_4_2_4
  · rw [so_eq (c := 4) (by decide) h1, so_eq (c := 2) (by decide) h2, so_eq (c := 5) (by decide) h3]; exact cd_4_2_5
  · rw [so_eq (c := 4) (by decide) h1, so_eq (c := 2) (by decide) h2, so_eq (c := 6) (by decide) h3]; exact cd_4_2_6
  · rw [so_eq (c := 4) (by decide) h1, so_eq (c := 2) (by decide) h2, so_eq (c := 7) (by decide) h3]; exact cd_4_2_7
  · rw [so_eq (c := 4) (by decide) h1, so_eq (c := 2) (by decide) h2, so_eq (c := 8) (by decide) h3]; exact cd_4_2_8
  · rw [so_eq (c := 4) (by decide) h1, so_eq (c := 2) (by decide) h2, so_eq (c := 9) (by decide) h3]; exact cd_4_2_9
  · rw [so_eq (c := 4) (by decide) h1, so_eq (c := 3) (by decide) h2, so_eq (c := 0) (by decide) h3]; exact cd_4_3_0
  · rw [so_eq (c := 4) (by decide) h1, so_eq (c := 3) (by decide) h2, so_eq (c := 1) (by decide) h3]; exact cd_4_3_1
  · rw [so_eq (c := 4) (by decide) h1, so_eq (c := 3) (by decide) h2, so_eq (c := 2) (by decide) h3]; exact cd_4_3_2
  · rw [so_eq (c := 4) (by decide) h1, so_eq (c := 3) (by decide) h2, so_eq (c := 3) (by decide) h3]; exact cd_4_3_3
  · rw [so_eq (c := 4) (by decide) h1, so_eq (c := 3) (by decide) h2, so_eq (c := 4) (by decide) h3]; exact cd_4_3_4
  · rw [so_eq (c := 4) (by decide) h1, so_eq (c := 3) (by decide) h2, so_eq (c := 5) (by decide) h3]; exact cd_4_3_5
  · rw [so_eq (c := 4) (by decide) h1, so_eq (c := 3) (by decide) h2, so_eq (c := 6) (by decide) h3]; exact cd_4_3_6
  · rw [so_eq (c := 4) (by decide) h1, so_eq (c := 3) (by decide) h2, so_eq (c := 7) (by decide) h3]; exact cd_4_3_7
  · rw [so_eq (c := 4) (by decide) h1, so_eq (c := 3) (by decide) h2, so_eq (c := 8) (by decide) h3]; exact cd_4_3_8
  · rw [so_eq (c := 4) (by decide) h1, so_eq (c := 3) (by decide) h2, so_eq (c := 9) (by decide) h3]; exact cd_4_3_9
  · rw [so_eq (c := 4) (by decide) h1, so_eq (c := 4) (by decide) h2, so_eq (c := 0) (by decide) h3]; exact cd_4_4_0
  · rw [so_eq (c := 4) (by decide) h1, so_eq (c := 4) (by decide) h2, so_eq (c := 1) (by decide) h3]; exact cd_4_4_1
  · rw [so_eq (c := 4) (by decide) h1, so_eq (c := 4) (by decide) h2, so_eq (c := 2) (by decide) h3]; exact cd_4_4_2
  · rw [so_eq (c := 4) (by decide) h1, so_eq (c := 4) (by decide) h2, so_eq (c := 3) (by decide) h3]; exact cd_4_4_3
  · rw [so_eq (c := 4) (by decide) h1, so_eq (c := 4) (by decide) h2, so_eq (c := 4) (by decide) h3]; exact cd_4_4_4
  · rw [so_eq (c := 4) (by decide) h1, so_eq (c := 4) (by decide) h2, so_eq (c := 5) (by decide) h3]; exact cd_4_4_5
  · rw [so_eq (c := 4) (by decide) h1, so_eq (c := 4) (by decide) h2, so_eq (c := 6) (by decide) h3]; exact cd_4_4_6
  · rw [so_eq (c := 4) (by decide) h1, so_eq (c := 4) (by decide) h2, so_eq (c := 7) (by decide) h3]; exact cd_4_4_7
  · rw [so_eq (c := 4) (by decide) h1, so_eq (c := 4) (by decide) h2, so_eq (c := 8) (by decide) h3]; exact cd_4_4_8
  · rw [so_eq (c := 4) (by decide) h1, so_eq (c := 4) (by decide) h2, so_eq (c := 9) (by decide) h3]; exact cd_4_4_9
set_option maxRecDepth 20000 in
theorem pq_d (hR : x_R W1 (sh, gi, gl, gr)) (hX : X.1 = 6) : x_Ev X 1000 n_L_law 1628 [(3, .int 0), (2, .ref 69), (1, .ref 0), (0, .retAddr 30)] [] (sh, gi, gl, gr) x_P1 := by
  have hW := W1_WF hR
  have hz := W1_hz hR
  refine ev_incv f_L_law (nx := 1631) (c := 6) (w := 6) (lo' := [(3, .int 6), (2, .ref 69), (1, .ref 0), (0, .retAddr 30)]) rfl rfl (by decide) (by decide) rfl rfl rfl ?_
  refine ev_jmp f_L_law (nx := 18) rfl rfl rfl ?_
  refine ev_loc f_L_law (nx := 19) rfl rfl rfl rfl ?_
  refine ev_loc f_L_law (nx := 20) rfl rfl rfl rfl ?_
  refine ev_alenX f_L_law (nx := 21) rfl hX rfl ?_
  refine ev_bp f_L_law (nx := 23) (v := 6) rfl (by decide) rfl ?_
  refine ev_aluvI f_L_law (nx := 24) (w := 0) rfl rfl rfl (by decide) rfl ?_
  refine ev_t f_L_law (t1 := 1634) (t2 := 27) rfl rfl rfl (by decide) ?_
  refine ev_ic f_L_law (nx := 1635) (v := 1) rfl (by decide) rfl ?_
  refine ev_ret f_L_law rfl rfl rfl ?_
  exact ⟨rfl, hz⟩
set_option maxRecDepth 20000 in
theorem pq_sw (hR : x_R W1 (sh, gi, gl, gr)) (hX : X.1 = 6) : x_Ev X 1000 n_L_law 18 [(3, .int 0), (2, .ref 69), (1, .ref 0), (0, .retAddr 30)] [] (sh, gi, gl, gr) x_P1 := by
  refine ev_loc f_L_law (nx := 19) rfl rfl rfl rfl ?_
  refine ev_loc f_L_law (nx := 20) rfl rfl rfl rfl ?_
  refine ev_alenX f_L_law (nx := 21) rfl hX rfl ?_
  refine ev_bp f_L_law (nx := 23) (v := 6) rfl (by decide) rfl ?_
  refine ev_aluvI f_L_law (nx := 24) (w := 0) rfl rfl rfl (by decide) rfl ?_
  refine ev_f f_L_law (t1 := 1634) (t2 := 27) rfl rfl rfl (by decide) ?_
  refine ev_loc f_L_law (nx := 28) rfl rfl rfl rfl ?_
  refine ev_loc f_L_law (nx := 29) rfl rfl rfl rfl ?_
  refine ev_scr f_L_law (nx := 30) (j := 0) rfl hX (by decide) (by decide) (by decide) rfl ?_
  refine ev_bp f_L_law (nx := 32) (v := 63) rfl (by decide) rfl ?_
  refine ev_alu f_L_law (nx := 33) (st' := [.int (X.2 0 &&& 63)]) rfl rfl rfl rfl ?_
  obtain ⟨k, hk, hs⟩ := so_63 (X.2 0)
  rw [hs]
  have h : k = 0 ∨ k = 1 ∨ k = 2 ∨ k = 3 ∨ k = 4 ∨ k = 5 ∨ k = 6 ∨ k = 7 ∨ k = 8 ∨ k = 9 ∨ k = 10 ∨ k = 11 ∨ k = 12 ∨ k = 13 ∨ k = 14 ∨ k = 15 ∨ k = 16 ∨ k = 17 ∨ k = 18 ∨ k = 19 ∨ k = 20 ∨ k = 21 ∨ k = 22 ∨ k = 23 ∨ k = 24 ∨ k = 25 ∨ k = 26 ∨ k = 27 ∨ k = 28 ∨ k = 29 ∨ k = 30 ∨ k = 31 ∨ k = 32 ∨ k = 33 ∨ k = 34 ∨ k = 35 ∨ k = 36 ∨ k = 37 ∨ k = 38 ∨ k = 39 ∨ k = 40 ∨ k = 41 ∨ k = 42 ∨ k = 43 ∨ k = 44 ∨ k = 45 ∨ k = 46 ∨ k = 47 ∨ k = 48 ∨ k = 49 ∨ k = 50 ∨ k = 51 ∨ k = 52 ∨ k = 53 ∨ k = 54 ∨ k = 55 ∨ k = 56 ∨ k = 57 ∨ k = 58 ∨ k = 59 ∨ k = 60 ∨ k = 61 ∨ k = 62 ∨ k = 63 := by omega
  rcases h with rfl | rfl | rfl | rfl | rfl | rfl | rfl | rfl | rfl | rfl | rfl | rfl | rfl | rfl | rfl | rfl | rfl | rfl | rfl | rfl | rfl | rfl | rfl | rfl | rfl | rfl | rfl | rfl | rfl | rfl | rfl | rfl | rfl | rfl | rfl | rfl | rfl | rfl | rfl | rfl | rfl | rfl | rfl | rfl | rfl | rfl | rfl | rfl | rfl | rfl | rfl | rfl | rfl | rfl | rfl | rfl | rfl | rfl | rfl | rfl | rfl | rfl | rfl | rfl
  · exact ev_jmp f_L_law (nx := 244) rfl rfl rfl (pc_0 hR hX)
  · exact ev_jmp f_L_law (nx := 257) rfl rfl rfl (pc_1 hR hX)
  · exact ev_jmp f_L_law (nx := 271) rfl rfl rfl (pc_2 hR hX)
  · exact ev_jmp f_L_law (nx := 285) rfl rfl rfl (pq_3 hR hX)
  · exact ev_jmp f_L_law (nx := 328) rfl rfl rfl (pq_4 hR hX)
  · exact ev_jmp f_L_law (nx := 401) rfl rfl rfl (pq_5 hR hX)
  · exact ev_jmp f_L_law (nx := 435) rfl rfl rfl (pq_6 hR hX)
  · exact ev_jmp f_L_law (nx := 498) rfl rfl rfl (pc_7 hR hX)
  · exact ev_jmp f_L_law (nx := 561) rfl rfl rfl (pq_8 hR hX)
  · exact ev_jmp f_L_law (nx := 584) rfl rfl rfl (pq_9 hR hX)
  · exact ev_jmp f_L_law (nx := 607) rfl rfl rfl (pc_10 hR hX)
  · exact ev_jmp f_L_law (nx := 630) rfl rfl rfl (pq_11 hR hX)
  · exact ev_jmp f_L_law (nx := 653) rfl rfl rfl (pc_12 hR hX)
  · exact ev_jmp f_L_law (nx := 686) rfl rfl rfl (pc_13 hR hX)
  · exact ev_jmp f_L_law (nx := 719) rfl rfl rfl (pc_14 hR hX)
  · exact ev_jmp f_L_law (nx := 742) rfl rfl rfl (pc_15 hR hX)
  · exact ev_jmp f_L_law (nx := 765) rfl rfl rfl (pc_16 hR hX)
  · exact ev_jmp f_L_law (nx := 789) rfl rfl rfl (pc_17 hR hX)
  · exact ev_jmp f_L_law (nx := 813) rfl rfl rfl (pc_18 hR hX)
  · exact ev_jmp f_L_law (nx := 857) rfl rfl rfl (pc_19 hR hX)
  · exact ev_jmp f_L_law (nx := 880) rfl rfl rfl (pc_20 hR hX)
  · exact ev_jmp f_L_law (nx := 913) rfl rfl rfl (pc_21 hR hX)
  · exact ev_jmp f_L_law (nx := 966) rfl rfl rfl (pc_22 hR hX)
  · exact ev_jmp f_L_law (nx := 999) rfl rfl rfl (pc_23 hR hX)
  · exact ev_jmp f_L_law (nx := 1062) rfl rfl rfl (pc_24 hR hX)
  · exact ev_jmp f_L_law (nx := 1075) rfl rfl rfl (pq_25 hR hX)
  · exact ev_jmp f_L_law (nx := 1118) rfl rfl rfl (pc_26 hR hX)
  · exact ev_jmp f_L_law (nx := 1142) rfl rfl rfl (pc_27 hR hX)
  · exact ev_jmp f_L_law (nx := 1195) rfl rfl rfl (pc_28 hR hX)
  · exact ev_jmp f_L_law (nx := 1228) rfl rfl rfl (pc_29 hR hX)
  · exact ev_jmp f_L_law (nx := 1241) rfl rfl rfl (pc_30 hR hX)
  · exact ev_jmp f_L_law (nx := 1254) rfl rfl rfl (pc_31 hR hX)
  · exact ev_jmp f_L_law (nx := 1267) rfl rfl rfl (pc_32 hR hX)
  · exact ev_jmp f_L_law (nx := 1280) rfl rfl rfl (pc_33 hR hX)
  · exact ev_jmp f_L_law (nx := 1313) rfl rfl rfl (pc_34 hR hX)
  · exact ev_jmp f_L_law (nx := 1336) rfl rfl rfl (pc_35 hR hX)
  · exact ev_jmp f_L_law (nx := 1359) rfl rfl rfl (pc_36 hR hX)
  · exact ev_jmp f_L_law (nx := 1372) rfl rfl rfl (pc_37 hR hX)
  · exact ev_jmp f_L_law (nx := 1405) rfl rfl rfl (pc_38 hR hX)
  · exact ev_jmp f_L_law (nx := 1428) rfl rfl rfl (pc_39 hR hX)
  · exact ev_jmp f_L_law (nx := 1451) rfl rfl rfl (pc_40 hR hX)
  · exact ev_jmp f_L_law (nx := 1464) rfl rfl rfl (pc_41 hR hX)
  · exact ev_jmp f_L_law (nx := 1477) rfl rfl rfl (pc_42 hR hX)
  · exact ev_jmp f_L_law (nx := 1490) rfl rfl rfl (pc_43 hR hX)
  · exact ev_jmp f_L_law (nx := 1513) rfl rfl rfl (pc_44 hR hX)
  · exact ev_jmp f_L_law (nx := 1536) rfl rfl rfl (pc_45 hR hX)
  · exact ev_jmp f_L_law (nx := 1569) rfl rfl rfl (pc_46 hR hX)
  · exact ev_jmp f_L_law (nx := 1602) rfl rfl rfl (pc_47 hR hX cl_47)
  · exact ev_jmp f_L_law (nx := 1615) rfl rfl rfl (pc_48 hR hX)
  · exact ev_jmp f_L_law (nx := 1628) rfl rfl rfl (pq_d hR hX)
  · exact ev_jmp f_L_law (nx := 1628) rfl rfl rfl (pq_d hR hX)
  · exact ev_jmp f_L_law (nx := 1628) rfl rfl rfl (pq_d hR hX)
  · exact ev_jmp f_L_law (nx := 1628) rfl rfl rfl (pq_d hR hX)
  · exact ev_jmp f_L_law (nx := 1628) rfl rfl rfl (pq_d hR hX)
  · exact ev_jmp f_L_law (nx := 1628) rfl rfl rfl (pq_d hR hX)
  · exact ev_jmp f_L_law (nx := 1628) rfl rfl rfl (pq_d hR hX)
  · exact ev_jmp f_L_law (nx := 1628) rfl rfl rfl (pq_d hR hX)
  · exact ev_jmp f_L_law (nx := 1628) rfl rfl rfl (pq_d hR hX)
  · exact ev_jmp f_L_law (nx := 1628) rfl rfl rfl (pq_d hR hX)
  · exact ev_jmp f_L_law (nx := 1628) rfl rfl rfl (pq_d hR hX)
  · exact ev_jmp f_L_law (nx := 1628) rfl rfl rfl (pq_d hR hX)
  · exact ev_jmp f_L_law (nx := 1628) rfl rfl rfl (pq_d hR hX)
  · exact ev_jmp f_L_law (nx := 1628) rfl rfl rfl (pq_d hR hX)
  · exact ev_jmp f_L_law (nx := 1628) rfl rfl rfl (pq_d hR hX)
set_option maxRecDepth 20000 in
theorem pq_short {n : Nat} (hX : X.1 = n) (hl : Int32.ofNat n - 6 < 0) (hz : x_okG (sh, gi, gl, gr)) : x_Ev X 1000 n_L_law 18 [(3, .int 0), (2, .ref 69), (1, .ref 0), (0, .retAddr 30)] [] (sh, gi, gl, gr) x_P1 := by
  refine ev_loc f_L_law (nx := 19) rfl rfl rfl rfl ?_
  refine ev_loc f_L_law (nx := 20) rfl rfl rfl rfl ?_
  refine ev_heap f_L_law (nx := 21) (st' := [.int (Int32.ofNat n), .int 0]) (G' := (sh, gi, gl, gr)) rfl rfl (by rw [← hX]; rfl) rfl ?_
  refine ev_bp f_L_law (nx := 23) (v := 6) rfl (by decide) rfl ?_
  refine ev_alu f_L_law (nx := 24) rfl rfl rfl rfl ?_
  refine ev_t f_L_law (t1 := 1634) (t2 := 27) rfl rfl rfl hl ?_
  refine ev_ic f_L_law (nx := 1635) (v := 1) rfl (by decide) rfl ?_
  exact ev_ret f_L_law rfl rfl rfl ⟨rfl, hz⟩
end XG
theorem pq_all (L : Nat) (xs : Nat → Int32) (hL : L ≤ 6) (G : x_G) (hR : x_R W1 G) : x_Ev (L, xs) 1000 n_L_law 18 [(3, .int 0), (2, .ref 69), (1, .ref 0), (0, .retAddr 30)] [] G x_P1 := by
  obtain ⟨sh, gi, gl, gr⟩ := G
  have h : L = 0 ∨ L = 1 ∨ L = 2 ∨ L = 3 ∨ L = 4 ∨ L = 5 ∨ L = 6 := by omega
  rcases h with rfl | rfl | rfl | rfl | rfl | rfl | rfl
  · exact pq_short (n := 0) rfl (by decide) (W1_hz hR)
  · exact pq_short (n := 1) rfl (by decide) (W1_hz hR)
  · exact pq_short (n := 2) rfl (by decide) (W1_hz hR)
  · exact pq_short (n := 3) rfl (by decide) (W1_hz hR)
  · exact pq_short (n := 4) rfl (by decide) (W1_hz hR)
  · exact pq_short (n := 5) rfl (by decide) (W1_hz hR)
  · exact pq_sw hR rfl
set_option maxRecDepth 20000 in
theorem p1_ev (L : Nat) (xs : Nat → Int32) (hL : L ≤ 6) : x_Ev (L, xs) 1000 n_L_law 0 [(0, .retAddr 30)] [] x_G0 x_P1 := by
  refine ev_heap f_L_law (nx := 3) (st' := [.ref 0]) (G' := x_new x_G0 (.inl 10)) rfl rfl rfl rfl ?_
  refine ev_alu f_L_law (nx := 4) rfl rfl rfl rfl ?_
  refine ev_call f_L_law (nx := 7) rfl rfl rfl (by decide) (by decide) (x_ini_ok w1_ini_t (L, xs)) rfl ?_
  rintro _ G1 ⟨rfl, hlen, hM⟩
  refine ev_loc f_L_law (nx := 8) (lo' := [(1, .ref 0), (0, .retAddr 30)]) (st' := []) rfl rfl rfl rfl ?_
  refine ev_heap f_L_law (nx := 11) (st' := [.ref 69]) (G' := x_new G1 (.inl 11)) rfl rfl (by rw [← hlen]; rfl) rfl ?_
  refine ev_alu f_L_law (nx := 12) rfl rfl rfl rfl ?_
  refine ev_call f_L_law (nx := 15) rfl rfl rfl (by simp) (by decide) hM rfl ?_
  rintro _ ⟨sh, gi, gl, gr⟩ ⟨rfl, hR⟩
  refine ev_loc f_L_law (nx := 16) (lo' := [(2, .ref 69), (1, .ref 0), (0, .retAddr 30)]) (st' := []) rfl rfl rfl rfl ?_
  refine ev_ic f_L_law (nx := 17) (v := 0) rfl (by decide) rfl ?_
  refine ev_loc f_L_law (nx := 18) (lo' := [(3, .int 0), (2, .ref 69), (1, .ref 0), (0, .retAddr 30)]) (st' := []) rfl rfl rfl rfl ?_
  exact pq_all L xs hL _ hR
theorem p1_goal : x_GOAL := by
  intro L xs hL
  obtain ⟨n, v, Gf, h1, h2, h3, h4⟩ := p1_ev L xs hL
  subst h2
  exact ⟨n, Gf, h1, h3, h4⟩
