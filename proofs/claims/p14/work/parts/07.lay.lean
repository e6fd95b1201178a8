/-! ===== printed by gen.py: classes by number ===== -/
def x_gw0 : List Cond := lw_tbl.filter goodWord
theorem x_lay_0 : (decide (([348, 350, 352, 354, 356, 358, 360] : List Nat).filterMap (fun i => lw_tbl[i]?) = u_ws RX0 TX0 7) && (u_ws RX0 TX0 7).all goodWord) = true := by decide +kernel
theorem x_fp_0 : ∀ k, k < 7 → parseFieldDescriptor (TX0 k).2.2.1 = some ((x_fty 0).getD k .int) := by decide +kernel
theorem x_nf_0 : (x_fty 0).all (fun t => decide (t ≠ .float) && decide (t ≠ .double)) = true := by decide +kernel
theorem x_lay_1 : (decide (([389, 391, 393, 395, 397, 399, 401, 403, 405, 407, 409, 411] : List Nat).filterMap (fun i => lw_tbl[i]?) = u_ws RX1 TX1 12) && (u_ws RX1 TX1 12).all goodWord) = true := by decide +kernel
theorem x_fp_1 : ∀ k, k < 12 → parseFieldDescriptor (TX1 k).2.2.1 = some ((x_fty 1).getD k .int) := by decide +kernel
theorem x_nf_1 : (x_fty 1).all (fun t => decide (t ≠ .float) && decide (t ≠ .double)) = true := by decide +kernel
theorem x_lay_2 : (decide (([443, 445, 447, 449, 451, 453, 455, 457, 459, 461, 463, 465, 467, 469, 471, 473, 475] : List Nat).filterMap (fun i => lw_tbl[i]?) = u_ws RX2 TX2 17) && (u_ws RX2 TX2 17).all goodWord) = true := by decide +kernel
theorem x_fp_2 : ∀ k, k < 17 → parseFieldDescriptor (TX2 k).2.2.1 = some ((x_fty 2).getD k .int) := by decide +kernel
theorem x_nf_2 : (x_fty 2).all (fun t => decide (t ≠ .float) && decide (t ≠ .double)) = true := by decide +kernel
theorem x_lay_3 : (decide (([254, 256, 258, 260, 262, 264] : List Nat).filterMap (fun i => lw_tbl[i]?) = u_ws RX4 TX4 6) && (u_ws RX4 TX4 6).all goodWord) = true := by decide +kernel
theorem x_fp_3 : ∀ k, k < 6 → parseFieldDescriptor (TX4 k).2.2.1 = some ((x_fty 3).getD k .int) := by decide +kernel
theorem x_nf_3 : (x_fty 3).all (fun t => decide (t ≠ .float) && decide (t ≠ .double)) = true := by decide +kernel
theorem x_lay_4 : (decide (([306, 308, 310, 312, 314, 316, 318, 320, 322, 324] : List Nat).filterMap (fun i => lw_tbl[i]?) = u_ws RX5 TX5 10) && (u_ws RX5 TX5 10).all goodWord) = true := by decide +kernel
theorem x_fp_4 : ∀ k, k < 10 → parseFieldDescriptor (TX5 k).2.2.1 = some ((x_fty 4).getD k .int) := by decide +kernel
theorem x_nf_4 : (x_fty 4).all (fun t => decide (t ≠ .float) && decide (t ≠ .double)) = true := by decide +kernel
theorem x_lay_5 : (decide (([724, 726, 728, 730, 732, 734, 736, 738] : List Nat).filterMap (fun i => lw_tbl[i]?) = u_ws RX6 TX6 8) && (u_ws RX6 TX6 8).all goodWord) = true := by decide +kernel
theorem x_fp_5 : ∀ k, k < 8 → parseFieldDescriptor (TX6 k).2.2.1 = some ((x_fty 5).getD k .int) := by decide +kernel
theorem x_nf_5 : (x_fty 5).all (fun t => decide (t ≠ .float) && decide (t ≠ .double)) = true := by decide +kernel
theorem x_lay_6 : (decide (([878, 880, 882, 884, 886, 888, 890] : List Nat).filterMap (fun i => lw_tbl[i]?) = u_ws RX7 TX7 7) && (u_ws RX7 TX7 7).all goodWord) = true := by decide +kernel
theorem x_fp_6 : ∀ k, k < 7 → parseFieldDescriptor (TX7 k).2.2.1 = some ((x_fty 6).getD k .int) := by decide +kernel
theorem x_nf_6 : (x_fty 6).all (fun t => decide (t ≠ .float) && decide (t ≠ .double)) = true := by decide +kernel
theorem x_lay_7 : (decide (([902, 904, 906] : List Nat).filterMap (fun i => lw_tbl[i]?) = u_ws RX8 TX8 3) && (u_ws RX8 TX8 3).all goodWord) = true := by decide +kernel
theorem x_fp_7 : ∀ k, k < 3 → parseFieldDescriptor (TX8 k).2.2.1 = some ((x_fty 7).getD k .int) := by decide +kernel
theorem x_nf_7 : (x_fty 7).all (fun t => decide (t ≠ .float) && decide (t ≠ .double)) = true := by decide +kernel
theorem x_lay_8 : (decide (([683, 685, 687, 689, 691, 693, 695, 697, 699, 701, 703, 705] : List Nat).filterMap (fun i => lw_tbl[i]?) = u_ws RX9 TX9 12) && (u_ws RX9 TX9 12).all goodWord) = true := by decide +kernel
theorem x_fp_8 : ∀ k, k < 12 → parseFieldDescriptor (TX9 k).2.2.1 = some ((x_fty 8).getD k .int) := by decide +kernel
theorem x_nf_8 : (x_fty 8).all (fun t => decide (t ≠ .float) && decide (t ≠ .double)) = true := by decide +kernel
theorem x_lay_9 : (decide (([488, 490, 492] : List Nat).filterMap (fun i => lw_tbl[i]?) = u_ws RX10 TX10 3) && (u_ws RX10 TX10 3).all goodWord) = true := by decide +kernel
theorem x_fp_9 : ∀ k, k < 3 → parseFieldDescriptor (TX10 k).2.2.1 = some ((x_fty 9).getD k .int) := by decide +kernel
theorem x_nf_9 : (x_fty 9).all (fun t => decide (t ≠ .float) && decide (t ≠ .double)) = true := by decide +kernel
theorem x_lay_10 : (decide (([513, 515, 517, 519, 521, 523, 525, 527, 529, 531, 533, 535, 537, 539, 541, 543, 545, 547] : List Nat).filterMap (fun i => lw_tbl[i]?) = u_ws RX11 TX11 18) && (u_ws RX11 TX11 18).all goodWord) = true := by decide +kernel
theorem x_fp_10 : ∀ k, k < 18 → parseFieldDescriptor (TX11 k).2.2.1 = some ((x_fty 10).getD k .int) := by decide +kernel
theorem x_nf_10 : (x_fty 10).all (fun t => decide (t ≠ .float) && decide (t ≠ .double)) = true := by decide +kernel
theorem x_lay_11 : (decide (([1516, 1518, 1520, 1522, 1524, 1526, 1528, 1530, 1532, 1534, 1536, 1538, 1540, 1542, 1544, 1546, 1548, 1550, 1552, 1554, 1556, 1558, 1560, 1562, 1564, 1566, 1568, 1570, 1572, 1574, 1576, 1578, 1580, 1582, 1584, 1586, 1588, 1590, 1592, 1594, 1596, 1598, 1600, 1602, 1604, 1606, 1608, 1610, 1612, 1614, 1616, 1618, 1620, 1622, 1624, 1626, 1628, 1630, 1632, 1634, 1636, 1638, 1640, 1642, 1644, 1646, 1648, 1650, 1652, 1654, 1656, 1658, 1660, 1662, 1664, 1666] : List Nat).filterMap (fun i => lw_tbl[i]?) = u_ws RX12 TX12 76) && (u_ws RX12 TX12 76).all goodWord) = true := by decide +kernel
theorem x_fp_11 : ∀ k, k < 76 → parseFieldDescriptor (TX12 k).2.2.1 = some ((x_fty 11).getD k .int) := by decide +kernel
theorem x_nf_11 : (x_fty 11).all (fun t => decide (t ≠ .float) && decide (t ≠ .double)) = true := by decide +kernel
theorem x_lay_of {l : List Nat} {ws : List Cond} (h : (decide (l.filterMap (fun i => lw_tbl[i]?) = ws) && ws.all goodWord) = true) : ∀ w ∈ ws, w ∈ x_gw0 := by
  rw [Bool.and_eq_true, decide_eq_true_eq] at h
  intro w hw
  refine List.mem_filter.mpr ⟨?_, List.all_eq_true.mp h.2 w hw⟩
  rw [← h.1] at hw
  obtain ⟨i, -, hi⟩ := List.mem_filterMap.mp hw
  exact List.mem_of_getElem? hi
def x_CI0 (ci : Nat) (C : String) (T : u_T) (N : Nat) : Prop := vwCl[ci]? = some (C, T, N) ∧ (x_fty ci).length = N ∧ (∀ k, k < N → parseFieldDescriptor (T k).2.2.1 = some ((x_fty ci).getD k .int)) ∧ (∀ a, a < N → ∀ b, b < N → a ≠ b → (T a).2.1 ≠ (T b).2.1) ∧ ∀ w ∈ u_ws C T N, w ∈ x_gw0
theorem x_ci0 (a : Nat) (C : String) (T : u_T) (N : Nat) (h : vwCl[a]? = some (C, T, N)) : x_CI0 a C T N ∧ ((x_fty a).all (fun t => decide (t ≠ .float) && decide (t ≠ .double)) = true) ∧ a < 12 := by
  match a, h with
  | 0, h => cases h; exact ⟨⟨rfl, rfl, x_fp_0, nmX0, x_lay_of x_lay_0⟩, x_nf_0, by omega⟩
  | 1, h => cases h; exact ⟨⟨rfl, rfl, x_fp_1, nmX1, x_lay_of x_lay_1⟩, x_nf_1, by omega⟩
  | 2, h => cases h; exact ⟨⟨rfl, rfl, x_fp_2, nmX2, x_lay_of x_lay_2⟩, x_nf_2, by omega⟩
  | 3, h => cases h; exact ⟨⟨rfl, rfl, x_fp_3, nmX4, x_lay_of x_lay_3⟩, x_nf_3, by omega⟩
  | 4, h => cases h; exact ⟨⟨rfl, rfl, x_fp_4, nmX5, x_lay_of x_lay_4⟩, x_nf_4, by omega⟩
  | 5, h => cases h; exact ⟨⟨rfl, rfl, x_fp_5, nmX6, x_lay_of x_lay_5⟩, x_nf_5, by omega⟩
  | 6, h => cases h; exact ⟨⟨rfl, rfl, x_fp_6, nmX7, x_lay_of x_lay_6⟩, x_nf_6, by omega⟩
  | 7, h => cases h; exact ⟨⟨rfl, rfl, x_fp_7, nmX8, x_lay_of x_lay_7⟩, x_nf_7, by omega⟩
  | 8, h => cases h; exact ⟨⟨rfl, rfl, x_fp_8, nmX9, x_lay_of x_lay_8⟩, x_nf_8, by omega⟩
  | 9, h => cases h; exact ⟨⟨rfl, rfl, x_fp_9, nmX10, x_lay_of x_lay_9⟩, x_nf_9, by omega⟩
  | 10, h => cases h; exact ⟨⟨rfl, rfl, x_fp_10, nmX11, x_lay_of x_lay_10⟩, x_nf_10, by omega⟩
  | 11, h => cases h; exact ⟨⟨rfl, rfl, x_fp_11, nmX12, x_lay_of x_lay_11⟩, x_nf_11, by omega⟩
  | a + 12, h => exact absurd h (by simp [vwCl])
