/-! ===== printed by gen63.py: what is read off the world behind both constructors ===== -/
noncomputable def w1_wf : Bool := (List.range 102).all (fun k => match x_gc W1 k, x_sh0[k]? with | some c, some s => x_eS c.1 s | _, _ => false) && x_fx.all (fun q => match x_gc W1 q.1.1 with | some c => x_eV (x_cR c q.1.2) (.ref q.2) && Nat.blt q.1.2 (2 ^ x_dp c.1) | none => false)
theorem w1_wf_t : w1_wf = true := by decide +kernel
theorem w1_ini_t : x_ini 4000 999 n_X11_init n_X12_init = true := by decide +kernel
theorem w1_ok_t : x_okW W1 = true := by decide +kernel
section XF
variable {sh : List (Nat ⊕ (Nat × Nat))} {gi : Nat → Nat → Int32} {gl : Nat → Nat → Int64} {gr : Nat → Nat → Value}
theorem W1_WF (hR : x_R W1 (sh, gi, gl, gr)) : x_WF sh gr := by
  have h := w1_wf_t
  unfold w1_wf at h
  rw [Bool.and_eq_true, List.all_eq_true, List.all_eq_true] at h
  refine ⟨fun k s hs => ?_, fun k j v hv => ?_⟩
  · have hk : k < 102 := (List.getElem?_eq_some_iff.mp hs).1
    have h1 := h.1 k (List.mem_range.mpr hk)
    rw [hs] at h1
    cases hc : x_gc W1 k with
    | none => rw [hc] at h1; cases h1
    | some c =>
      rw [hc] at h1
      have h2 : c.1 = s := x_eS_ok h1
      rw [← h2]; exact (x_gc_R hR hc).2.2.1
  · have h1 := h.2 _ (x_lookup_mem hv)
    dsimp only at h1
    cases hc : x_gc W1 k with
    | none => rw [hc] at h1; cases h1
    | some c =>
      rw [hc] at h1
      dsimp only at h1
      rw [Bool.and_eq_true] at h1
      have h2 := x_eV_ok h1.1
      rw [← h2]
      exact ((x_gc_R hR hc).2.2.2 j (Nat.le_of_ble_eq_true h1.2)).2.2
theorem W1_hz (hR : x_R W1 (sh, gi, gl, gr)) : sh.length ≤ 600000 ∧ (sh.map x_sz).sum ≤ 7302249 := x_okW_ok w1_ok_t hR
def x_P1 (v : Option Value) (G : x_G) : Prop := v = some (.int 1) ∧ x_okG G
theorem wi_0_0 (hR : x_R W1 (sh, gi, gl, gr)) : gi 0 0 = 0 := (hR.2.2.2 0 (by decide) w1_c0 rfl 0 (by decide)).1
theorem wi_0_12 (hR : x_R W1 (sh, gi, gl, gr)) : gi 0 12 = 0 := (hR.2.2.2 0 (by decide) w1_c0 rfl 12 (by decide)).1
theorem wi_0_14 (hR : x_R W1 (sh, gi, gl, gr)) : gi 0 14 = 0 := (hR.2.2.2 0 (by decide) w1_c0 rfl 14 (by decide)).1
theorem wi_0_5 (hR : x_R W1 (sh, gi, gl, gr)) : gi 0 5 = 0 := (hR.2.2.2 0 (by decide) w1_c0 rfl 5 (by decide)).1
theorem wi_0_8 (hR : x_R W1 (sh, gi, gl, gr)) : gi 0 8 = -1 := (hR.2.2.2 0 (by decide) w1_c0 rfl 8 (by decide)).1
theorem wi_0_9 (hR : x_R W1 (sh, gi, gl, gr)) : gi 0 9 = -1 := (hR.2.2.2 0 (by decide) w1_c0 rfl 9 (by decide)).1
theorem wi_13_0 (hR : x_R W1 (sh, gi, gl, gr)) : gi 13 0 = 0 := (hR.2.2.2 13 (by decide) w1_c13 rfl 0 (by decide)).1
theorem wi_22_6 (hR : x_R W1 (sh, gi, gl, gr)) : gi 22 6 = 0 := (hR.2.2.2 22 (by decide) w1_c22 rfl 6 (by decide)).1
theorem wi_28_8 (hR : x_R W1 (sh, gi, gl, gr)) : gi 28 8 = 0 := (hR.2.2.2 28 (by decide) w1_c28 rfl 8 (by decide)).1
theorem wi_3_0 (hR : x_R W1 (sh, gi, gl, gr)) : gi 3 0 = 0 := (hR.2.2.2 3 (by decide) w1_c3 rfl 0 (by decide)).1
theorem wi_3_3 (hR : x_R W1 (sh, gi, gl, gr)) : gi 3 3 = 5 := (hR.2.2.2 3 (by decide) w1_c3 rfl 3 (by decide)).1
theorem wi_3_4 (hR : x_R W1 (sh, gi, gl, gr)) : gi 3 4 = 0 := (hR.2.2.2 3 (by decide) w1_c3 rfl 4 (by decide)).1
theorem wi_3_5 (hR : x_R W1 (sh, gi, gl, gr)) : gi 3 5 = 0 := (hR.2.2.2 3 (by decide) w1_c3 rfl 5 (by decide)).1
theorem wi_3_6 (hR : x_R W1 (sh, gi, gl, gr)) : gi 3 6 = 0 := (hR.2.2.2 3 (by decide) w1_c3 rfl 6 (by decide)).1
theorem wi_45_15 (hR : x_R W1 (sh, gi, gl, gr)) : gi 45 15 = 0 := (hR.2.2.2 45 (by decide) w1_c45 rfl 15 (by decide)).1
theorem wi_6_0 (hR : x_R W1 (sh, gi, gl, gr)) : gi 6 0 = 0 := (hR.2.2.2 6 (by decide) w1_c6 rfl 0 (by decide)).1
theorem wi_61_2 (hR : x_R W1 (sh, gi, gl, gr)) : gi 61 2 = -1 := (hR.2.2.2 61 (by decide) w1_c61 rfl 2 (by decide)).1
theorem wi_63_2 (hR : x_R W1 (sh, gi, gl, gr)) : gi 63 2 = -1 := (hR.2.2.2 63 (by decide) w1_c63 rfl 2 (by decide)).1
theorem wi_65_2 (hR : x_R W1 (sh, gi, gl, gr)) : gi 65 2 = -1 := (hR.2.2.2 65 (by decide) w1_c65 rfl 2 (by decide)).1
theorem wi_67_2 (hR : x_R W1 (sh, gi, gl, gr)) : gi 67 2 = -1 := (hR.2.2.2 67 (by decide) w1_c67 rfl 2 (by decide)).1
theorem wi_69_10 (hR : x_R W1 (sh, gi, gl, gr)) : gi 69 10 = 0 := (hR.2.2.2 69 (by decide) w1_c69 rfl 10 (by decide)).1
theorem wi_69_16 (hR : x_R W1 (sh, gi, gl, gr)) : gi 69 16 = -1 := (hR.2.2.2 69 (by decide) w1_c69 rfl 16 (by decide)).1
theorem wi_69_17 (hR : x_R W1 (sh, gi, gl, gr)) : gi 69 17 = -1 := (hR.2.2.2 69 (by decide) w1_c69 rfl 17 (by decide)).1
theorem wi_69_2 (hR : x_R W1 (sh, gi, gl, gr)) : gi 69 2 = 0 := (hR.2.2.2 69 (by decide) w1_c69 rfl 2 (by decide)).1
theorem wi_69_30 (hR : x_R W1 (sh, gi, gl, gr)) : gi 69 30 = 0 := (hR.2.2.2 69 (by decide) w1_c69 rfl 30 (by decide)).1
theorem wi_69_40 (hR : x_R W1 (sh, gi, gl, gr)) : gi 69 40 = 0 := (hR.2.2.2 69 (by decide) w1_c69 rfl 40 (by decide)).1
theorem wi_69_56 (hR : x_R W1 (sh, gi, gl, gr)) : gi 69 56 = 0 := (hR.2.2.2 69 (by decide) w1_c69 rfl 56 (by decide)).1
theorem wi_69_74 (hR : x_R W1 (sh, gi, gl, gr)) : gi 69 74 = 0 := (hR.2.2.2 69 (by decide) w1_c69 rfl 74 (by decide)).1
theorem wi_69_75 (hR : x_R W1 (sh, gi, gl, gr)) : gi 69 75 = 0 := (hR.2.2.2 69 (by decide) w1_c69 rfl 75 (by decide)).1
theorem wi_70_0 (hR : x_R W1 (sh, gi, gl, gr)) : gi 70 0 = 0 := (hR.2.2.2 70 (by decide) w1_c70 rfl 0 (by decide)).1
theorem wi_70_1 (hR : x_R W1 (sh, gi, gl, gr)) : gi 70 1 = 0 := (hR.2.2.2 70 (by decide) w1_c70 rfl 1 (by decide)).1
theorem wi_70_2 (hR : x_R W1 (sh, gi, gl, gr)) : gi 70 2 = 0 := (hR.2.2.2 70 (by decide) w1_c70 rfl 2 (by decide)).1
theorem wi_70_3 (hR : x_R W1 (sh, gi, gl, gr)) : gi 70 3 = 0 := (hR.2.2.2 70 (by decide) w1_c70 rfl 3 (by decide)).1
theorem wi_70_4 (hR : x_R W1 (sh, gi, gl, gr)) : gi 70 4 = 5 := (hR.2.2.2 70 (by decide) w1_c70 rfl 4 (by decide)).1
theorem wi_70_5 (hR : x_R W1 (sh, gi, gl, gr)) : gi 70 5 = 0 := (hR.2.2.2 70 (by decide) w1_c70 rfl 5 (by decide)).1
theorem wi_70_53 (hR : x_R W1 (sh, gi, gl, gr)) : gi 70 53 = 0 := (hR.2.2.2 70 (by decide) w1_c70 rfl 53 (by decide)).1
theorem wi_70_58 (hR : x_R W1 (sh, gi, gl, gr)) : gi 70 58 = 0 := (hR.2.2.2 70 (by decide) w1_c70 rfl 58 (by decide)).1
theorem wi_70_6 (hR : x_R W1 (sh, gi, gl, gr)) : gi 70 6 = 0 := (hR.2.2.2 70 (by decide) w1_c70 rfl 6 (by decide)).1
theorem wi_70_63 (hR : x_R W1 (sh, gi, gl, gr)) : gi 70 63 = 0 := (hR.2.2.2 70 (by decide) w1_c70 rfl 63 (by decide)).1
theorem wi_70_68 (hR : x_R W1 (sh, gi, gl, gr)) : gi 70 68 = 0 := (hR.2.2.2 70 (by decide) w1_c70 rfl 68 (by decide)).1
theorem wi_70_7 (hR : x_R W1 (sh, gi, gl, gr)) : gi 70 7 = 0 := (hR.2.2.2 70 (by decide) w1_c70 rfl 7 (by decide)).1
theorem wi_70_73 (hR : x_R W1 (sh, gi, gl, gr)) : gi 70 73 = 0 := (hR.2.2.2 70 (by decide) w1_c70 rfl 73 (by decide)).1
theorem wi_70_78 (hR : x_R W1 (sh, gi, gl, gr)) : gi 70 78 = 0 := (hR.2.2.2 70 (by decide) w1_c70 rfl 78 (by decide)).1
theorem wi_70_8 (hR : x_R W1 (sh, gi, gl, gr)) : gi 70 8 = 0 := (hR.2.2.2 70 (by decide) w1_c70 rfl 8 (by decide)).1
theorem wi_70_82 (hR : x_R W1 (sh, gi, gl, gr)) : gi 70 82 = 0 := (hR.2.2.2 70 (by decide) w1_c70 rfl 82 (by decide)).1
theorem wi_70_85 (hR : x_R W1 (sh, gi, gl, gr)) : gi 70 85 = 0 := (hR.2.2.2 70 (by decide) w1_c70 rfl 85 (by decide)).1
theorem wi_70_88 (hR : x_R W1 (sh, gi, gl, gr)) : gi 70 88 = 0 := (hR.2.2.2 70 (by decide) w1_c70 rfl 88 (by decide)).1
theorem wi_70_91 (hR : x_R W1 (sh, gi, gl, gr)) : gi 70 91 = 0 := (hR.2.2.2 70 (by decide) w1_c70 rfl 91 (by decide)).1
theorem wi_70_94 (hR : x_R W1 (sh, gi, gl, gr)) : gi 70 94 = 0 := (hR.2.2.2 70 (by decide) w1_c70 rfl 94 (by decide)).1
theorem wi_70_97 (hR : x_R W1 (sh, gi, gl, gr)) : gi 70 97 = 0 := (hR.2.2.2 70 (by decide) w1_c70 rfl 97 (by decide)).1
theorem wi_73_0 (hR : x_R W1 (sh, gi, gl, gr)) : gi 73 0 = -1 := (hR.2.2.2 73 (by decide) w1_c73 rfl 0 (by decide)).1
theorem wi_73_1 (hR : x_R W1 (sh, gi, gl, gr)) : gi 73 1 = -1 := (hR.2.2.2 73 (by decide) w1_c73 rfl 1 (by decide)).1
theorem wi_73_2 (hR : x_R W1 (sh, gi, gl, gr)) : gi 73 2 = -1 := (hR.2.2.2 73 (by decide) w1_c73 rfl 2 (by decide)).1
theorem wi_73_3 (hR : x_R W1 (sh, gi, gl, gr)) : gi 73 3 = -1 := (hR.2.2.2 73 (by decide) w1_c73 rfl 3 (by decide)).1
theorem wl_0_1 (hR : x_R W1 (sh, gi, gl, gr)) : gl 0 1 = 0 := (hR.2.2.2 0 (by decide) w1_c0 rfl 1 (by decide)).2.1
theorem wl_0_2 (hR : x_R W1 (sh, gi, gl, gr)) : gl 0 2 = 1 := (hR.2.2.2 0 (by decide) w1_c0 rfl 2 (by decide)).2.1
theorem wl_69_3 (hR : x_R W1 (sh, gi, gl, gr)) : gl 69 3 = 0 := (hR.2.2.2 69 (by decide) w1_c69 rfl 3 (by decide)).2.1
theorem wl_69_4 (hR : x_R W1 (sh, gi, gl, gr)) : gl 69 4 = 1 := (hR.2.2.2 69 (by decide) w1_c69 rfl 4 (by decide)).2.1
theorem wr_0_6 (hR : x_R W1 (sh, gi, gl, gr)) : gr 0 6 = .ref 3 := (hR.2.2.2 0 (by decide) w1_c0 rfl 6 (by decide)).2.2
theorem wr_0_7 (hR : x_R W1 (sh, gi, gl, gr)) : gr 0 7 = .null := (hR.2.2.2 0 (by decide) w1_c0 rfl 7 (by decide)).2.2
end XF
