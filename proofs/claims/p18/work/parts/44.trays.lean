/-! ===== the TRAYS of the class ===== -/
noncomputable def x_zl (gl : Nat → Nat → Int64) (a n : Nat) : Nat → Nat → Int64 := fun p => if p = a then (fun b => if b < n then 0 else gl a b) else gl p
theorem x_zl_0 (gl : Nat → Nat → Int64) (a : Nat) : x_zl gl a 0 = gl := by
  funext p b
  unfold x_zl
  by_cases h : p = a
  · subst h; simp
  · simp [h]
theorem x_zl_s (gl : Nat → Nat → Int64) (a i : Nat) : x_up2 (x_zl gl a i) a i 0 = x_zl gl a (i + 1) := by
  funext p b
  unfold x_zl x_up2
  by_cases h : p = a
  · subst h
    simp only [if_true]
    by_cases hb : b = i
    · subst hb; simp
    · simp only [hb, if_false]
      by_cases hbi : b < i
      · simp [hbi, Nat.lt_succ_of_lt hbi]
      · rw [if_neg hbi, if_neg (by omega)]
  · simp [h]
section XS2
variable {X : x_Ext} {d : Nat}
variable {sh : List (Nat ⊕ (Nat × Nat))} {gi : Nat → Nat → Int32} {gl : Nat → Nat → Int64} {gr : Nat → Nat → Value} {k a : Nat}
theorem l_lay (hk : sh[k]? = some (.inl 9)) (hr : gr k 0 = .ref a) (ha : sh[a]? = some (.inr (1, 60))) (s m : Int32) : ∀ (n i : Nat), i ≤ 60 → 60 < i + n → x_Ev X d n_X10_lay 12 [(3, .int (nI i)), (0, .ref k), (1, .int s), (2, .int m)] [] (sh, gi, x_zl gl a i, gr) (fun v G' => v = none ∧ G' = (sh, gi, x_zl gl a 60, gr)) := by
  intro n
  induction n with
  | zero => intro i h1 h2; omega
  | succ n ih =>
    intro i h1 h2
    refine ev_loc f_X10_lay (nx := 13) rfl rfl rfl rfl ?_
    refine ev_loc f_X10_lay (nx := 14) rfl rfl rfl rfl ?_
    refine ev_getR f_X10_lay (nx := 17) rfl hk rfl rfl hr rfl rfl ?_
    refine ev_alen f_X10_lay (nx := 18) rfl ha rfl rfl ?_
    refine ev_if f_X10_lay (t1 := 34) (t2 := 21) rfl rfl rfl (fun h18 => ?_) (fun h18 => ?_)
    · have e : i = 60 := by
        have := (nI_leI (a := 60) (by omega) (by omega)).mp h18
        omega
      subst e
      exact ev_ret f_X10_lay rfl rfl rfl ⟨rfl, rfl⟩
    · have hi : i < 60 := by
        rcases Nat.lt_or_ge i 60 with q | q
        · exact q
        · exact absurd ((nI_leI (a := 60) (by omega) (by omega)).mpr q) h18
      refine ev_loc f_X10_lay (nx := 22) rfl rfl rfl rfl ?_
      refine ev_getR f_X10_lay (nx := 25) rfl hk rfl rfl hr rfl rfl ?_
      refine ev_loc f_X10_lay (nx := 26) rfl rfl rfl rfl ?_
      refine ev_lc f_X10_lay (nx := 27) (v := 0) rfl (by decide) rfl ?_
      refine ev_last f_X10_lay (nx := 28) rfl ha (nI_pos (by omega)) (by rw [nI_clamp (by omega)]; omega) rfl ?_
      refine ev_inc f_X10_lay (nx := 31) (c := 1) rfl rfl (by decide) rfl rfl rfl ?_
      refine ev_jmp f_X10_lay (nx := 12) rfl rfl rfl ?_
      rw [nI_clamp (by omega), x_zl_s]
      exact ev_lo (congrArg (fun z => [(3, Value.int z), (0, .ref k), (1, .int s), (2, .int m)]) (nI_1 i)) (ih (i + 1) (by omega) (by omega))
theorem s_lay (hk : sh[k]? = some (.inl 9)) (hr : gr k 0 = .ref a) (ha : sh[a]? = some (.inr (1, 60))) (s m : Int32) : x_Me X d n_X10_lay [.ref k, .int s, .int m] (sh, gi, gl, gr) (fun v G' => v = none ∧ G' = (sh, x_up2 (x_up2 gi k 1 s) k 2 m, x_zl gl a 60, gr)) := by
  refine me_i f_X10_lay hk rfl rfl rfl ?_
  refine ev_loc f_X10_lay (nx := 1) rfl rfl rfl rfl ?_
  refine ev_loc f_X10_lay (nx := 2) rfl rfl rfl rfl ?_
  refine ev_putI f_X10_lay (nx := 5) rfl hk rfl rfl rfl ?_
  refine ev_loc f_X10_lay (nx := 6) rfl rfl rfl rfl ?_
  refine ev_loc f_X10_lay (nx := 7) rfl rfl rfl rfl ?_
  refine ev_putI f_X10_lay (nx := 10) rfl hk rfl rfl rfl ?_
  refine ev_ic f_X10_lay (nx := 11) (v := 0) rfl (by decide) rfl ?_
  refine ev_loc f_X10_lay (nx := 12) rfl rfl rfl rfl ?_
  have h := l_lay (X := X) (d := d) (gi := x_up2 (x_up2 gi k 1 s) k 2 m) (gl := gl) hk hr ha s m 61 0 (by omega) (by omega)
  rw [x_zl_0] at h
  exact h
theorem s_isMissing (hk : sh[k]? = some (.inl 9))  : x_Me X d n_X10_isMissing [.ref k] (sh, gi, gl, gr) (fun v G' => v = some (.int (if gi k 2 = -1 then 1 else 0)) ∧ G' = (sh, gi, gl, gr)) := by
  refine me_i f_X10_isMissing hk rfl rfl rfl ?_
  refine ev_loc f_X10_isMissing (nx := 1) rfl rfl rfl rfl ?_
  refine ev_getI f_X10_isMissing (nx := 4) rfl hk rfl rfl rfl ?_
  refine ev_ic f_X10_isMissing (nx := 5) (v := -1) rfl (by decide) rfl ?_
  refine ev_if f_X10_isMissing (t1 := 8) (t2 := 12) rfl rfl rfl (fun h5 => ?_) (fun h5 => ?_)
  · refine ev_ic f_X10_isMissing (nx := 9) (v := 1) rfl (by decide) rfl ?_
    refine ev_jmp f_X10_isMissing (nx := 13) rfl rfl rfl ?_
    refine ev_ret f_X10_isMissing rfl rfl rfl ?_
    exact ⟨by simp_all, rfl⟩
  · refine ev_ic f_X10_isMissing (nx := 13) (v := 0) rfl (by decide) rfl ?_
    refine ev_ret f_X10_isMissing rfl rfl rfl ?_
    exact ⟨by simp_all, rfl⟩
theorem s_hasStretch (hk : sh[k]? = some (.inl 9)) (p n : Int32) : x_Me X d n_X10_hasStretch [.ref k, .int p, .int n] (sh, gi, gl, gr) (fun v G' => v = some (.int (if p ≤ gi k 2 ∧ n ≤ gi k 2 - p then 1 else 0)) ∧ G' = (sh, gi, gl, gr)) := by
  refine me_i f_X10_hasStretch hk rfl rfl rfl ?_
  refine ev_loc f_X10_hasStretch (nx := 1) rfl rfl rfl rfl ?_
  refine ev_loc f_X10_hasStretch (nx := 2) rfl rfl rfl rfl ?_
  refine ev_getI f_X10_hasStretch (nx := 5) rfl hk rfl rfl rfl ?_
  refine ev_if f_X10_hasStretch (t1 := 22) (t2 := 8) rfl rfl rfl (fun h5 => ?_) (fun h5 => ?_)
  · refine ev_ic f_X10_hasStretch (nx := 23) (v := 0) rfl (by decide) rfl ?_
    refine ev_ret f_X10_hasStretch rfl rfl rfl ?_
    refine ⟨?_, rfl⟩
    first
      | (rw [if_pos ⟨Int32.not_lt.mp (by assumption), Int32.not_lt.mp (by assumption)⟩])
      | (rw [if_neg (fun q => absurd (Int32.not_lt.mpr q.1) (by simpa using by assumption))])
      | (rw [if_neg (fun q => absurd (Int32.not_lt.mpr q.2) (by simpa using by assumption))])
  · refine ev_loc f_X10_hasStretch (nx := 9) rfl rfl rfl rfl ?_
    refine ev_loc f_X10_hasStretch (nx := 10) rfl rfl rfl rfl ?_
    refine ev_getI f_X10_hasStretch (nx := 13) rfl hk rfl rfl rfl ?_
    refine ev_loc f_X10_hasStretch (nx := 14) rfl rfl rfl rfl ?_
    refine ev_alu f_X10_hasStretch (nx := 15) rfl rfl rfl rfl ?_
    refine ev_if f_X10_hasStretch (t1 := 22) (t2 := 18) rfl rfl rfl (fun h15 => ?_) (fun h15 => ?_)
    · refine ev_ic f_X10_hasStretch (nx := 23) (v := 0) rfl (by decide) rfl ?_
      refine ev_ret f_X10_hasStretch rfl rfl rfl ?_
      refine ⟨?_, rfl⟩
      first
        | (rw [if_pos ⟨Int32.not_lt.mp (by assumption), Int32.not_lt.mp (by assumption)⟩])
        | (rw [if_neg (fun q => absurd (Int32.not_lt.mpr q.1) (by simpa using by assumption))])
        | (rw [if_neg (fun q => absurd (Int32.not_lt.mpr q.2) (by simpa using by assumption))])
    · refine ev_ic f_X10_hasStretch (nx := 19) (v := 1) rfl (by decide) rfl ?_
      refine ev_jmp f_X10_hasStretch (nx := 23) rfl rfl rfl ?_
      refine ev_ret f_X10_hasStretch rfl rfl rfl ?_
      refine ⟨?_, rfl⟩
      first
        | (rw [if_pos ⟨Int32.not_lt.mp (by assumption), Int32.not_lt.mp (by assumption)⟩])
        | (rw [if_neg (fun q => absurd (Int32.not_lt.mpr q.1) (by simpa using by assumption))])
        | (rw [if_neg (fun q => absurd (Int32.not_lt.mpr q.2) (by simpa using by assumption))])
end XS2
