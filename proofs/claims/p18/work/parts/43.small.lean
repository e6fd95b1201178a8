/-! ===== small methods of the class ===== -/
section XS1
variable {X : x_Ext} {d mi ml : Nat} {P : Option Value → x_G → Prop} {T : List (Nat × x_Row)} {rt : Option FieldType}
variable {sh : List (Nat ⊕ (Nat × Nat))} {gi : Nat → Nat → Int32} {gl : Nat → Nat → Int64} {gr : Nat → Nat → Value} {k ci : Nat} {as : List Value}
theorem me_i (F : x_F mi T ml rt) (hk : sh[k]? = some (.inl ci)) (hm : x_mci mi = ci) (h12 : decide (ci < 12) = true) (hw : decide (x_words (.ref k :: as) ≤ ml) = true) (h : x_Ev X d mi 0 (lv_args 0 (.ref k :: as)) [] (sh, gi, gl, gr) P) : x_Me X d mi (.ref k :: as) (sh, gi, gl, gr) P := by
  refine ⟨by rw [F.2.1]; exact of_decide_eq_true hw, Or.inr ?_, h⟩
  show (match sh[k]? with | some (.inl ci) => ci == x_mci mi && decide (x_mci mi < 12) | _ => false) = true
  rw [hk, hm]
  simp [of_decide_eq_true h12]
theorem me_s {G : x_G} (F : x_F mi T ml rt) (hs : x_stat mi = true) (hw : decide (x_words as ≤ ml) = true) (h : x_Ev X d mi 0 (lv_args 0 as) [] G P) : x_Me X d mi as G P := ⟨by rw [F.2.1]; exact of_decide_eq_true hw, Or.inl hs, h⟩
theorem s_deny (hW : x_WF sh gr) (w : Int32) : x_Me X d n_X11_deny [.ref 0, .int w] (sh, gi, gl, gr) (fun v G' => v = some (.int 0) ∧ G' = (sh, x_up2 gi 0 0 w, gl, gr)) := by
  refine me_i f_X11_deny (hW.s rfl) rfl rfl rfl ?_
  refine ev_loc f_X11_deny (nx := 1) rfl rfl rfl rfl ?_
  refine ev_loc f_X11_deny (nx := 2) rfl rfl rfl rfl ?_
  refine ev_putI f_X11_deny (nx := 5) rfl (hW.s rfl) rfl rfl rfl ?_
  refine ev_ic f_X11_deny (nx := 6) (v := 0) rfl (by decide) rfl ?_
  refine ev_ret f_X11_deny rfl rfl rfl ?_
  exact ⟨rfl, rfl⟩
theorem s_grant (hW : x_WF sh gr)  : x_Me X d n_X11_grant [.ref 0] (sh, gi, gl, gr) (fun v G' => v = some (.int 1) ∧ G' = (sh, x_up2 gi 0 0 0, gl, gr)) := by
  refine me_i f_X11_grant (hW.s rfl) rfl rfl rfl ?_
  refine ev_loc f_X11_grant (nx := 1) rfl rfl rfl rfl ?_
  refine ev_ic f_X11_grant (nx := 2) (v := 0) rfl (by decide) rfl ?_
  refine ev_putI f_X11_grant (nx := 5) rfl (hW.s rfl) rfl rfl rfl ?_
  refine ev_ic f_X11_grant (nx := 6) (v := 1) rfl (by decide) rfl ?_
  refine ev_ret f_X11_grant rfl rfl rfl ?_
  exact ⟨rfl, rfl⟩
theorem s_refuse (hW : x_WF sh gr) (w : Int32) : x_Me X d n_X11_refuse [.ref 0, .int w] (sh, gi, gl, gr) (fun v G' => v = some (.int (-1)) ∧ G' = (sh, x_up2 gi 0 0 w, gl, gr)) := by
  refine me_i f_X11_refuse (hW.s rfl) rfl rfl rfl ?_
  refine ev_loc f_X11_refuse (nx := 1) rfl rfl rfl rfl ?_
  refine ev_loc f_X11_refuse (nx := 2) rfl rfl rfl rfl ?_
  refine ev_putI f_X11_refuse (nx := 5) rfl (hW.s rfl) rfl rfl rfl ?_
  refine ev_ic f_X11_refuse (nx := 6) (v := -1) rfl (by decide) rfl ?_
  refine ev_ret f_X11_refuse rfl rfl rfl ?_
  exact ⟨rfl, rfl⟩
theorem s_answer (hW : x_WF sh gr) (w : Int32) : x_Me X d n_X11_answer [.ref 0, .int w] (sh, gi, gl, gr) (fun v G' => v = some (.int w) ∧ G' = (sh, x_up2 gi 0 0 0, gl, gr)) := by
  refine me_i f_X11_answer (hW.s rfl) rfl rfl rfl ?_
  refine ev_loc f_X11_answer (nx := 1) rfl rfl rfl rfl ?_
  refine ev_ic f_X11_answer (nx := 2) (v := 0) rfl (by decide) rfl ?_
  refine ev_putI f_X11_answer (nx := 5) rfl (hW.s rfl) rfl rfl rfl ?_
  refine ev_loc f_X11_answer (nx := 6) rfl rfl rfl rfl ?_
  refine ev_ret f_X11_answer rfl rfl rfl ?_
  exact ⟨rfl, rfl⟩
theorem s_answerL (hW : x_WF sh gr) (w : Int64) : x_Me X d n_X11_answerLong [.ref 0, .long w] (sh, gi, gl, gr) (fun v G' => v = some (.long w) ∧ G' = (sh, x_up2 gi 0 0 0, gl, gr)) := by
  refine me_i f_X11_answerLong (hW.s rfl) rfl rfl rfl ?_
  refine ev_loc f_X11_answerLong (nx := 1) rfl rfl rfl rfl ?_
  refine ev_ic f_X11_answerLong (nx := 2) (v := 0) rfl (by decide) rfl ?_
  refine ev_putI f_X11_answerLong (nx := 5) rfl (hW.s rfl) rfl rfl rfl ?_
  refine ev_loc f_X11_answerLong (nx := 6) rfl rfl rfl rfl ?_
  refine ev_ret f_X11_answerLong rfl rfl rfl ?_
  exact ⟨rfl, rfl⟩
theorem s_status (hW : x_WF sh gr)  : x_Me X d n_X11_status [.ref 0] (sh, gi, gl, gr) (fun v G' => v = some (.int (gi 0 0)) ∧ G' = (sh, gi, gl, gr)) := by
  refine me_i f_X11_status (hW.s rfl) rfl rfl rfl ?_
  refine ev_loc f_X11_status (nx := 1) rfl rfl rfl rfl ?_
  refine ev_getI f_X11_status (nx := 4) rfl (hW.s rfl) rfl rfl rfl ?_
  refine ev_ret f_X11_status rfl rfl rfl ?_
  exact ⟨rfl, rfl⟩
theorem s_top (hW : x_WF sh gr)  : x_Me X d n_X11_top [.ref 0] (sh, gi, gl, gr) (fun v G' => v = some (.long (gl 0 1)) ∧ G' = (sh, gi, gl, gr)) := by
  refine me_i f_X11_top (hW.s rfl) rfl rfl rfl ?_
  refine ev_loc f_X11_top (nx := 1) rfl rfl rfl rfl ?_
  refine ev_getL f_X11_top (nx := 4) rfl (hW.s rfl) rfl rfl rfl ?_
  refine ev_ret f_X11_top rfl rfl rfl ?_
  exact ⟨rfl, rfl⟩
theorem s_fault (hW : x_WF sh gr) (w : Int32) : x_Me X d n_X11_fault [.ref 0, .int w] (sh, gi, gl, gr) (fun v G' => v = some (.int (if w = 0 then gi 0 8 else if w = 1 then gi 0 9 else -1)) ∧ G' = (sh, gi, gl, gr)) := by
  refine me_i f_X11_fault (hW.s rfl) rfl rfl rfl ?_
  refine ev_loc f_X11_fault (nx := 1) rfl rfl rfl rfl ?_
  refine ev_if f_X11_fault (t1 := 4) (t2 := 9) rfl rfl rfl (fun h1 => ?_) (fun h1 => ?_)
  · refine ev_loc f_X11_fault (nx := 5) rfl rfl rfl rfl ?_
    refine ev_getI f_X11_fault (nx := 8) rfl (hW.s rfl) rfl rfl rfl ?_
    refine ev_ret f_X11_fault rfl rfl rfl ?_
    simp_all
  · refine ev_loc f_X11_fault (nx := 10) rfl rfl rfl rfl ?_
    refine ev_ic f_X11_fault (nx := 11) (v := 1) rfl (by decide) rfl ?_
    refine ev_if f_X11_fault (t1 := 14) (t2 := 21) rfl rfl rfl (fun h11 => ?_) (fun h11 => ?_)
    · refine ev_loc f_X11_fault (nx := 15) rfl rfl rfl rfl ?_
      refine ev_getI f_X11_fault (nx := 18) rfl (hW.s rfl) rfl rfl rfl ?_
      refine ev_jmp f_X11_fault (nx := 22) rfl rfl rfl ?_
      refine ev_ret f_X11_fault rfl rfl rfl ?_
      simp_all
    · refine ev_ic f_X11_fault (nx := 22) (v := -1) rfl (by decide) rfl ?_
      refine ev_ret f_X11_fault rfl rfl rfl ?_
      simp_all
end XS1
