/-! ===== printed by riv.py: top, bottom ===== -/
noncomputable def wl_d_top : List (Nat × Nat) := []
noncomputable def Q_d_top (gi : Nat → Nat → Int32) (gl : Nat → Nat → Int64) (gr : Nat → Nat → Value) : Int64 → (Nat → Nat → Int32) → (Nat → Nat → Int64) → (Nat → Nat → Value) → Prop := fun (v : Int64) (gi2 : Nat → Nat → Int32) (gl2 : Nat → Nat → Int64) (gr2 : Nat → Nat → Value) => v = gl 0 1
theorem c_d_top {X : x_Ext} {d : Nat} {sh : List (Nat ⊕ (Nat × Nat))} {gi : Nat → Nat → Int32} {gl : Nat → Nat → Int64} {gr : Nat → Nat → Value} (hI : t_I sh gi gr) : x_Me X (d + 1) n_X11_top [.ref 0] (sh, gi, gl, gr) (t_PL wl_d_top sh gi gl gr (Q_d_top gi gl gr)) := by
  have hX : t_X wl_d_top sh gi gl gr gi gl gr := t_X.rf
  refine me_i f_X11_top (hI.wf.s rfl) rfl rfl rfl ?_
  refine ev_loc f_X11_top (nx := 1) rfl rfl rfl rfl ?_
  refine ev_getL f_X11_top (nx := 4) rfl (hI.wf.s rfl) rfl rfl rfl ?_
  exact ev_ret f_X11_top rfl rfl rfl ⟨_, _, _, rfl, hI, hX, ⟨_, rfl, (show (gl 0 1) = gl 0 1 from rfl)⟩⟩
noncomputable def wl_e_top : List (Nat × Nat) := []
noncomputable def Q_e_top (gi : Nat → Nat → Int32) (gl : Nat → Nat → Int64) (gr : Nat → Nat → Value) : Int64 → (Nat → Nat → Int32) → (Nat → Nat → Int64) → (Nat → Nat → Value) → Prop := fun (v : Int64) (gi2 : Nat → Nat → Int32) (gl2 : Nat → Nat → Int64) (gr2 : Nat → Nat → Value) => v = gl 69 3
theorem c_e_top {X : x_Ext} {d : Nat} {sh : List (Nat ⊕ (Nat × Nat))} {gi : Nat → Nat → Int32} {gl : Nat → Nat → Int64} {gr : Nat → Nat → Value} (hI : t_I sh gi gr) : x_Me X (d + 1) n_X12_top [.ref 69] (sh, gi, gl, gr) (t_PL wl_e_top sh gi gl gr (Q_e_top gi gl gr)) := by
  have hX : t_X wl_e_top sh gi gl gr gi gl gr := t_X.rf
  refine me_i f_X12_top (hI.wf.s rfl) rfl rfl rfl ?_
  refine ev_loc f_X12_top (nx := 1) rfl rfl rfl rfl ?_
  refine ev_getL f_X12_top (nx := 4) rfl (hI.wf.s rfl) rfl rfl rfl ?_
  exact ev_ret f_X12_top rfl rfl rfl ⟨_, _, _, rfl, hI, hX, ⟨_, rfl, (show (gl 69 3) = gl 69 3 from rfl)⟩⟩
noncomputable def wl_d_bottom : List (Nat × Nat) := []
noncomputable def Q_d_bottom (gi : Nat → Nat → Int32) (gl : Nat → Nat → Int64) (gr : Nat → Nat → Value) : Int64 → (Nat → Nat → Int32) → (Nat → Nat → Int64) → (Nat → Nat → Value) → Prop := fun (v : Int64) (gi2 : Nat → Nat → Int32) (gl2 : Nat → Nat → Int64) (gr2 : Nat → Nat → Value) => v = gl 0 2
theorem c_d_bottom {X : x_Ext} {d : Nat} {sh : List (Nat ⊕ (Nat × Nat))} {gi : Nat → Nat → Int32} {gl : Nat → Nat → Int64} {gr : Nat → Nat → Value} (hI : t_I sh gi gr) : x_Me X (d + 1) n_X11_bottom [.ref 0] (sh, gi, gl, gr) (t_PL wl_d_bottom sh gi gl gr (Q_d_bottom gi gl gr)) := by
  have hX : t_X wl_d_bottom sh gi gl gr gi gl gr := t_X.rf
  refine me_i f_X11_bottom (hI.wf.s rfl) rfl rfl rfl ?_
  refine ev_loc f_X11_bottom (nx := 1) rfl rfl rfl rfl ?_
  refine ev_getL f_X11_bottom (nx := 4) rfl (hI.wf.s rfl) rfl rfl rfl ?_
  exact ev_ret f_X11_bottom rfl rfl rfl ⟨_, _, _, rfl, hI, hX, ⟨_, rfl, (show (gl 0 2) = gl 0 2 from rfl)⟩⟩
noncomputable def wl_e_bottom : List (Nat × Nat) := []
noncomputable def Q_e_bottom (gi : Nat → Nat → Int32) (gl : Nat → Nat → Int64) (gr : Nat → Nat → Value) : Int64 → (Nat → Nat → Int32) → (Nat → Nat → Int64) → (Nat → Nat → Value) → Prop := fun (v : Int64) (gi2 : Nat → Nat → Int32) (gl2 : Nat → Nat → Int64) (gr2 : Nat → Nat → Value) => v = gl 69 4
theorem c_e_bottom {X : x_Ext} {d : Nat} {sh : List (Nat ⊕ (Nat × Nat))} {gi : Nat → Nat → Int32} {gl : Nat → Nat → Int64} {gr : Nat → Nat → Value} (hI : t_I sh gi gr) : x_Me X (d + 1) n_X12_bottom [.ref 69] (sh, gi, gl, gr) (t_PL wl_e_bottom sh gi gl gr (Q_e_bottom gi gl gr)) := by
  have hX : t_X wl_e_bottom sh gi gl gr gi gl gr := t_X.rf
  refine me_i f_X12_bottom (hI.wf.s rfl) rfl rfl rfl ?_
  refine ev_loc f_X12_bottom (nx := 1) rfl rfl rfl rfl ?_
  refine ev_getL f_X12_bottom (nx := 4) rfl (hI.wf.s rfl) rfl rfl rfl ?_
  exact ev_ret f_X12_bottom rfl rfl rfl ⟨_, _, _, rfl, hI, hX, ⟨_, rfl, (show (gl 69 4) = gl 69 4 from rfl)⟩⟩
