/-! ===== a text refused ahead: nothing of the FAULT is touched; rules() answers alike ===== -/
theorem c_n_begins0 {X : x_Ext} {d : Nat} {sh : List (Nat ⊕ (Nat × Nat))} {gi : Nat → Nat → Int32} {gl : Nat → Nat → Int64} {gr : Nat → Nat → Value} (hI : t_I sh gi gr) (ar1 ar2 : Int32) (hn : ¬ (0 ≤ ar1.toInt ∧ ar1.toInt ≤ (gi 69 10).toInt ∧ ar1.toInt ≤ ar2.toInt)) : x_Me X (d + 3) n_X12_begins [.ref 69, .int ar1, .int ar2] (sh, gi, gl, gr) (t_PI [] sh gi gl gr 0 0 (fun _ _ _ _ => True)) := by
  have kf0 : (0 : Int32).toInt = 0 := (by decide)
  refine me_i f_X12_begins (hI.wf.s rfl) rfl rfl rfl ?_
  refine ev_loc f_X12_begins (nx := 1) rfl rfl rfl rfl ?_
  refine ev_if f_X12_begins (t1 := 17) (t2 := 4) rfl rfl rfl (fun h1 => ?_) (fun h1 => ?_)
  · refine ev_ic f_X12_begins (nx := 18) (v := 0) rfl (by decide) rfl ?_
    exact ev_ret f_X12_begins rfl rfl rfl ⟨_, _, _, rfl, hI, t_X.rf, ⟨_, rfl, by decide, by decide, trivial⟩⟩
  have h1 := Int32.le_iff_toInt_le.mp (t_nlt h1)
  refine ev_loc f_X12_begins (nx := 5) rfl rfl rfl rfl ?_
  refine ev_loc f_X12_begins (nx := 6) rfl rfl rfl rfl ?_
  refine ev_gvI f_X12_begins (nx := 9) (w := (gi 69 10)) rfl (hI.wf.s rfl) rfl rfl rfl rfl ?_
  refine ev_if f_X12_begins (t1 := 17) (t2 := 12) rfl rfl rfl (fun h2 => ?_) (fun h2 => ?_)
  · refine ev_ic f_X12_begins (nx := 18) (v := 0) rfl (by decide) rfl ?_
    exact ev_ret f_X12_begins rfl rfl rfl ⟨_, _, _, rfl, hI, t_X.rf, ⟨_, rfl, by decide, by decide, trivial⟩⟩
  have h2 := Int32.le_iff_toInt_le.mp (t_nlt h2)
  refine ev_loc f_X12_begins (nx := 13) rfl rfl rfl rfl ?_
  refine ev_loc f_X12_begins (nx := 14) rfl rfl rfl rfl ?_
  refine ev_if f_X12_begins (t1 := 19) (t2 := 17) rfl rfl rfl (fun h3 => ?_) (fun h3 => ?_)
  · exact absurd (show (0 ≤ ar1.toInt ∧ ar1.toInt ≤ (gi 69 10).toInt ∧ ar1.toInt ≤ ar2.toInt) from ⟨by omega, by omega, Int32.le_iff_toInt_le.mp h3⟩) hn
  · refine ev_ic f_X12_begins (nx := 18) (v := 0) rfl (by decide) rfl ?_
    exact ev_ret f_X12_begins rfl rfl rfl ⟨_, _, _, rfl, hI, t_X.rf, ⟨_, rfl, by decide, by decide, trivial⟩⟩
theorem c_n_riverF {X : x_Ext} {d : Nat} {sh : List (Nat ⊕ (Nat × Nat))} {gi : Nat → Nat → Int32} {gl : Nat → Nat → Int64} {gr : Nat → Nat → Value} (hI : t_I sh gi gr) (ar1 : Int32) : x_Me X (d + 10) n_X12_river [.ref 69, .int ar1] (sh, gi, gl, gr) (t_PI wl_n_river sh gi gl gr (-1) 6 (fun v g l r => Q_n_river gi gl gr ar1 v g l r ∧ (¬ (0 ≤ ar1.toInt ∧ ar1.toInt ≤ (gi 69 10).toInt) → g 69 16 = gi 69 16 ∧ g 69 17 = gi 69 17))) := by
  by_cases hin : (0 ≤ ar1.toInt ∧ ar1.toInt ≤ (gi 69 10).toInt)
  · refine (c_n_river hI ar1).mono ?_
    rintro v G1 ⟨g1, l1, r1, rfl, k1, k2, x, rfl, a, b, q⟩
    exact ⟨g1, l1, r1, rfl, k1, k2, x, rfl, a, b, q, fun hh => absurd hin hh⟩
  have hX : t_X wl_n_river sh gi gl gr gi gl gr := t_X.rf
  have hu := hI.b (hI.wf.s (k := 69) rfl) (t_bdK rfl : t_bd 11 10 = some (0, 900))
  have km : (900 : Int32).toInt = 900 := rfl
  have kf0 : (0 : Int32).toInt = 0 := (by decide)
  refine me_i f_X12_river (hI.wf.s rfl) rfl rfl rfl ?_
  refine ev_loc f_X12_river (nx := 1) rfl rfl rfl rfl ?_
  refine ev_loc f_X12_river (nx := 2) rfl rfl rfl rfl ?_
  refine ev_sp f_X12_river (nx := 5) (v := 900) rfl (by decide) rfl ?_
  refine ev_qI0 f_X12_river (nx := 8) (r := []) rfl rfl rfl rfl rfl rfl rfl (c_n_begins0 hI ar1 900 (fun h => hin (by omega))) rfl (fun w lw uw _ => ?_)
  refine ev_if f_X12_river (t1 := 11) (t2 := 17) rfl rfl rfl (fun h3 => ?_) (fun h3 => ?_)
  rotate_left
  · exact absurd (Int32.toInt_inj.mp (by omega)) h3
  refine ev_loc f_X12_river (nx := 12) rfl rfl rfl rfl ?_
  refine ev_ic f_X12_river (nx := 13) (v := 1) rfl (by decide) rfl ?_
  refine ev_inV2 f_X12_river (nx := 16) (lo2 := [(0, .ref 69), (1, .int 1)]) rfl rfl rfl rfl f_X12_refuse (hI.wf.s rfl) rfl rfl rfl rfl rfl ?_
  refine ev_loc f_X12_refuse (nx := 1) rfl rfl rfl rfl ?_
  refine ev_loc f_X12_refuse (nx := 2) rfl rfl rfl rfl ?_
  refine ev_putIT f_X12_refuse (nx := 5) rfl (hI.wf.s rfl) rfl rfl rfl (hI.put0 (hI.wf.s rfl) rfl rfl) (hX.upI rfl) (fun g4 e4 hI hX => ?_)
  refine ev_ic f_X12_refuse (nx := 6) (v := -1) rfl (by decide) rfl ?_
  refine ev_retK1 f_X12_refuse rfl rfl rfl ?_
  exact ev_ret f_X12_river rfl rfl rfl ⟨_, _, _, rfl, hI, hX, ⟨_, rfl, by decide, by decide, And.intro (And.intro (fun hh => absurd hh hin) (fun _ => And.intro rfl (fun j _ => by rw [e4, x_up2_ne (by decide)]))) (fun _ => ⟨by rw [e4]; exact x_up2_off (Or.inr (by decide)), by rw [e4]; exact x_up2_off (Or.inr (by decide))⟩)⟩⟩
theorem c_n_rulesF {X : x_Ext} {d : Nat} {sh : List (Nat ⊕ (Nat × Nat))} {gi : Nat → Nat → Int32} {gl : Nat → Nat → Int64} {gr : Nat → Nat → Value} (hI : t_I sh gi gr) (ar1 : Int32) : x_Me X (d + 9) n_X12_rules [.ref 69, .int ar1] (sh, gi, gl, gr) (t_PI wl_n_rules sh gi gl gr (-1) 12 (fun v g l r => Q_n_rules gi gl gr ar1 v g l r ∧ (¬ (0 ≤ ar1.toInt ∧ ar1.toInt ≤ (gi 69 10).toInt ∧ ar1.toInt ≤ 300) → g 69 16 = gi 69 16 ∧ g 69 17 = gi 69 17))) := by
  by_cases hin : (0 ≤ ar1.toInt ∧ ar1.toInt ≤ (gi 69 10).toInt ∧ ar1.toInt ≤ 300)
  · refine (c_n_rules hI ar1).mono ?_
    rintro v G1 ⟨g1, l1, r1, rfl, k1, k2, x, rfl, a, b, q⟩
    exact ⟨g1, l1, r1, rfl, k1, k2, x, rfl, a, b, q, fun hh => absurd hin hh⟩
  have hX : t_X wl_n_rules sh gi gl gr gi gl gr := t_X.rf
  have hu := hI.b (hI.wf.s (k := 69) rfl) (t_bdK rfl : t_bd 11 10 = some (0, 900))
  have km : (300 : Int32).toInt = 300 := rfl
  have kf0 : (0 : Int32).toInt = 0 := (by decide)
  refine me_i f_X12_rules (hI.wf.s rfl) rfl rfl rfl ?_
  refine ev_loc f_X12_rules (nx := 1) rfl rfl rfl rfl ?_
  refine ev_loc f_X12_rules (nx := 2) rfl rfl rfl rfl ?_
  refine ev_sp f_X12_rules (nx := 5) (v := 300) rfl (by decide) rfl ?_
  refine ev_qI0 f_X12_rules (nx := 8) (r := []) rfl rfl rfl rfl rfl rfl rfl (c_n_begins0 hI ar1 300 (fun h => hin (by omega))) rfl (fun w lw uw _ => ?_)
  refine ev_if f_X12_rules (t1 := 11) (t2 := 17) rfl rfl rfl (fun h3 => ?_) (fun h3 => ?_)
  rotate_left
  · exact absurd (Int32.toInt_inj.mp (by omega)) h3
  refine ev_loc f_X12_rules (nx := 12) rfl rfl rfl rfl ?_
  refine ev_ic f_X12_rules (nx := 13) (v := 1) rfl (by decide) rfl ?_
  refine ev_inV2 f_X12_rules (nx := 16) (lo2 := [(0, .ref 69), (1, .int 1)]) rfl rfl rfl rfl f_X12_refuse (hI.wf.s rfl) rfl rfl rfl rfl rfl ?_
  refine ev_loc f_X12_refuse (nx := 1) rfl rfl rfl rfl ?_
  refine ev_loc f_X12_refuse (nx := 2) rfl rfl rfl rfl ?_
  refine ev_putIT f_X12_refuse (nx := 5) rfl (hI.wf.s rfl) rfl rfl rfl (hI.put0 (hI.wf.s rfl) rfl rfl) (hX.upI rfl) (fun g4 e4 hI hX => ?_)
  refine ev_ic f_X12_refuse (nx := 6) (v := -1) rfl (by decide) rfl ?_
  refine ev_retK1 f_X12_refuse rfl rfl rfl ?_
  exact ev_ret f_X12_rules rfl rfl rfl ⟨_, _, _, rfl, hI, hX, ⟨_, rfl, by decide, by decide, And.intro (And.intro (fun hh => absurd hh hin) (fun _ => And.intro rfl (And.intro (by rw [e4, x_up2_ne (by decide)]) (by rw [e4, x_up2_ne (by decide)])))) (fun _ => ⟨by rw [e4]; exact x_up2_off (Or.inr (by decide)), by rw [e4]; exact x_up2_off (Or.inr (by decide))⟩)⟩⟩
theorem c_s_riverF {X : x_Ext} {d : Nat} {sh : List (Nat ⊕ (Nat × Nat))} {gi : Nat → Nat → Int32} {gl : Nat → Nat → Int64} {gr : Nat → Nat → Value} (hI : t_I sh gi gr) (hH : t_H sh) (ar1 : Int32) : x_Me X (d + 11) n_X11_river [.ref 0, .int ar1] (sh, gi, gl, gr) (fun v G1 => ∃ sh1 g l r x, G1 = (sh1, g, l, r) ∧ v = some (.int x) ∧ (((0 ≤ ar1.toInt ∧ ar1.toInt ≤ (gi 0 5).toInt) → ∀ n : Nat, (n : Int) = ar1.toInt → t_RES gi gl gr sh.length (gi 2) n x g l r) ∧ (¬ (0 ≤ ar1.toInt ∧ ar1.toInt ≤ (gi 0 5).toInt) → x.toInt = -1 ∧ (∀ K, K ≠ 0 → g K = gi K ∧ l K = gl K ∧ r K = gr K) ∧ r 0 6 = gr 0 6 ∧ r 0 7 = gr 0 7) ∧ ((0 ≤ ar1.toInt ∧ ar1.toInt ≤ (gi 0 5).toInt) → sh.length + 18 ≤ sh1.length)) ∧ (¬ (0 ≤ ar1.toInt ∧ ar1.toInt ≤ (gi 0 5).toInt) → g 0 8 = gi 0 8 ∧ g 0 9 = gi 0 9)) := by
  by_cases hin : (0 ≤ ar1.toInt ∧ ar1.toInt ≤ (gi 0 5).toInt)
  · refine (c_s_river hI hH ar1).mono ?_
    rintro v G1 ⟨sh1, g, l, r, x, e1, e2, h⟩
    exact ⟨sh1, g, l, r, x, e1, e2, h, fun hh => absurd hin hh⟩
  have kf0 : (0 : Int32).toInt = 0 := (by decide)
  refine me_i f_X11_river (hI.wf.s rfl) rfl rfl rfl ?_
  refine ev_loc f_X11_river (nx := 1) rfl rfl rfl rfl ?_
  refine ev_if f_X11_river (t1 := 12) (t2 := 4) rfl rfl rfl (fun h1 => ?_) (fun h1 => ?_)
  · refine x_Ev.mono (x_Ev.up (c_t_riverN (d := d) hI ar1) (by omega)) ?_
    rintro v G1 ⟨g1, l1, r1, rfl, k1, k2, x, rfl, -, -, k3⟩
    exact ⟨sh, g1, l1, r1, x, rfl, rfl, ⟨fun hi => absurd hi hin, fun _ => ⟨k3, fun K hK => t_row0 k2 rfl hK, (k2.1 0 6 rfl).2.2, (k2.1 0 7 rfl).2.2⟩, fun hi => absurd hi hin⟩, fun _ => ⟨(k2.1 0 8 rfl).1, (k2.1 0 9 rfl).1⟩⟩
  have h1 := Int32.le_iff_toInt_le.mp (t_nlt h1)
  refine ev_loc f_X11_river (nx := 5) rfl rfl rfl rfl ?_
  refine ev_loc f_X11_river (nx := 6) rfl rfl rfl rfl ?_
  refine ev_getI f_X11_river (nx := 9) rfl (hI.wf.s rfl) rfl rfl rfl ?_
  refine ev_if f_X11_river (t1 := 18) (t2 := 12) rfl rfl rfl (fun h2 => ?_) (fun h2 => ?_)
  · exact absurd (show (0 ≤ ar1.toInt ∧ ar1.toInt ≤ (gi 0 5).toInt) from ⟨by omega, Int32.le_iff_toInt_le.mp h2⟩) hin
  · refine x_Ev.mono (x_Ev.up (c_t_riverN (d := d) hI ar1) (by omega)) ?_
    rintro v G1 ⟨g1, l1, r1, rfl, k1, k2, x, rfl, -, -, k3⟩
    exact ⟨sh, g1, l1, r1, x, rfl, rfl, ⟨fun hi => absurd hi hin, fun _ => ⟨k3, fun K hK => t_row0 k2 rfl hK, (k2.1 0 6 rfl).2.2, (k2.1 0 7 rfl).2.2⟩, fun hi => absurd hi hin⟩, fun _ => ⟨(k2.1 0 8 rfl).1, (k2.1 0 9 rfl).1⟩⟩
theorem c_u_rulesF {X : x_Ext} {d : Nat} {sh : List (Nat ⊕ (Nat × Nat))} {gi : Nat → Nat → Int32} {gl : Nat → Nat → Int64} {gr : Nat → Nat → Value} (hI : t_I sh gi gr) (hH : t_H sh) (ar1 : Int32) : x_Me X (d + 70) n_X11_rules [.ref 0, .int ar1] (sh, gi, gl, gr) (fun v G1 => ∃ sh1 g l r x, G1 = (sh1, g, l, r) ∧ v = some (.int x) ∧ (((0 ≤ ar1.toInt ∧ ar1.toInt ≤ (gi 0 5).toInt ∧ ar1.toInt ≤ 300) → ∀ n : Nat, (n : Int) = ar1.toInt → t_RSR gi gl gr sh.length (gi 2) n x g l r) ∧ (¬ (0 ≤ ar1.toInt ∧ ar1.toInt ≤ (gi 0 5).toInt ∧ ar1.toInt ≤ 300) → x.toInt = -1 ∧ (∀ K, K ≠ 0 → g K = gi K ∧ l K = gl K ∧ r K = gr K) ∧ r 0 6 = gr 0 6 ∧ r 0 7 = gr 0 7)) ∧ (¬ (0 ≤ ar1.toInt ∧ ar1.toInt ≤ (gi 0 5).toInt ∧ ar1.toInt ≤ 300) → g 0 8 = gi 0 8 ∧ g 0 9 = gi 0 9)) := by
  by_cases hin : (0 ≤ ar1.toInt ∧ ar1.toInt ≤ (gi 0 5).toInt ∧ ar1.toInt ≤ 300)
  · refine (c_u_rules hI hH ar1).mono ?_
    rintro v G1 ⟨sh1, g, l, r, x, e1, e2, h⟩
    exact ⟨sh1, g, l, r, x, e1, e2, h, fun hh => absurd hin hh⟩
  have kf0 : (0 : Int32).toInt = 0 := (by decide)
  refine me_i f_X11_rules (hI.wf.s rfl) rfl rfl rfl ?_
  refine ev_loc f_X11_rules (nx := 1) rfl rfl rfl rfl ?_
  refine ev_if f_X11_rules (t1 := 19) (t2 := 4) rfl rfl rfl (fun h1 => ?_) (fun h1 => ?_)
  · refine x_Ev.mono (x_Ev.up (c_t_rulesN (d := d) hI ar1) (by omega)) ?_
    rintro v G1 ⟨g1, l1, r1, rfl, k1, k2, x, rfl, -, -, k3⟩
    exact ⟨sh, g1, l1, r1, x, rfl, rfl, ⟨fun hi => absurd hi hin, fun _ => ⟨k3, fun K hK => t_row0 k2 rfl hK, (k2.1 0 6 rfl).2.2, (k2.1 0 7 rfl).2.2⟩⟩, fun _ => ⟨(k2.1 0 8 rfl).1, (k2.1 0 9 rfl).1⟩⟩
  have h1 := Int32.le_iff_toInt_le.mp (t_nlt h1)
  refine ev_loc f_X11_rules (nx := 5) rfl rfl rfl rfl ?_
  refine ev_loc f_X11_rules (nx := 6) rfl rfl rfl rfl ?_
  refine ev_getI f_X11_rules (nx := 9) rfl (hI.wf.s rfl) rfl rfl rfl ?_
  refine ev_if f_X11_rules (t1 := 19) (t2 := 12) rfl rfl rfl (fun h2 => ?_) (fun h2 => ?_)
  · refine x_Ev.mono (x_Ev.up (c_t_rulesN (d := d) hI ar1) (by omega)) ?_
    rintro v G1 ⟨g1, l1, r1, rfl, k1, k2, x, rfl, -, -, k3⟩
    exact ⟨sh, g1, l1, r1, x, rfl, rfl, ⟨fun hi => absurd hi hin, fun _ => ⟨k3, fun K hK => t_row0 k2 rfl hK, (k2.1 0 6 rfl).2.2, (k2.1 0 7 rfl).2.2⟩⟩, fun _ => ⟨(k2.1 0 8 rfl).1, (k2.1 0 9 rfl).1⟩⟩
  have h2 := Int32.le_iff_toInt_le.mp (t_nlt h2)
  refine ev_loc f_X11_rules (nx := 13) rfl rfl rfl rfl ?_
  refine ev_sp f_X11_rules (nx := 16) (v := 300) rfl (by decide) rfl ?_
  refine ev_if f_X11_rules (t1 := 25) (t2 := 19) rfl rfl rfl (fun h3 => ?_) (fun h3 => ?_)
  · have h3 := Int32.le_iff_toInt_le.mp h3
    have k3 : (300 : Int32).toInt = 300 := rfl
    exact absurd (show (0 ≤ ar1.toInt ∧ ar1.toInt ≤ (gi 0 5).toInt ∧ ar1.toInt ≤ 300) from ⟨by omega, by omega, by omega⟩) hin
  · refine x_Ev.mono (x_Ev.up (c_t_rulesN (d := d) hI ar1) (by omega)) ?_
    rintro v G1 ⟨g1, l1, r1, rfl, k1, k2, x, rfl, -, -, k3⟩
    exact ⟨sh, g1, l1, r1, x, rfl, rfl, ⟨fun hi => absurd hi hin, fun _ => ⟨k3, fun K hK => t_row0 k2 rfl hK, (k2.1 0 6 rfl).2.2, (k2.1 0 7 rfl).2.2⟩⟩, fun _ => ⟨(k2.1 0 8 rfl).1, (k2.1 0 9 rfl).1⟩⟩
section LRU
variable {gi g1 g2 : Nat → Nat → Int32} {gl l1 l2 : Nat → Nat → Int64} {gr r1 r2 : Nat → Nat → Value} {w1 w2 : List (Nat × Nat)} {A x1 x2 : Int32} {N N2 : Nat}
theorem s_rls_ob {b : Nat → Int32} {n p : Nat} {k : Nat} {x : Int} (hx : x ≠ 0) (h : (((0 : Int), (0 : Int)), k) = ((s_qb b n p x).1, 0)) : False :=
  s_fk_ne (b := b) (n := n) (p := p) hx (congrArg (fun r : (Int × Int) × Nat => r.1.1) h).symm
/-- what both come to -/
theorem t_RU_two (hT : t_TP gi) (hR : t_R gi gr) (f1 : t_F w1 gi gl gr g1 l1 r1) (h75 : t_nc w1 75 = true) (h69 : t_in w1 69 10 = false) (hin : 0 ≤ A.toInt ∧ A.toInt ≤ (gi 0 5).toInt ∧ A.toInt ≤ 300) (q1 : (0 ≤ A.toInt ∧ A.toInt ≤ (gi 0 5).toInt ∧ A.toInt ≤ 300) → ∀ n : Nat, (n : Int) = A.toInt → t_RSR gi gl gr N (gi 2) n x1 g1 l1 r1) (q2 : Q_n_rules g1 l1 r1 A x2 g2 l2 r2) : (∃ k : Nat, (x1.toInt = (k : Int) ∧ x2.toInt = (k : Int)) ∧ ((g1 0 8).toInt = 0 ∧ (g1 0 9).toInt = -1) ∧ ((g2 69 16).toInt = 0 ∧ (g2 69 17).toInt = -1) ∧ (r1 0 7 = .ref (N + 2) ∧ (g1 (N + 2) 0).toInt = (k : Int)) ∧ ((g2 70 3).toInt = (k : Int) ∧ (g2 70 8).toInt = 1)) ∨ ((x1.toInt = -1 ∧ x2.toInt = -1) ∧ ((g1 0 8).toInt = (g2 69 16).toInt ∧ (g1 0 9).toInt = (g2 69 17).toInt) ∧ r1 0 7 = gr 0 7 ∧ (g2 70 3 = g1 70 3 ∧ g2 70 8 = g1 70 8)) := by
  have e0 : (gi 0 5).toInt = (gi 69 10).toInt := congrArg Int32.toInt (t_R_fed hR)
  have e1 : (g1 69 10).toInt = (gi 69 10).toInt := congrArg Int32.toInt (f1 69 10 (by decide) h69).1
  have r75 : g1 75 = gi 75 := t_F_nc f1 h75 (by decide)
  obtain ⟨n, hn⟩ : ∃ n : Nat, (n : Int) = A.toInt := ⟨A.toInt.toNat, by omega⟩
  have k1 := (q1 hin n hn).1
  have k2 := q2.1 (by omega) (gi 2) n hn (fun j hj => by rw [r75]; exact (hT j (by omega)).1.symm) (fun j hj => (hT j (by omega)).2)
  rcases k1 with ⟨k, a1, a2, a3, a4, a5, a6, a7⟩ | ⟨p, x, a0, a1, a2, a3, a4, a5, a6⟩
  · rcases k2 with ⟨k', b1, b2, b3, b4, b5, b6⟩ | ⟨p', x', b0, b1, -⟩
    · have hk : k = k' := congrArg (fun r : (Int × Int) × Nat => r.2) (a1.symm.trans b1)
      subst hk
      exact Or.inl ⟨k, ⟨a2, b2⟩, ⟨a3, a4⟩, ⟨b4, b5⟩, ⟨a6, a7⟩, b3, b6⟩
    · exact (s_rls_ob b0 (a1.symm.trans b1)).elim
  · rcases k2 with ⟨k', b1, -⟩ | ⟨p', x', b0, b1, b2, b3, b4, b5⟩
    · exact (s_rls_ob a0 (b1.symm.trans a1)).elim
    · have h := a1.symm.trans b1
      have h1 : s_fk (gi 2) n p x = s_fk (gi 2) n p' x' := congrArg (fun r : (Int × Int) × Nat => r.1.1) h
      have h2 : ((s_F (gi 2) n p : Nat) : Int) = ((s_F (gi 2) n p' : Nat) : Int) := congrArg (fun r : (Int × Int) × Nat => r.1.2) h
      exact Or.inr ⟨⟨a2, b2⟩, ⟨by rw [a3, b3, h1], by rw [a4, b4, h2]⟩, a6, b5⟩
theorem t_L_rules (hT : t_TP gi) (hR : t_R gi gr) (f1 : t_F w1 gi gl gr g1 l1 r1) (h75 : t_nc w1 75 = true) (h69 : t_in w1 69 10 = false) (q1 : ((0 ≤ A.toInt ∧ A.toInt ≤ (gi 0 5).toInt ∧ A.toInt ≤ 300) → ∀ n : Nat, (n : Int) = A.toInt → t_RSR gi gl gr N (gi 2) n x1 g1 l1 r1) ∧ (¬ (0 ≤ A.toInt ∧ A.toInt ≤ (gi 0 5).toInt ∧ A.toInt ≤ 300) → x1.toInt = -1 ∧ (∀ K, K ≠ 0 → g1 K = gi K ∧ l1 K = gl K ∧ r1 K = gr K) ∧ r1 0 6 = gr 0 6 ∧ r1 0 7 = gr 0 7)) (q2 : Q_n_rules g1 l1 r1 A x2 g2 l2 r2) : x1 = x2 := by
  have e0 : (gi 0 5).toInt = (gi 69 10).toInt := congrArg Int32.toInt (t_R_fed hR)
  have e1 : (g1 69 10).toInt = (gi 69 10).toInt := congrArg Int32.toInt (f1 69 10 (by decide) h69).1
  apply Int32.toInt_inj.mp
  by_cases hin : 0 ≤ A.toInt ∧ A.toInt ≤ (gi 0 5).toInt ∧ A.toInt ≤ 300
  · rcases t_RU_two hT hR f1 h75 h69 hin q1.1 q2 with ⟨k, h, -⟩ | ⟨h, -⟩
    · rw [h.1, h.2]
    · rw [h.1, h.2]
  · rw [(q1.2 hin).1, (q2.2 (by omega)).1]
end LRU
/-! ===== printed by riv.py: what told() tells ===== -/
noncomputable def wl_d_told : List (Nat × Nat) := [(0, 0)]
noncomputable def Q_d_told (gi : Nat → Nat → Int32) (gl : Nat → Nat → Int64) (gr : Nat → Nat → Value) (ar1 : Int32) : Int32 → (Nat → Nat → Int32) → (Nat → Nat → Int64) → (Nat → Nat → Value) → Prop := fun (v : Int32) (gi2 : Nat → Nat → Int32) (gl2 : Nat → Nat → Int64) (gr2 : Nat → Nat → Value) => ∀ (u : Nat) (D : s_D), gr 0 6 = .ref u → t_VL gr u → t_CV gi gl u D → t_Cb D → ((ar1.toInt = 0 ∨ ar1.toInt = 1 ∨ ar1.toInt = 2 ∨ ar1.toInt = 4 ∨ ar1.toInt = 5 ∨ ar1.toInt = 6 ∨ ar1.toInt = 7) → v.toInt = D ar1.toInt.toNat) ∧ (ar1.toInt = 3 → (gr 0 7 = .null → v.toInt = 0) ∧ ∀ u2 : Nat, gr 0 7 = .ref u2 → v.toInt = (gi u2 0).toInt) ∧ (¬ (0 ≤ ar1.toInt ∧ ar1.toInt ≤ 7) → v.toInt = -1)
theorem c_d_told {X : x_Ext} {d : Nat} {sh : List (Nat ⊕ (Nat × Nat))} {gi : Nat → Nat → Int32} {gl : Nat → Nat → Int64} {gr : Nat → Nat → Value} (hI : t_I sh gi gr) (ar1 : Int32) : x_Me X (d + 2) n_X11_told [.ref 0, .int ar1] (sh, gi, gl, gr) (t_PI wl_d_told sh gi gl gr (-2147483648) 2147483647 (Q_d_told gi gl gr ar1)) := by
  have hX : t_X wl_d_told sh gi gl gr gi gl gr := t_X.rf
  refine me_i f_X11_told (hI.wf.s rfl) rfl rfl rfl ?_
  refine ev_loc f_X11_told (nx := 1) rfl rfl rfl rfl ?_
  have h1 : ar1.toInt = 0 ∨ ar1.toInt = 1 ∨ ar1.toInt = 2 ∨ ar1.toInt = 3 ∨ ar1.toInt = 4 ∨ ar1.toInt = 5 ∨ ar1.toInt = 6 ∨ ar1.toInt = 7 ∨ (ar1.toInt ≠ 0 ∧ ar1.toInt ≠ 1 ∧ ar1.toInt ≠ 2 ∧ ar1.toInt ≠ 3 ∧ ar1.toInt ≠ 4 ∧ ar1.toInt ≠ 5 ∧ ar1.toInt ≠ 6 ∧ ar1.toInt ≠ 7) := by have := (t_lo ar1); have := (t_hi ar1); omega
  rcases h1 with h1 | h1 | h1 | h1 | h1 | h1 | h1 | h1 | h1
  · refine ev_swt f_X11_told (nx := 48) (c := 0) rfl h1 rfl ?_
    refine ev_loc f_X11_told (nx := 49) rfl rfl rfl rfl ?_
    refine ev_loc f_X11_told (nx := 50) rfl rfl rfl rfl ?_
    obtain ⟨a2, e2, p2⟩ := hI.2.2.2.1.1
    refine ev_getR f_X11_told (nx := 53) rfl (hI.wf.s rfl) rfl rfl e2 rfl rfl ?_
    refine ev_getI f_X11_told (nx := 56) rfl p2.1 rfl rfl rfl ?_
    obtain ⟨l3, u3⟩ := hI.b p2.1 (t_bdK rfl : t_bd 4 0 = some (0, 6))
    refine ev_inV2 f_X11_told (nx := 59) (lo2 := [(0, .ref 0), (1, .int (gi a2 0))]) rfl rfl rfl rfl f_X11_answer (hI.wf.s rfl) rfl rfl rfl rfl rfl ?_
    refine ev_loc f_X11_answer (nx := 1) rfl rfl rfl rfl ?_
    refine ev_ic f_X11_answer (nx := 2) (v := 0) rfl (by decide) rfl ?_
    refine ev_putIT f_X11_answer (nx := 5) rfl (hI.wf.s rfl) rfl rfl rfl (hI.put0 (hI.wf.s rfl) rfl rfl) (hX.upI rfl) (fun g4 e4 hI hX => ?_)
    refine ev_loc f_X11_answer (nx := 6) rfl rfl rfl rfl ?_
    refine ev_retK1 f_X11_answer rfl rfl rfl ?_
    exact ev_ret f_X11_told rfl rfl rfl ⟨_, _, _, rfl, hI, hX, ⟨_, rfl, (Int.le_trans (by decide : ((-2147483648):Int) ≤ 0) l3), (Int.le_trans u3 (by decide : (6:Int) ≤ 2147483647)), (show ∀ (u : Nat) (D : s_D), gr 0 6 = .ref u → t_VL gr u → t_CV gi gl u D → t_Cb D → ((ar1.toInt = 0 ∨ ar1.toInt = 1 ∨ ar1.toInt = 2 ∨ ar1.toInt = 4 ∨ ar1.toInt = 5 ∨ ar1.toInt = 6 ∨ ar1.toInt = 7) → (gi a2 0).toInt = D ar1.toInt.toNat) ∧ (ar1.toInt = 3 → (gr 0 7 = .null → (gi a2 0).toInt = 0) ∧ ∀ u2 : Nat, gr 0 7 = .ref u2 → (gi a2 0).toInt = (gi u2 0).toInt) ∧ (¬ (0 ≤ ar1.toInt ∧ ar1.toInt ≤ 7) → (gi a2 0).toInt = -1) from (by
                                                            intro u D hu hl hc hb
                                                            have ha : a2 = u := Value.ref.inj (e2.symm.trans hu)
                                                            subst ha
                                                            exact ⟨fun _ => by rw [show ar1.toInt.toNat = 0 by omega]; exact hc.1.1, fun h => absurd h (by omega), fun h => absurd (show _ from ⟨by omega, by omega⟩) h⟩))⟩⟩
  · refine ev_swt f_X11_told (nx := 60) (c := 1) rfl h1 rfl ?_
    refine ev_loc f_X11_told (nx := 61) rfl rfl rfl rfl ?_
    refine ev_loc f_X11_told (nx := 62) rfl rfl rfl rfl ?_
    obtain ⟨a5, e5, p5⟩ := hI.2.2.2.1.1
    refine ev_getR f_X11_told (nx := 65) rfl (hI.wf.s rfl) rfl rfl e5 rfl rfl ?_
    obtain ⟨a6, e6, p6⟩ := p5.2.2.2.2.1
    refine ev_getR f_X11_told (nx := 68) rfl p5.1 rfl rfl e6 rfl rfl ?_
    refine ev_getI f_X11_told (nx := 71) rfl p6.1 rfl rfl rfl ?_
    obtain ⟨l7, u7⟩ := hI.b p6.1 (t_bdK rfl : t_bd 3 0 = some (0, 6))
    refine ev_inV2 f_X11_told (nx := 74) (lo2 := [(0, .ref 0), (1, .int (gi a6 0))]) rfl rfl rfl rfl f_X11_answer (hI.wf.s rfl) rfl rfl rfl rfl rfl ?_
    refine ev_loc f_X11_answer (nx := 1) rfl rfl rfl rfl ?_
    refine ev_ic f_X11_answer (nx := 2) (v := 0) rfl (by decide) rfl ?_
    refine ev_putIT f_X11_answer (nx := 5) rfl (hI.wf.s rfl) rfl rfl rfl (hI.put0 (hI.wf.s rfl) rfl rfl) (hX.upI rfl) (fun g8 e8 hI hX => ?_)
    refine ev_loc f_X11_answer (nx := 6) rfl rfl rfl rfl ?_
    refine ev_retK1 f_X11_answer rfl rfl rfl ?_
    exact ev_ret f_X11_told rfl rfl rfl ⟨_, _, _, rfl, hI, hX, ⟨_, rfl, (Int.le_trans (by decide : ((-2147483648):Int) ≤ 0) l7), (Int.le_trans u7 (by decide : (6:Int) ≤ 2147483647)), (show ∀ (u : Nat) (D : s_D), gr 0 6 = .ref u → t_VL gr u → t_CV gi gl u D → t_Cb D → ((ar1.toInt = 0 ∨ ar1.toInt = 1 ∨ ar1.toInt = 2 ∨ ar1.toInt = 4 ∨ ar1.toInt = 5 ∨ ar1.toInt = 6 ∨ ar1.toInt = 7) → (gi a6 0).toInt = D ar1.toInt.toNat) ∧ (ar1.toInt = 3 → (gr 0 7 = .null → (gi a6 0).toInt = 0) ∧ ∀ u2 : Nat, gr 0 7 = .ref u2 → (gi a6 0).toInt = (gi u2 0).toInt) ∧ (¬ (0 ≤ ar1.toInt ∧ ar1.toInt ≤ 7) → (gi a6 0).toInt = -1) from (by
                                                            intro u D hu hl hc hb
                                                            have ha : a5 = u := Value.ref.inj (e5.symm.trans hu)
                                                            subst ha
                                                            have hb1 : (a5 + 3) = a6 := Value.ref.inj ((hl.1.2.2.2.1).symm.trans e6)
                                                            subst hb1
                                                            exact ⟨fun _ => by rw [show ar1.toInt.toNat = 1 by omega]; exact hc.2.2.1.1, fun h => absurd h (by omega), fun h => absurd (show _ from ⟨by omega, by omega⟩) h⟩))⟩⟩
  · refine ev_swt f_X11_told (nx := 75) (c := 2) rfl h1 rfl ?_
    refine ev_loc f_X11_told (nx := 76) rfl rfl rfl rfl ?_
    refine ev_loc f_X11_told (nx := 77) rfl rfl rfl rfl ?_
    obtain ⟨a9, e9, p9⟩ := hI.2.2.2.1.1
    refine ev_getR f_X11_told (nx := 80) rfl (hI.wf.s rfl) rfl rfl e9 rfl rfl ?_
    obtain ⟨a10, e10, p10⟩ := p9.2.2.2.2.2
    refine ev_getR f_X11_told (nx := 83) rfl p9.1 rfl rfl e10 rfl rfl ?_
    refine ev_getI f_X11_told (nx := 86) rfl p10.1 rfl rfl rfl ?_
    obtain ⟨l11, u11⟩ := hI.b p10.1 (t_bdK rfl : t_bd 3 0 = some (0, 6))
    refine ev_inV2 f_X11_told (nx := 89) (lo2 := [(0, .ref 0), (1, .int (gi a10 0))]) rfl rfl rfl rfl f_X11_answer (hI.wf.s rfl) rfl rfl rfl rfl rfl ?_
    refine ev_loc f_X11_answer (nx := 1) rfl rfl rfl rfl ?_
    refine ev_ic f_X11_answer (nx := 2) (v := 0) rfl (by decide) rfl ?_
    refine ev_putIT f_X11_answer (nx := 5) rfl (hI.wf.s rfl) rfl rfl rfl (hI.put0 (hI.wf.s rfl) rfl rfl) (hX.upI rfl) (fun g12 e12 hI hX => ?_)
    refine ev_loc f_X11_answer (nx := 6) rfl rfl rfl rfl ?_
    refine ev_retK1 f_X11_answer rfl rfl rfl ?_
    exact ev_ret f_X11_told rfl rfl rfl ⟨_, _, _, rfl, hI, hX, ⟨_, rfl, (Int.le_trans (by decide : ((-2147483648):Int) ≤ 0) l11), (Int.le_trans u11 (by decide : (6:Int) ≤ 2147483647)), (show ∀ (u : Nat) (D : s_D), gr 0 6 = .ref u → t_VL gr u → t_CV gi gl u D → t_Cb D → ((ar1.toInt = 0 ∨ ar1.toInt = 1 ∨ ar1.toInt = 2 ∨ ar1.toInt = 4 ∨ ar1.toInt = 5 ∨ ar1.toInt = 6 ∨ ar1.toInt = 7) → (gi a10 0).toInt = D ar1.toInt.toNat) ∧ (ar1.toInt = 3 → (gr 0 7 = .null → (gi a10 0).toInt = 0) ∧ ∀ u2 : Nat, gr 0 7 = .ref u2 → (gi a10 0).toInt = (gi u2 0).toInt) ∧ (¬ (0 ≤ ar1.toInt ∧ ar1.toInt ≤ 7) → (gi a10 0).toInt = -1) from (by
                                                            intro u D hu hl hc hb
                                                            have ha : a9 = u := Value.ref.inj (e9.symm.trans hu)
                                                            subst ha
                                                            have hb1 : (a9 + 10) = a10 := Value.ref.inj ((hl.1.2.2.2.2).symm.trans e10)
                                                            subst hb1
                                                            exact ⟨fun _ => by rw [show ar1.toInt.toNat = 2 by omega]; exact hc.2.2.2.1, fun h => absurd h (by omega), fun h => absurd (show _ from ⟨by omega, by omega⟩) h⟩))⟩⟩
  · refine ev_swt f_X11_told (nx := 90) (c := 3) rfl h1 rfl ?_
    refine ev_loc f_X11_told (nx := 91) rfl rfl rfl rfl ?_
    refine ev_loc f_X11_told (nx := 92) rfl rfl rfl rfl ?_
    rcases hI.2.2.2.1.2.1 with e13 | ⟨a13, e13, p13⟩
    · refine ev_getR f_X11_told (nx := 95) rfl (hI.wf.s rfl) rfl rfl e13 rfl rfl ?_
      refine ev_jmp f_X11_told (nx := 98) rfl rfl rfl ?_
      refine ev_ic f_X11_told (nx := 99) (v := 0) rfl (by decide) rfl ?_
      refine ev_jmp f_X11_told (nx := 109) rfl rfl rfl ?_
      refine ev_inV2 f_X11_told (nx := 112) (lo2 := [(0, .ref 0), (1, .int 0)]) rfl rfl rfl rfl f_X11_answer (hI.wf.s rfl) rfl rfl rfl rfl rfl ?_
      refine ev_loc f_X11_answer (nx := 1) rfl rfl rfl rfl ?_
      refine ev_ic f_X11_answer (nx := 2) (v := 0) rfl (by decide) rfl ?_
      refine ev_putIT f_X11_answer (nx := 5) rfl (hI.wf.s rfl) rfl rfl rfl (hI.put0 (hI.wf.s rfl) rfl rfl) (hX.upI rfl) (fun g14 e14 hI hX => ?_)
      refine ev_loc f_X11_answer (nx := 6) rfl rfl rfl rfl ?_
      refine ev_retK1 f_X11_answer rfl rfl rfl ?_
      exact ev_ret f_X11_told rfl rfl rfl ⟨_, _, _, rfl, hI, hX, ⟨_, rfl, (Int.le_trans (by decide : ((-2147483648):Int) ≤ 0) (by decide : (0:Int) ≤ (0:Int32).toInt)), (Int.le_trans (by decide : (0:Int32).toInt ≤ (0:Int)) (by decide : (0:Int) ≤ 2147483647)), (show ∀ (u : Nat) (D : s_D), gr 0 6 = .ref u → t_VL gr u → t_CV gi gl u D → t_Cb D → ((ar1.toInt = 0 ∨ ar1.toInt = 1 ∨ ar1.toInt = 2 ∨ ar1.toInt = 4 ∨ ar1.toInt = 5 ∨ ar1.toInt = 6 ∨ ar1.toInt = 7) → (0 : Int) = D ar1.toInt.toNat) ∧ (ar1.toInt = 3 → (gr 0 7 = .null → (0 : Int) = 0) ∧ ∀ u2 : Nat, gr 0 7 = .ref u2 → (0 : Int) = (gi u2 0).toInt) ∧ (¬ (0 ≤ ar1.toInt ∧ ar1.toInt ≤ 7) → (0 : Int) = -1) from (by
                                                            intro u D hu hl hc hb
                                                            exact ⟨fun h => absurd h (by omega), fun _ => ⟨fun _ => rfl, fun u2 h2 => absurd (e13.symm.trans h2) (by intro hh; cases hh)⟩, fun h => absurd (show _ from ⟨by omega, by omega⟩) h⟩))⟩⟩
    · refine ev_getR f_X11_told (nx := 95) rfl (hI.wf.s rfl) rfl rfl e13 rfl rfl ?_
      refine ev_jmp f_X11_told (nx := 102) rfl rfl rfl ?_
      refine ev_loc f_X11_told (nx := 103) rfl rfl rfl rfl ?_
      refine ev_getR f_X11_told (nx := 106) (v := .ref a13) rfl (hI.wf.s rfl) rfl rfl e13 rfl rfl ?_
      refine ev_getI f_X11_told (nx := 109) rfl p13.1 rfl rfl rfl ?_
      obtain ⟨l15, u15⟩ := hI.b p13.1 (t_bdK rfl : t_bd 6 0 = some (0, 12))
      refine ev_inV2 f_X11_told (nx := 112) (lo2 := [(0, .ref 0), (1, .int (gi a13 0))]) rfl rfl rfl rfl f_X11_answer (hI.wf.s rfl) rfl rfl rfl rfl rfl ?_
      refine ev_loc f_X11_answer (nx := 1) rfl rfl rfl rfl ?_
      refine ev_ic f_X11_answer (nx := 2) (v := 0) rfl (by decide) rfl ?_
      refine ev_putIT f_X11_answer (nx := 5) rfl (hI.wf.s rfl) rfl rfl rfl (hI.put0 (hI.wf.s rfl) rfl rfl) (hX.upI rfl) (fun g16 e16 hI hX => ?_)
      refine ev_loc f_X11_answer (nx := 6) rfl rfl rfl rfl ?_
      refine ev_retK1 f_X11_answer rfl rfl rfl ?_
      exact ev_ret f_X11_told rfl rfl rfl ⟨_, _, _, rfl, hI, hX, ⟨_, rfl, (Int.le_trans (by decide : ((-2147483648):Int) ≤ 0) l15), (Int.le_trans u15 (by decide : (12:Int) ≤ 2147483647)), (show ∀ (u : Nat) (D : s_D), gr 0 6 = .ref u → t_VL gr u → t_CV gi gl u D → t_Cb D → ((ar1.toInt = 0 ∨ ar1.toInt = 1 ∨ ar1.toInt = 2 ∨ ar1.toInt = 4 ∨ ar1.toInt = 5 ∨ ar1.toInt = 6 ∨ ar1.toInt = 7) → (gi a13 0).toInt = D ar1.toInt.toNat) ∧ (ar1.toInt = 3 → (gr 0 7 = .null → (gi a13 0).toInt = 0) ∧ ∀ u2 : Nat, gr 0 7 = .ref u2 → (gi a13 0).toInt = (gi u2 0).toInt) ∧ (¬ (0 ≤ ar1.toInt ∧ ar1.toInt ≤ 7) → (gi a13 0).toInt = -1) from (by
                                                            intro u D hu hl hc hb
                                                            exact ⟨fun h => absurd h (by omega), fun _ => ⟨fun h0 => absurd (e13.symm.trans h0) (by intro hh; cases hh), fun u2 h2 => by have he := Value.ref.inj (e13.symm.trans h2); rw [← he]⟩, fun h => absurd (show _ from ⟨by omega, by omega⟩) h⟩))⟩⟩
  · refine ev_swt f_X11_told (nx := 113) (c := 4) rfl h1 rfl ?_
    refine ev_loc f_X11_told (nx := 114) rfl rfl rfl rfl ?_
    refine ev_loc f_X11_told (nx := 115) rfl rfl rfl rfl ?_
    obtain ⟨a17, e17, p17⟩ := hI.2.2.2.1.1
    refine ev_getR f_X11_told (nx := 118) rfl (hI.wf.s rfl) rfl rfl e17 rfl rfl ?_
    refine ev_getI f_X11_told (nx := 121) rfl p17.1 rfl rfl rfl ?_
    refine ev_inV2 f_X11_told (nx := 124) (lo2 := [(0, .ref 0), (1, .int (gi a17 3))]) rfl rfl rfl rfl f_X11_answer (hI.wf.s rfl) rfl rfl rfl rfl rfl ?_
    refine ev_loc f_X11_answer (nx := 1) rfl rfl rfl rfl ?_
    refine ev_ic f_X11_answer (nx := 2) (v := 0) rfl (by decide) rfl ?_
    refine ev_putIT f_X11_answer (nx := 5) rfl (hI.wf.s rfl) rfl rfl rfl (hI.put0 (hI.wf.s rfl) rfl rfl) (hX.upI rfl) (fun g18 e18 hI hX => ?_)
    refine ev_loc f_X11_answer (nx := 6) rfl rfl rfl rfl ?_
    refine ev_retK1 f_X11_answer rfl rfl rfl ?_
    exact ev_ret f_X11_told rfl rfl rfl ⟨_, _, _, rfl, hI, hX, ⟨_, rfl, (t_lo (gi a17 3)), (t_hi (gi a17 3)), (show ∀ (u : Nat) (D : s_D), gr 0 6 = .ref u → t_VL gr u → t_CV gi gl u D → t_Cb D → ((ar1.toInt = 0 ∨ ar1.toInt = 1 ∨ ar1.toInt = 2 ∨ ar1.toInt = 4 ∨ ar1.toInt = 5 ∨ ar1.toInt = 6 ∨ ar1.toInt = 7) → (gi a17 3).toInt = D ar1.toInt.toNat) ∧ (ar1.toInt = 3 → (gr 0 7 = .null → (gi a17 3).toInt = 0) ∧ ∀ u2 : Nat, gr 0 7 = .ref u2 → (gi a17 3).toInt = (gi u2 0).toInt) ∧ (¬ (0 ≤ ar1.toInt ∧ ar1.toInt ≤ 7) → (gi a17 3).toInt = -1) from (by
                                                            intro u D hu hl hc hb
                                                            have ha : a17 = u := Value.ref.inj (e17.symm.trans hu)
                                                            subst ha
                                                            exact ⟨fun _ => by rw [show ar1.toInt.toNat = 4 by omega]; exact hc.2.1.1, fun h => absurd h (by omega), fun h => absurd (show _ from ⟨by omega, by omega⟩) h⟩))⟩⟩
  · refine ev_swt f_X11_told (nx := 125) (c := 5) rfl h1 rfl ?_
    refine ev_loc f_X11_told (nx := 126) rfl rfl rfl rfl ?_
    refine ev_loc f_X11_told (nx := 127) rfl rfl rfl rfl ?_
    obtain ⟨a19, e19, p19⟩ := hI.2.2.2.1.1
    refine ev_getR f_X11_told (nx := 130) rfl (hI.wf.s rfl) rfl rfl e19 rfl rfl ?_
    refine ev_getI f_X11_told (nx := 133) rfl p19.1 rfl rfl rfl ?_
    refine ev_inV2 f_X11_told (nx := 136) (lo2 := [(0, .ref 0), (1, .int (gi a19 4))]) rfl rfl rfl rfl f_X11_answer (hI.wf.s rfl) rfl rfl rfl rfl rfl ?_
    refine ev_loc f_X11_answer (nx := 1) rfl rfl rfl rfl ?_
    refine ev_ic f_X11_answer (nx := 2) (v := 0) rfl (by decide) rfl ?_
    refine ev_putIT f_X11_answer (nx := 5) rfl (hI.wf.s rfl) rfl rfl rfl (hI.put0 (hI.wf.s rfl) rfl rfl) (hX.upI rfl) (fun g20 e20 hI hX => ?_)
    refine ev_loc f_X11_answer (nx := 6) rfl rfl rfl rfl ?_
    refine ev_retK1 f_X11_answer rfl rfl rfl ?_
    exact ev_ret f_X11_told rfl rfl rfl ⟨_, _, _, rfl, hI, hX, ⟨_, rfl, (t_lo (gi a19 4)), (t_hi (gi a19 4)), (show ∀ (u : Nat) (D : s_D), gr 0 6 = .ref u → t_VL gr u → t_CV gi gl u D → t_Cb D → ((ar1.toInt = 0 ∨ ar1.toInt = 1 ∨ ar1.toInt = 2 ∨ ar1.toInt = 4 ∨ ar1.toInt = 5 ∨ ar1.toInt = 6 ∨ ar1.toInt = 7) → (gi a19 4).toInt = D ar1.toInt.toNat) ∧ (ar1.toInt = 3 → (gr 0 7 = .null → (gi a19 4).toInt = 0) ∧ ∀ u2 : Nat, gr 0 7 = .ref u2 → (gi a19 4).toInt = (gi u2 0).toInt) ∧ (¬ (0 ≤ ar1.toInt ∧ ar1.toInt ≤ 7) → (gi a19 4).toInt = -1) from (by
                                                            intro u D hu hl hc hb
                                                            have ha : a19 = u := Value.ref.inj (e19.symm.trans hu)
                                                            subst ha
                                                            exact ⟨fun _ => by rw [show ar1.toInt.toNat = 5 by omega]; exact hc.2.1.2.1, fun h => absurd h (by omega), fun h => absurd (show _ from ⟨by omega, by omega⟩) h⟩))⟩⟩
  · refine ev_swt f_X11_told (nx := 137) (c := 6) rfl h1 rfl ?_
    refine ev_loc f_X11_told (nx := 138) rfl rfl rfl rfl ?_
    refine ev_loc f_X11_told (nx := 139) rfl rfl rfl rfl ?_
    obtain ⟨a21, e21, p21⟩ := hI.2.2.2.1.1
    refine ev_getR f_X11_told (nx := 142) rfl (hI.wf.s rfl) rfl rfl e21 rfl rfl ?_
    refine ev_getI f_X11_told (nx := 145) rfl p21.1 rfl rfl rfl ?_
    refine ev_inV2 f_X11_told (nx := 148) (lo2 := [(0, .ref 0), (1, .int (gi a21 5))]) rfl rfl rfl rfl f_X11_answer (hI.wf.s rfl) rfl rfl rfl rfl rfl ?_
    refine ev_loc f_X11_answer (nx := 1) rfl rfl rfl rfl ?_
    refine ev_ic f_X11_answer (nx := 2) (v := 0) rfl (by decide) rfl ?_
    refine ev_putIT f_X11_answer (nx := 5) rfl (hI.wf.s rfl) rfl rfl rfl (hI.put0 (hI.wf.s rfl) rfl rfl) (hX.upI rfl) (fun g22 e22 hI hX => ?_)
    refine ev_loc f_X11_answer (nx := 6) rfl rfl rfl rfl ?_
    refine ev_retK1 f_X11_answer rfl rfl rfl ?_
    exact ev_ret f_X11_told rfl rfl rfl ⟨_, _, _, rfl, hI, hX, ⟨_, rfl, (t_lo (gi a21 5)), (t_hi (gi a21 5)), (show ∀ (u : Nat) (D : s_D), gr 0 6 = .ref u → t_VL gr u → t_CV gi gl u D → t_Cb D → ((ar1.toInt = 0 ∨ ar1.toInt = 1 ∨ ar1.toInt = 2 ∨ ar1.toInt = 4 ∨ ar1.toInt = 5 ∨ ar1.toInt = 6 ∨ ar1.toInt = 7) → (gi a21 5).toInt = D ar1.toInt.toNat) ∧ (ar1.toInt = 3 → (gr 0 7 = .null → (gi a21 5).toInt = 0) ∧ ∀ u2 : Nat, gr 0 7 = .ref u2 → (gi a21 5).toInt = (gi u2 0).toInt) ∧ (¬ (0 ≤ ar1.toInt ∧ ar1.toInt ≤ 7) → (gi a21 5).toInt = -1) from (by
                                                            intro u D hu hl hc hb
                                                            have ha : a21 = u := Value.ref.inj (e21.symm.trans hu)
                                                            subst ha
                                                            exact ⟨fun _ => by rw [show ar1.toInt.toNat = 6 by omega]; exact hc.2.1.2.2.1, fun h => absurd h (by omega), fun h => absurd (show _ from ⟨by omega, by omega⟩) h⟩))⟩⟩
  · refine ev_swt f_X11_told (nx := 149) (c := 7) rfl h1 rfl ?_
    refine ev_loc f_X11_told (nx := 150) rfl rfl rfl rfl ?_
    refine ev_loc f_X11_told (nx := 151) rfl rfl rfl rfl ?_
    obtain ⟨a23, e23, p23⟩ := hI.2.2.2.1.1
    refine ev_getR f_X11_told (nx := 154) rfl (hI.wf.s rfl) rfl rfl e23 rfl rfl ?_
    refine ev_getI f_X11_told (nx := 157) rfl p23.1 rfl rfl rfl ?_
    refine ev_inV2 f_X11_told (nx := 160) (lo2 := [(0, .ref 0), (1, .int (gi a23 6))]) rfl rfl rfl rfl f_X11_answer (hI.wf.s rfl) rfl rfl rfl rfl rfl ?_
    refine ev_loc f_X11_answer (nx := 1) rfl rfl rfl rfl ?_
    refine ev_ic f_X11_answer (nx := 2) (v := 0) rfl (by decide) rfl ?_
    refine ev_putIT f_X11_answer (nx := 5) rfl (hI.wf.s rfl) rfl rfl rfl (hI.put0 (hI.wf.s rfl) rfl rfl) (hX.upI rfl) (fun g24 e24 hI hX => ?_)
    refine ev_loc f_X11_answer (nx := 6) rfl rfl rfl rfl ?_
    refine ev_retK1 f_X11_answer rfl rfl rfl ?_
    exact ev_ret f_X11_told rfl rfl rfl ⟨_, _, _, rfl, hI, hX, ⟨_, rfl, (t_lo (gi a23 6)), (t_hi (gi a23 6)), (show ∀ (u : Nat) (D : s_D), gr 0 6 = .ref u → t_VL gr u → t_CV gi gl u D → t_Cb D → ((ar1.toInt = 0 ∨ ar1.toInt = 1 ∨ ar1.toInt = 2 ∨ ar1.toInt = 4 ∨ ar1.toInt = 5 ∨ ar1.toInt = 6 ∨ ar1.toInt = 7) → (gi a23 6).toInt = D ar1.toInt.toNat) ∧ (ar1.toInt = 3 → (gr 0 7 = .null → (gi a23 6).toInt = 0) ∧ ∀ u2 : Nat, gr 0 7 = .ref u2 → (gi a23 6).toInt = (gi u2 0).toInt) ∧ (¬ (0 ≤ ar1.toInt ∧ ar1.toInt ≤ 7) → (gi a23 6).toInt = -1) from (by
                                                            intro u D hu hl hc hb
                                                            have ha : a23 = u := Value.ref.inj (e23.symm.trans hu)
                                                            subst ha
                                                            exact ⟨fun _ => by rw [show ar1.toInt.toNat = 7 by omega]; exact hc.2.1.2.2.2, fun h => absurd h (by omega), fun h => absurd (show _ from ⟨by omega, by omega⟩) h⟩))⟩⟩
  · refine ev_swtd f_X11_told (nx := 161) rfl (by omega) (by decide) rfl ?_
    refine ev_loc f_X11_told (nx := 162) rfl rfl rfl rfl ?_
    refine ev_ic f_X11_told (nx := 163) (v := 1) rfl (by decide) rfl ?_
    refine ev_inV2 f_X11_told (nx := 166) (lo2 := [(0, .ref 0), (1, .int 1)]) rfl rfl rfl rfl f_X11_refuse (hI.wf.s rfl) rfl rfl rfl rfl rfl ?_
    refine ev_loc f_X11_refuse (nx := 1) rfl rfl rfl rfl ?_
    refine ev_loc f_X11_refuse (nx := 2) rfl rfl rfl rfl ?_
    refine ev_putIT f_X11_refuse (nx := 5) rfl (hI.wf.s rfl) rfl rfl rfl (hI.put0 (hI.wf.s rfl) rfl rfl) (hX.upI rfl) (fun g25 e25 hI hX => ?_)
    refine ev_ic f_X11_refuse (nx := 6) (v := -1) rfl (by decide) rfl ?_
    refine ev_retK1 f_X11_refuse rfl rfl rfl ?_
    exact ev_ret f_X11_told rfl rfl rfl ⟨_, _, _, rfl, hI, hX, ⟨_, rfl, (Int.le_trans (by decide : ((-2147483648):Int) ≤ (-1)) (by decide : ((-1):Int) ≤ ((-1):Int32).toInt)), (Int.le_trans (by decide : ((-1):Int32).toInt ≤ ((-1):Int)) (by decide : ((-1):Int) ≤ 2147483647)), (show ∀ (u : Nat) (D : s_D), gr 0 6 = .ref u → t_VL gr u → t_CV gi gl u D → t_Cb D → ((ar1.toInt = 0 ∨ ar1.toInt = 1 ∨ ar1.toInt = 2 ∨ ar1.toInt = 4 ∨ ar1.toInt = 5 ∨ ar1.toInt = 6 ∨ ar1.toInt = 7) → ((-1) : Int) = D ar1.toInt.toNat) ∧ (ar1.toInt = 3 → (gr 0 7 = .null → ((-1) : Int) = 0) ∧ ∀ u2 : Nat, gr 0 7 = .ref u2 → ((-1) : Int) = (gi u2 0).toInt) ∧ (¬ (0 ≤ ar1.toInt ∧ ar1.toInt ≤ 7) → ((-1) : Int) = -1) from (by
                                                            intro u D hu hl hc hb
                                                            exact ⟨fun h => absurd h (by omega), fun h => absurd h (by omega), fun _ => rfl⟩))⟩⟩
noncomputable def wl_e_told : List (Nat × Nat) := [(69, 2)]
noncomputable def Q_e_told (gi : Nat → Nat → Int32) (gl : Nat → Nat → Int64) (gr : Nat → Nat → Value) (ar1 : Int32) : Int32 → (Nat → Nat → Int32) → (Nat → Nat → Int64) → (Nat → Nat → Value) → Prop := fun (v : Int32) (gi2 : Nat → Nat → Int32) (gl2 : Nat → Nat → Int64) (gr2 : Nat → Nat → Value) => (0 ≤ ar1.toInt ∧ ar1.toInt ≤ 7 → v.toInt = (gi 70 ar1.toInt.toNat).toInt) ∧ (¬ (0 ≤ ar1.toInt ∧ ar1.toInt ≤ 7) → v.toInt = -1)
theorem c_e_told {X : x_Ext} {d : Nat} {sh : List (Nat ⊕ (Nat × Nat))} {gi : Nat → Nat → Int32} {gl : Nat → Nat → Int64} {gr : Nat → Nat → Value} (hI : t_I sh gi gr) (ar1 : Int32) : x_Me X (d + 2) n_X12_told [.ref 69, .int ar1] (sh, gi, gl, gr) (t_PI wl_e_told sh gi gl gr (-1) 200 (Q_e_told gi gl gr ar1)) := by
  have hX : t_X wl_e_told sh gi gl gr gi gl gr := t_X.rf
  refine me_i f_X12_told (hI.wf.s rfl) rfl rfl rfl ?_
  refine ev_loc f_X12_told (nx := 1) rfl rfl rfl rfl ?_
  refine ev_if f_X12_told (t1 := 10) (t2 := 4) rfl rfl rfl (fun h1 => ?_) (fun h1 => ?_)
  · have u2 : ar1.toInt ≤ (-1) := t_ltu h1 (by decide : (0:Int32).toInt ≤ (0:Int)) rfl
    refine ev_loc f_X12_told (nx := 11) rfl rfl rfl rfl ?_
    refine ev_ic f_X12_told (nx := 12) (v := 1) rfl (by decide) rfl ?_
    refine ev_inV2 f_X12_told (nx := 15) (lo2 := [(0, .ref 69), (1, .int 1)]) rfl rfl rfl rfl f_X12_refuse (hI.wf.s rfl) rfl rfl rfl rfl rfl ?_
    refine ev_loc f_X12_refuse (nx := 1) rfl rfl rfl rfl ?_
    refine ev_loc f_X12_refuse (nx := 2) rfl rfl rfl rfl ?_
    refine ev_putIT f_X12_refuse (nx := 5) rfl (hI.wf.s rfl) rfl rfl rfl (hI.put0 (hI.wf.s rfl) rfl rfl) (hX.upI rfl) (fun g3 e3 hI hX => ?_)
    refine ev_ic f_X12_refuse (nx := 6) (v := -1) rfl (by decide) rfl ?_
    refine ev_retK1 f_X12_refuse rfl rfl rfl ?_
    refine ev_jmp f_X12_told (nx := 28) rfl rfl rfl ?_
    exact ev_ret f_X12_told rfl rfl rfl ⟨_, _, _, rfl, hI, hX, ⟨_, rfl, (by decide : ((-1):Int) ≤ ((-1):Int32).toInt), (Int.le_trans (by decide : ((-1):Int32).toInt ≤ ((-1):Int)) (by decide : ((-1):Int) ≤ 200)), (show (0 ≤ ar1.toInt ∧ ar1.toInt ≤ 7 → ((-1) : Int) = (gi 70 ar1.toInt.toNat).toInt) ∧ (¬ (0 ≤ ar1.toInt ∧ ar1.toInt ≤ 7) → ((-1) : Int) = -1) from ⟨fun h => absurd h (by omega), fun _ => rfl⟩)⟩⟩
  · have l4 : 0 ≤ ar1.toInt := t_lel (t_nlt h1) (by decide : (0:Int) ≤ (0:Int32).toInt)
    refine ev_loc f_X12_told (nx := 5) rfl rfl rfl rfl ?_
    refine ev_bp f_X12_told (nx := 7) (v := 7) rfl (by decide) rfl ?_
    refine ev_if f_X12_told (t1 := 18) (t2 := 10) rfl rfl rfl (fun h5 => ?_) (fun h5 => ?_)
    · have u6 : ar1.toInt ≤ 7 := t_leu h5 (by decide : (7:Int32).toInt ≤ (7:Int))
      refine ev_loc f_X12_told (nx := 19) rfl rfl rfl rfl ?_
      refine ev_loc f_X12_told (nx := 20) rfl rfl rfl rfl ?_
      refine ev_getR f_X12_told (nx := 23) rfl (hI.wf.s rfl) rfl rfl (hI.wf.r rfl) rfl rfl ?_
      refine ev_loc f_X12_told (nx := 24) rfl rfl rfl rfl ?_
      refine ev_ialdT f_X12_told (nx := 25) rfl (hI.wf.s rfl) l4 (by decide) u6 (by decide) rfl (fun w7 e7 => ?_)
      obtain ⟨l7, u7⟩ := hI.abi e7 (by decide +kernel : t_abr 70 0 7 0 200 = true) l4 (by decide) u6 (by decide)
      refine ev_inV2 f_X12_told (nx := 28) (lo2 := [(0, .ref 69), (1, .int w7)]) rfl rfl rfl rfl f_X12_gives (hI.wf.s rfl) rfl rfl rfl rfl rfl ?_
      refine ev_loc f_X12_gives (nx := 1) rfl rfl rfl rfl ?_
      refine ev_ic f_X12_gives (nx := 2) (v := 0) rfl (by decide) rfl ?_
      refine ev_putIT f_X12_gives (nx := 5) rfl (hI.wf.s rfl) rfl rfl rfl (hI.put0 (hI.wf.s rfl) rfl rfl) (hX.upI rfl) (fun g8 e8 hI hX => ?_)
      refine ev_loc f_X12_gives (nx := 6) rfl rfl rfl rfl ?_
      refine ev_retK1 f_X12_gives rfl rfl rfl ?_
      exact ev_ret f_X12_told rfl rfl rfl ⟨_, _, _, rfl, hI, hX, ⟨_, rfl, (Int.le_trans (by decide : ((-1):Int) ≤ 0) l7), u7, (show (0 ≤ ar1.toInt ∧ ar1.toInt ≤ 7 → w7.toInt = (gi 70 ar1.toInt.toNat).toInt) ∧ (¬ (0 ≤ ar1.toInt ∧ ar1.toInt ≤ 7) → w7.toInt = -1) from ⟨fun _ => (by have kc := t_clamp (i := ar1) (by omega); rw [e7, show ar1.toNatClampNeg = ar1.toInt.toNat by omega]), fun h => absurd (show _ from ⟨by omega, by omega⟩) h⟩)⟩⟩
    · have l9 : 8 ≤ ar1.toInt := t_ltl (t_nle h5) (by decide : (7:Int) ≤ (7:Int32).toInt) rfl
      refine ev_loc f_X12_told (nx := 11) rfl rfl rfl rfl ?_
      refine ev_ic f_X12_told (nx := 12) (v := 1) rfl (by decide) rfl ?_
      refine ev_inV2 f_X12_told (nx := 15) (lo2 := [(0, .ref 69), (1, .int 1)]) rfl rfl rfl rfl f_X12_refuse (hI.wf.s rfl) rfl rfl rfl rfl rfl ?_
      refine ev_loc f_X12_refuse (nx := 1) rfl rfl rfl rfl ?_
      refine ev_loc f_X12_refuse (nx := 2) rfl rfl rfl rfl ?_
      refine ev_putIT f_X12_refuse (nx := 5) rfl (hI.wf.s rfl) rfl rfl rfl (hI.put0 (hI.wf.s rfl) rfl rfl) (hX.upI rfl) (fun g10 e10 hI hX => ?_)
      refine ev_ic f_X12_refuse (nx := 6) (v := -1) rfl (by decide) rfl ?_
      refine ev_retK1 f_X12_refuse rfl rfl rfl ?_
      refine ev_jmp f_X12_told (nx := 28) rfl rfl rfl ?_
      exact ev_ret f_X12_told rfl rfl rfl ⟨_, _, _, rfl, hI, hX, ⟨_, rfl, (by decide : ((-1):Int) ≤ ((-1):Int32).toInt), (Int.le_trans (by decide : ((-1):Int32).toInt ≤ ((-1):Int)) (by decide : ((-1):Int) ≤ 200)), (show (0 ≤ ar1.toInt ∧ ar1.toInt ≤ 7 → ((-1) : Int) = (gi 70 ar1.toInt.toNat).toInt) ∧ (¬ (0 ≤ ar1.toInt ∧ ar1.toInt ≤ 7) → ((-1) : Int) = -1) from ⟨fun h => absurd h (by omega), fun _ => rfl⟩)⟩⟩
/-! ===== how many RULES there are: the same on both sides ===== -/
noncomputable def s_d3 (D : s_D) : Prop := D 3 = 0 ∧ D 8 = 0
section TLD
variable {b : Nat → Int32} {n p : Nat} {D : s_D} {lo hi : Int} {r r2 : s_R} {c : Prop}
theorem s_d3_if (h : c → s_d3 r.2.2) (h2 : ¬ c → s_d3 r2.2.2) : s_d3 (s_if c r r2).2.2 := by
  by_cases hc : c
  · rw [s_ifT hc]; exact h hc
  · rw [s_ifF hc]; exact h2 hc
theorem s_d3_kw {i : Nat} {k : Nat → s_R} (h : s_d3 D) (hk : ∀ q, s_d3 (k q).2.2) : s_d3 (s_kw b n p i D k).2.2 := s_d3_if (fun _ => hk _) (fun _ => h)
theorem s_d3_num {k : Nat → s_R} (h : s_d3 D) (hk : ∀ q, s_d3 (k q).2.2) : s_d3 (s_num b n p lo hi D k).2.2 := s_d3_if (fun _ => s_d3_if (fun _ => hk _) (fun _ => h)) (fun _ => h)
theorem s_d3_name {k : Nat → s_R} (h : s_d3 D) (hk : ∀ q, s_d3 (k q).2.2) : s_d3 (s_name b n p D k).2.2 := s_d3_if (fun _ => s_d3_if (fun _ => h) (fun _ => hk _)) (fun _ => h)
theorem s_d3_set {i : Nat} {v : Int} (h : s_d3 D) (hi : i ≠ 3 ∧ i ≠ 8) : s_d3 (s_set D i v) := ⟨(if_neg (fun e => hi.1 e.symm)).trans h.1, (if_neg (fun e => hi.2 e.symm)).trans h.2⟩
theorem s_d3_P {nm bl : Int} (h : s_d3 D) : s_d3 (s_addP D nm bl) := by
  have e : ∀ j, j = 3 ∨ j = 8 → s_addP D nm bl j = D j := fun j hj => by
    unfold s_addP; rw [if_neg (by omega), if_neg (by omega), if_neg (by omega)]
  exact ⟨(e 3 (Or.inl rfl)).trans h.1, (e 8 (Or.inr rfl)).trans h.2⟩
theorem s_d3_S {nm po at_ ta co sa : Int} (h : s_d3 D) : s_d3 (s_addS D nm po at_ ta co sa) := by
  have e : ∀ j, j = 3 ∨ j = 8 → s_addS D nm po at_ ta co sa j = D j := fun j hj => by
    unfold s_addS; rw [if_neg (by omega), if_neg (by omega), if_neg (by omega), if_neg (by omega), if_neg (by omega), if_neg (by omega), if_neg (by omega)]
  exact ⟨(e 3 (Or.inl rfl)).trans h.1, (e 8 (Or.inr rfl)).trans h.2⟩
theorem s_d3_C {nm at_ ta co : Int} (h : s_d3 D) : s_d3 (s_addC D nm at_ ta co) := by
  have e : ∀ j, j = 3 ∨ j = 8 → s_addC D nm at_ ta co j = D j := fun j hj => by
    unfold s_addC; rw [if_neg (by omega), if_neg (by omega), if_neg (by omega), if_neg (by omega), if_neg (by omega)]
  exact ⟨(e 3 (Or.inl rfl)).trans h.1, (e 8 (Or.inr rfl)).trans h.2⟩
theorem s_d3_come {k : Nat → Int → Int → Int → s_R} (h : s_d3 D) (hk : ∀ (q : Nat) (a t w : Int), s_d3 (k q a t w).2.2) : s_d3 (s_come b n p D k).2.2 :=
  s_d3_kw h fun _ => s_d3_num h fun _ => s_d3_kw h fun _ => s_d3_num h fun _ => s_d3_kw h fun _ => s_d3_num h fun _ => hk _ _ _ _
theorem s_d3_port (h : s_d3 D) : s_d3 (s_port b n p D).2.2 := s_d3_if (fun _ => h) fun _ => s_d3_name h fun _ => s_d3_kw h fun _ => s_d3_if (fun _ => s_d3_if (fun _ => h) fun _ => s_d3_P h) fun _ => h
theorem s_d3_turns (h : s_d3 D) : s_d3 (s_turns b n p D).2.2 := s_d3_if (fun _ => s_d3_num h fun _ => s_d3_set (s_d3_set h ⟨by decide, by decide⟩) ⟨by decide, by decide⟩) fun _ => h
theorem s_d3_frost (h : s_d3 D) : s_d3 (s_frost b n p D).2.2 := s_d3_if (fun _ => s_d3_num h fun _ => s_d3_kw h fun _ => s_d3_num h fun _ => s_d3_set (s_d3_set (s_d3_set h ⟨by decide, by decide⟩) ⟨by decide, by decide⟩) ⟨by decide, by decide⟩) fun _ => h
theorem s_d3_echo (h : s_d3 D) : s_d3 (s_echo b n p D).2.2 := s_d3_if (fun _ => s_d3_num h fun _ => s_d3_set (s_d3_set h ⟨by decide, by decide⟩) ⟨by decide, by decide⟩) fun _ => h
theorem s_d3_ship (h : s_d3 D) : s_d3 (s_ship b n p D).2.2 := s_d3_if (fun _ => h) fun _ => s_d3_name h fun _ => s_d3_kw h fun _ => s_d3_if (fun _ => s_d3_if (fun _ => h) fun _ => s_d3_come h fun _ _ _ _ => s_d3_if (fun _ => s_d3_S h) fun _ => s_d3_S h) fun _ => h
theorem s_d3_cart (h : s_d3 D) : s_d3 (s_cart b n p D).2.2 := s_d3_if (fun _ => h) fun _ => s_d3_name h fun _ => s_d3_come h fun _ _ _ _ => s_d3_C h
theorem s_d3_part (h : s_d3 D) : s_d3 (s_part b n p D).2.2 := s_d3_if (fun _ => s_d3_port h) fun _ => s_d3_if (fun _ => s_d3_turns h) fun _ => s_d3_if (fun _ => s_d3_frost h) fun _ => s_d3_if (fun _ => s_d3_echo h) fun _ => s_d3_if (fun _ => s_d3_ship h) fun _ => s_d3_if (fun _ => s_d3_cart h) fun _ => h
theorem s_d3_semi (h : s_d3 r.2.2) : s_d3 (s_semi b n r).2.2 := s_d3_if (fun _ => s_d3_if (fun _ => h) fun _ => h) fun _ => h
theorem s_d3_rv : ∀ (m p : Nat) (D : s_D), s_d3 D → s_d3 (s_rv b n m p D).2.2
  | 0, _, _, h => h
  | m + 1, p, D, h => s_d3_if (fun _ => h) fun _ => s_d3_if (fun _ => s_d3_rv m _ _ (s_d3_semi (s_d3_part h))) fun _ => s_d3_semi (s_d3_part h)
end TLD
noncomputable def t_RN (n : Nat) (gi : Nat → Nat → Int32) (v : Value) (o : Nat) : Prop := (v = .null ∧ (gi 70 (o + 3)).toInt = 0 ∧ (gi 70 (o + 8)).toInt = 0) ∨ ∃ u : Nat, v = .ref u ∧ (102 ≤ u ∧ u < n) ∧ (gi u 0).toInt = (gi 70 (o + 3)).toInt ∧ (gi 70 (o + 8)).toInt = 1
noncomputable def t_RnN (n : Nat) (gi : Nat → Nat → Int32) (gr : Nat → Nat → Value) : Prop := t_RN n gi (gr 0 7) 0 ∧ ∀ k : Nat, (k : Int) < (gi 0 12).toInt → t_RN n gi (gr 20 k) (350 * (k + 1))
noncomputable def t_LEo (c : Nat) (sh : List (Nat ⊕ (Nat × Nat))) (gi : Nat → Nat → Int32) (gl : Nat → Nat → Int64) (gr : Nat → Nat → Value) : Prop := t_LD c sh gi gl gr ∧ t_RnN sh.length gi gr
theorem W1_No {sh : List (Nat ⊕ (Nat × Nat))} {gi : Nat → Nat → Int32} {gl : Nat → Nat → Int64} {gr : Nat → Nat → Value} (hR : x_R W1 (sh, gi, gl, gr)) : t_RnN sh.length gi gr := by
  have h7 : gr 0 7 = .null := ((x_gc_R hR (c := w1_c0) rfl).2.2.2 7 (by decide)).2.2.trans rfl
  have h3 : gi 70 3 = x_cI w1_c70 3 := ((x_gc_R hR (c := w1_c70) rfl).2.2.2 _ (by decide)).1
  have h8 : gi 70 8 = x_cI w1_c70 8 := ((x_gc_R hR (c := w1_c70) rfl).2.2.2 _ (by decide)).1
  have h12 : gi 0 12 = x_cI w1_c0 12 := ((x_gc_R hR (c := w1_c0) rfl).2.2.2 _ (by decide)).1
  refine ⟨Or.inl ⟨h7, ?_, ?_⟩, fun k hk => ?_⟩
  · show (gi 70 3).toInt = 0
    rw [h3]; decide +kernel
  · show (gi 70 8).toInt = 0
    rw [h8]; decide +kernel
  · rw [h12] at hk
    have h0 : (x_cI w1_c0 12).toInt = 0 := by decide +kernel
    omega
noncomputable def t_rsB (w1 w2 : List (Nat × Nat)) : Bool := t_ndB w1 && (t_ndB w2 && (t_un w1 (0, 7) && (t_un w2 (0, 7) && (t_un w1 (0, 12) && (t_un w2 (0, 12) && (t_nc w1 20 && (t_nc w2 20 && t_nc w1 70)))))))
section TLR
variable {sh sh1 : List (Nat ⊕ (Nat × Nat))} {gi g1 g2 : Nat → Nat → Int32} {gl l1 l2 : Nat → Nat → Int64} {gr r1 r2 : Nat → Nat → Value} {w1 w2 : List (Nat × Nat)} {A x1 x2 : Int32} {n n' o o' N N2 : Nat} {v : Value}
theorem t_RN.mv (h : t_RN n gi v o) (hn : n ≤ n') (e : ∀ K, 102 ≤ K → K < n → g1 K = gi K) (em : g1 70 (o' + 3) = gi 70 (o + 3)) (e8 : g1 70 (o' + 8) = gi 70 (o + 8)) : t_RN n' g1 v o' := by
  rcases h with ⟨a, b, b8⟩ | ⟨u, a, ⟨c1, c2⟩, b, b8⟩
  · exact Or.inl ⟨a, by rw [em]; exact b, by rw [e8]; exact b8⟩
  · exact Or.inr ⟨u, a, ⟨c1, by omega⟩, by rw [e u c1 c2, em]; exact b, by rw [e8]; exact b8⟩
theorem t_RR_gen (h : t_RnN n gi gr) (hn : n ≤ n') (e : ∀ K, 102 ≤ K → K < n → g2 K = gi K) (e7 : r2 0 7 = gr 0 7) (e12 : g2 0 12 = gi 0 12) (e20 : r2 20 = gr 20) (em : ∀ j, j < 1400 → (j % 350 = 3 ∨ j % 350 = 8) → g2 70 j = gi 70 j) (hm : (gi 0 12).toInt ≤ 3) : t_RnN n' g2 r2 := by
  refine ⟨by rw [e7]; exact h.1.mv hn e (em _ (by omega) (by omega)) (em _ (by omega) (by omega)), fun k hk => ?_⟩
  rw [e12] at hk
  rw [e20]
  exact (h.2 k hk).mv hn e (em _ (by omega) (by omega)) (em _ (by omega) (by omega))
theorem t_RR_same (h : t_RnN sh.length gi gr) (x1 : t_X w1 sh gi gl gr g1 l1 r1) (x2 : t_X w2 sh g1 l1 r1 g2 l2 r2) (hw : t_rsB w1 w2 = true) (em : ∀ j, j < 1400 → g2 70 j = g1 70 j) (hm : (gi 0 12).toInt ≤ 3) : t_RnN sh.length g2 r2 := by
  unfold t_rsB at hw
  simp only [Bool.and_eq_true] at hw
  obtain ⟨a1, a2, a3, a4, a5, a6, a7, a8, a9⟩ := hw
  have f1 := t_F_X x1
  have f2 := t_F_X x2
  refine t_RR_gen h (Nat.le_refl _) (fun K k1 _ => ?_) ?_ ?_ ?_ (fun j hj _ => ?_) hm
  · exact (t_nd_fr x2 a2 K (Or.inr k1)).1.trans (t_nd_fr x1 a1 K (Or.inr k1)).1
  · rw [(f2 0 7 (by decide) (t_un_ok a4)).2.2, (f1 0 7 (by decide) (t_un_ok a3)).2.2]
  · rw [(f2 0 12 (by decide) (t_un_ok a6)).1, (f1 0 12 (by decide) (t_un_ok a5)).1]
  · rw [t_F_nr f2 a8 (by decide), t_F_nr f1 a7 (by decide)]
  · rw [em j hj, t_F_nc f1 a9 (by decide)]
/-- the other side's call leaves the class's cells -/
theorem t_RR_m (x : t_X w2 sh1 g1 l1 r1 g2 l2 r2) (hw : (t_ndB w2 && (t_un w2 (0, 7) && (t_un w2 (0, 12) && t_nc w2 20))) = true) : (∀ K, 102 ≤ K → g2 K = g1 K) ∧ r2 0 7 = r1 0 7 ∧ g2 0 12 = g1 0 12 ∧ r2 20 = r1 20 := by
  simp only [Bool.and_eq_true] at hw
  have f := t_F_X x
  exact ⟨fun K hK => (t_nd_fr x hw.1 K (Or.inr hK)).1, (f 0 7 (by decide) (t_un_ok hw.2.1)).2.2, (f 0 12 (by decide) (t_un_ok hw.2.2.1)).1, t_F_nr f hw.2.2.2 (by decide)⟩
theorem t_RR_rules (h : t_RnN sh.length gi gr) (hT : t_TP gi) (hR : t_R gi gr) (hI2 : t_I sh1 g2 r2) (hle : sh.length ≤ sh1.length) (hm3 : (gi 0 12).toInt ≤ 3) (f1 : t_F w1 gi gl gr g1 l1 r1) (hw1 : (t_nc w1 75 && (t_nc w1 70 && (t_nc w1 20 && t_un w1 (0, 12)))) = true) (h69 : t_in w1 69 10 = false) (xm : t_X w2 sh1 g1 l1 r1 g2 l2 r2) (hw2 : (t_ndB w2 && (t_un w2 (0, 7) && (t_un w2 (0, 12) && t_nc w2 20))) = true) (em : ∀ j, 350 ≤ j → j < 1400 → g2 70 j = g1 70 j) (q1 : ((0 ≤ A.toInt ∧ A.toInt ≤ (gi 0 5).toInt ∧ A.toInt ≤ 300) → ∀ n : Nat, (n : Int) = A.toInt → t_RSR gi gl gr sh.length (gi 2) n x1 g1 l1 r1) ∧ (¬ (0 ≤ A.toInt ∧ A.toInt ≤ (gi 0 5).toInt ∧ A.toInt ≤ 300) → x1.toInt = -1 ∧ (∀ K, K ≠ 0 → g1 K = gi K ∧ l1 K = gl K ∧ r1 K = gr K) ∧ r1 0 6 = gr 0 6 ∧ r1 0 7 = gr 0 7)) (q2 : Q_n_rules g1 l1 r1 A x2 g2 l2 r2) : t_RnN sh1.length g2 r2 := by
  simp only [Bool.and_eq_true] at hw1
  obtain ⟨n75, n70, n20, n12⟩ := hw1
  have e0 : (gi 0 5).toInt = (gi 69 10).toInt := congrArg Int32.toInt (t_R_fed hR)
  have e1 : (g1 69 10).toInt = (gi 69 10).toInt := congrArg Int32.toInt (f1 69 10 (by decide) h69).1
  have r70 : g1 70 = gi 70 := t_F_nc f1 n70 (by decide)
  have r12 : g1 0 12 = gi 0 12 := (f1 0 12 (by decide) (t_un_ok n12)).1
  have r20 : r1 20 = gr 20 := t_F_nr f1 n20 (by decide)
  obtain ⟨m0, m7, m12, m20⟩ := t_RR_m xm hw2
  have same : r1 0 7 = gr 0 7 → (g2 70 3 = g1 70 3 ∧ g2 70 8 = g1 70 8) → (∀ K, 102 ≤ K → K < sh.length → g1 K = gi K) → t_RnN sh1.length g2 r2 := by
    intro s7 s3 sK
    refine t_RR_gen h hle (fun K k1 k2 => (m0 K k1).trans (sK K k1 k2)) (m7.trans s7) (m12.trans r12) (m20.trans r20) (fun j hj h3 => ?_) hm3
    by_cases hj3 : j < 350
    · rcases h3 with h3 | h3
      · rw [show j = 3 by omega, s3.1, r70]
      · rw [show j = 8 by omega, s3.2, r70]
    · rw [em j (by omega) hj, r70]
  by_cases hin : 0 ≤ A.toInt ∧ A.toInt ≤ (gi 0 5).toInt ∧ A.toInt ≤ 300
  · obtain ⟨n, hn⟩ : ∃ n : Nat, (n : Int) = A.toInt := ⟨A.toInt.toNat, by omega⟩
    have pl := (q1.1 hin n hn).2
    have pl2 : ∀ K, 102 ≤ K → K < sh.length → g1 K = gi K := fun K a b => (pl K (by omega) b).1
    rcases t_RU_two hT hR f1 n75 h69 hin q1.1 q2 with ⟨k, _, _, _, ⟨c1, c2⟩, c3, c8⟩ | ⟨_, _, s7, s3⟩
    · have hr7 : r2 0 7 = .ref (sh.length + 2) := m7.trans c1
      have hb : 102 ≤ sh.length + 2 ∧ sh.length + 2 < sh1.length := by
        rcases hI2.2.2.2.1.2.1 with hh | ⟨a, ha, hp⟩
        · exact absurd (hr7.symm.trans hh) (by intro h9; cases h9)
        · have hk : sh.length + 2 = a := Value.ref.inj (hr7.symm.trans ha)
          subst hk
          exact ⟨hp.2.1, t_lt hp.1⟩
      refine ⟨Or.inr ⟨sh.length + 2, hr7, hb, ?_, c8⟩, fun j hj => ?_⟩
      · rw [m0 _ hb.1, c2]; exact c3.symm
      · rw [m12, r12] at hj
        rw [m20, r20]
        exact (h.2 j hj).mv hle (fun K k1 k2 => (m0 K k1).trans (pl2 K k1 k2)) (by rw [em _ (by omega) (by omega), r70]) (by rw [em _ (by omega) (by omega), r70])
    · exact same s7 s3 pl2
  · have hh := q1.2 hin
    exact same hh.2.2.2 (q2.2 (by omega)).2 (fun K a _ => (hh.2.1 K (by omega)).1)
theorem t_RR_river (h : t_RnN sh.length gi gr) (hT : t_TP gi) (hR : t_R gi gr) (hle : sh.length ≤ sh1.length) (hm3 : (gi 0 12).toInt ≤ 3) (f1 : t_F w1 gi gl gr g1 l1 r1) (hw1 : (t_nc w1 75 && (t_nc w1 70 && (t_nc w1 20 && t_un w1 (0, 12)))) = true) (h69 : t_in w1 69 10 = false) (xm : t_X w2 sh1 g1 l1 r1 g2 l2 r2) (hw2 : (t_ndB w2 && (t_un w2 (0, 7) && (t_un w2 (0, 12) && t_nc w2 20))) = true) (em : ∀ j, 350 ≤ j → j < 1400 → g2 70 j = g1 70 j) (q1 : ((0 ≤ A.toInt ∧ A.toInt ≤ (gi 0 5).toInt) → ∀ n : Nat, (n : Int) = A.toInt → t_RES gi gl gr sh.length (gi 2) n x1 g1 l1 r1) ∧ (¬ (0 ≤ A.toInt ∧ A.toInt ≤ (gi 0 5).toInt) → x1.toInt = -1 ∧ (∀ K, K ≠ 0 → g1 K = gi K ∧ l1 K = gl K ∧ r1 K = gr K) ∧ r1 0 6 = gr 0 6 ∧ r1 0 7 = gr 0 7) ∧ (0 ≤ A.toInt ∧ A.toInt ≤ (gi 0 5).toInt → sh.length + 18 ≤ sh1.length)) (q2 : Q_n_river g1 l1 r1 A x2 g2 l2 r2) : t_RnN sh1.length g2 r2 := by
  simp only [Bool.and_eq_true] at hw1
  obtain ⟨n75, n70, n20, n12⟩ := hw1
  have e0 : (gi 0 5).toInt = (gi 69 10).toInt := congrArg Int32.toInt (t_R_fed hR)
  have e1 : (g1 69 10).toInt = (gi 69 10).toInt := congrArg Int32.toInt (f1 69 10 (by decide) h69).1
  have r75 : g1 75 = gi 75 := t_F_nc f1 n75 (by decide)
  have r70 : g1 70 = gi 70 := t_F_nc f1 n70 (by decide)
  have r12 : g1 0 12 = gi 0 12 := (f1 0 12 (by decide) (t_un_ok n12)).1
  have r20 : r1 20 = gr 20 := t_F_nr f1 n20 (by decide)
  obtain ⟨m0, m7, m12, m20⟩ := t_RR_m xm hw2
  have same : r1 0 7 = gr 0 7 → (g2 70 3 = g1 70 3 ∧ g2 70 8 = g1 70 8) → (∀ K, 102 ≤ K → K < sh.length → g1 K = gi K) → t_RnN sh1.length g2 r2 := by
    intro s7 s3 sK
    refine t_RR_gen h hle (fun K k1 k2 => (m0 K k1).trans (sK K k1 k2)) (m7.trans s7) (m12.trans r12) (m20.trans r20) (fun j hj h3 => ?_) hm3
    by_cases hj3 : j < 350
    · rcases h3 with h3 | h3
      · rw [show j = 3 by omega, s3.1, r70]
      · rw [show j = 8 by omega, s3.2, r70]
    · rw [em j (by omega) hj, r70]
  by_cases hin : 0 ≤ A.toInt ∧ A.toInt ≤ (gi 0 5).toInt
  · obtain ⟨n, hn⟩ : ∃ n : Nat, (n : Int) = A.toInt := ⟨A.toInt.toNat, by omega⟩
    obtain ⟨p1, pl⟩ := q1.1 hin n hn
    have pl2 : ∀ K, 102 ≤ K → K < sh.length → g1 K = gi K := fun K a b => (pl K (by omega) b).1
    have p2 := q2.1 (by omega) (gi 2) n hn (fun j hj => by rw [r75]; exact (hT j (by omega)).1.symm) (fun j hj => (hT j (by omega)).2)
    rcases p1 with ⟨q, D, a1, a2, a3, a4, a5, a6, a7, a8⟩ | ⟨p, x, D, a0, a1, a2, a3, a4, a5, a6⟩
    · rcases p2 with ⟨q', D', b1, b2, b3, b4, b5, b6⟩ | ⟨p', x', D', b0, b1, -⟩
      · have hd : s_d3 D' := Eq.mp (congrArg (fun r : s_R => s_d3 r.2.2) b1) (s_d3_rv _ _ _ ⟨rfl, rfl⟩)
        refine ⟨Or.inl ⟨m7.trans a6, b4.2.2.2.2.1.trans hd.1, b4.2.2.2.2.2.trans hd.2⟩, fun j hj => ?_⟩
        rw [m12, r12] at hj
        rw [m20, r20]
        exact (h.2 j hj).mv hle (fun K k1 k2 => (m0 K k1).trans (pl2 K k1 k2)) (by rw [em _ (by omega) (by omega), r70]) (by rw [em _ (by omega) (by omega), r70])
      · exact (s_ok_bad b0 (a1.symm.trans b1)).elim
    · rcases p2 with ⟨q', D', b1, -⟩ | ⟨p', x', D', b0, b1, b2, b3, b4, b5⟩
      · exact (s_ok_bad a0 (b1.symm.trans a1)).elim
      · exact same a6 ⟨b5 3 (by decide), b5 8 (by decide)⟩ pl2
  · have hh := q1.2.1 hin
    exact same hh.2.2.2 ⟨(q2.2 (by omega)).2 3 (by decide), (q2.2 (by omega)).2 8 (by decide)⟩ (fun K a _ => (hh.2.1 K (by omega)).1)
theorem t_RR_mark (hR : t_R gi gr) (hS : t_RnN sh.length gi gr) (hm0 : 0 ≤ (gi 0 12).toInt) (hm3 : (gi 0 12).toInt ≤ 3) (xh : t_X w1 sh gi gl gr g1 l1 r1) (hw1 : (t_ndB w1 && (t_un w1 (0, 7) && (t_nc w1 70 && t_un w1 (69, 75)))) = true) (xm : t_X w2 sh g1 l1 r1 g2 l2 r2) (hw2 : (t_ndB w2 && (t_un w2 (0, 7) && (t_un w2 (0, 12) && t_nc w2 20))) = true) (hc : ((gi 0 12).toInt = 3 → (g1 0 12).toInt = 3) ∧ ((gi 0 12).toInt ≠ 3 → (g1 0 12).toInt = (gi 0 12).toInt + 1)) (q1 : Q_d_mark gi gl gr x1 g1 l1 r1) (q2 : ((g1 69 75).toInt = 3 → g2 70 = g1 70) ∧ ((g1 69 75).toInt ≠ 3 → ∀ j, g2 70 j = t_cpy (g1 70) 0 ((g1 69 75).toInt.toNat + 1) 350 j)) : t_RnN sh.length g2 r2 := by
  simp only [Bool.and_eq_true] at hw1
  obtain ⟨n0, n7, n70, n75⟩ := hw1
  have f1 := t_F_X xh
  have r7 : r1 0 7 = gr 0 7 := (f1 0 7 (by decide) (t_un_ok n7)).2.2
  have r70 : g1 70 = gi 70 := t_F_nc f1 n70 (by decide)
  have r75 : (g1 69 75).toInt = (gi 0 12).toInt := by rw [(f1 69 75 (by decide) (t_un_ok n75)).1, ← t_R_mk hR]
  obtain ⟨m0, m7, m12, m20⟩ := t_RR_m xm hw2
  have fr : ∀ K, 102 ≤ K → K < sh.length → g2 K = gi K := fun K k1 _ => (m0 K k1).trans (t_nd_fr xh n0 K (Or.inr k1)).1
  obtain ⟨d1, d2⟩ := q1
  by_cases h3 : (gi 0 12).toInt = 3
  · have e70 : ∀ j, g2 70 j = gi 70 j := fun j => by rw [q2.1 (by omega), r70]
    refine ⟨by rw [m7, r7]; exact hS.1.mv (Nat.le_refl _) fr (e70 _) (e70 _), fun k hk => ?_⟩
    rw [m12] at hk
    have h4 := hS.2 k (by have := hc.1 h3; omega)
    rw [m20, (d2 h3).2]
    exact h4.mv (Nat.le_refl _) fr (e70 _) (e70 _)
  · have e70 : ∀ j, g2 70 j = t_cpy (gi 70) 0 ((gi 0 12).toInt.toNat + 1) 350 j := fun j => by rw [q2.2 (by omega), r70, r75]
    have ec := hc.2 h3
    have off : ∀ j, (j < 350 * ((gi 0 12).toInt.toNat + 1) ∨ 350 * ((gi 0 12).toInt.toNat + 1) + 350 ≤ j) → g2 70 j = gi 70 j := fun j hj => by
      rw [e70]; unfold t_cpy; rw [if_neg (by omega)]
    refine ⟨by rw [m7, r7]; exact hS.1.mv (Nat.le_refl _) fr (off _ (by omega)) (off _ (by omega)), fun k hk => ?_⟩
    rw [m12] at hk
    by_cases hkm : (k : Int) = (gi 0 12).toInt
    · rw [m20, (d1 h3).2, if_pos hkm]
      refine hS.1.mv (Nat.le_refl _) fr ?_ ?_
      · rw [e70]; unfold t_cpy
        rw [if_pos (by omega), show 350 * (k + 1) + 3 - 350 * ((gi 0 12).toInt.toNat + 1) + 350 * 0 = 0 + 3 by omega]
      · rw [e70]; unfold t_cpy
        rw [if_pos (by omega), show 350 * (k + 1) + 8 - 350 * ((gi 0 12).toInt.toNat + 1) + 350 * 0 = 0 + 8 by omega]
    · have h4 := hS.2 k (by omega)
      rw [m20, (d1 h3).2, if_neg hkm]
      exact h4.mv (Nat.le_refl _) fr (off _ (by omega)) (off _ (by omega))
theorem t_RR_back (hR : t_R gi gr) (hS : t_RnN sh.length gi gr) (hm0 : 0 ≤ (gi 0 12).toInt) (hm3 : (gi 0 12).toInt ≤ 3) (xh : t_X w1 sh gi gl gr g1 l1 r1) (hw1 : (t_ndB w1 && (t_nc w1 20 && (t_nc w1 70 && t_un w1 (69, 75)))) = true) (xm : t_X w2 sh g1 l1 r1 g2 l2 r2) (hw2 : (t_ndB w2 && (t_un w2 (0, 7) && (t_un w2 (0, 12) && t_nc w2 20))) = true) (hc : ((gi 0 12).toInt = 0 → (g1 0 12).toInt = 0) ∧ ((gi 0 12).toInt ≠ 0 → (g1 0 12).toInt = (gi 0 12).toInt - 1)) (q1 : Q_d_back gi gl gr x1 g1 l1 r1) (q2 : ((g1 69 75).toInt = 0 → g2 70 = g1 70) ∧ ((g1 69 75).toInt ≠ 0 → ∀ j, g2 70 j = t_cpy (g1 70) (g1 69 75).toInt.toNat 0 350 j)) : t_RnN sh.length g2 r2 := by
  simp only [Bool.and_eq_true] at hw1
  obtain ⟨n0, n20, n70, n75⟩ := hw1
  have f1 := t_F_X xh
  have r20 : r1 20 = gr 20 := t_F_nr f1 n20 (by decide)
  have r70 : g1 70 = gi 70 := t_F_nc f1 n70 (by decide)
  have r75 : (g1 69 75).toInt = (gi 0 12).toInt := by rw [(f1 69 75 (by decide) (t_un_ok n75)).1, ← t_R_mk hR]
  obtain ⟨m0, m7, m12, m20⟩ := t_RR_m xm hw2
  have fr : ∀ K, 102 ≤ K → K < sh.length → g2 K = gi K := fun K k1 _ => (m0 K k1).trans (t_nd_fr xh n0 K (Or.inr k1)).1
  obtain ⟨d1, d2⟩ := q1
  by_cases h3 : (gi 0 12).toInt = 0
  · have e70 : ∀ j, g2 70 j = gi 70 j := fun j => by rw [q2.1 (by omega), r70]
    refine ⟨by rw [m7, (d1 h3).2]; exact hS.1.mv (Nat.le_refl _) fr (e70 _) (e70 _), fun k hk => ?_⟩
    rw [m12] at hk
    have := hc.1 h3
    omega
  · have e70 : ∀ j, g2 70 j = t_cpy (gi 70) (gi 0 12).toInt.toNat 0 350 j := fun j => by rw [q2.2 (by omega), r70, r75]
    have ec := hc.2 h3
    have off : ∀ j, 350 ≤ j → g2 70 j = gi 70 j := fun j hj => by
      rw [e70]; unfold t_cpy; rw [if_neg (by omega)]
    refine ⟨?_, fun k hk => ?_⟩
    · rw [m7, (d2 h3).2]
      refine (hS.2 ((gi 0 12).toInt - 1).toNat (by omega)).mv (Nat.le_refl _) fr ?_ ?_
      · rw [e70]; unfold t_cpy
        rw [if_pos (by omega), show 0 + 3 - 350 * 0 + 350 * (gi 0 12).toInt.toNat = 350 * (((gi 0 12).toInt - 1).toNat + 1) + 3 by omega]
      · rw [e70]; unfold t_cpy
        rw [if_pos (by omega), show 0 + 8 - 350 * 0 + 350 * (gi 0 12).toInt.toNat = 350 * (((gi 0 12).toInt - 1).toNat + 1) + 8 by omega]
    · rw [m12] at hk
      have h4 := hS.2 k (by omega)
      rw [m20, r20]
      exact h4.mv (Nat.le_refl _) fr (off _ (by omega)) (off _ (by omega))
theorem t_L_told (hD : t_DR sh.length gi gl gr) (hS : t_RnN sh.length gi gr) (f1 : t_F w1 gi gl gr g1 l1 r1) (h70 : t_nc w1 70 = true) (q1 : Q_d_told gi gl gr A x1 g1 l1 r1) (q2 : Q_e_told g1 l1 r1 A x2 g2 l2 r2) : x1 = x2 := by
  obtain ⟨u, D, hu, hl, hc, hb, hm, -⟩ := t_D_0 hD f1 h70
  have k1 := q1 u D hu hl hc hb
  have r70 : g1 70 = gi 70 := t_F_nc f1 h70 (by decide)
  apply Int32.toInt_inj.mp
  by_cases hin : 0 ≤ A.toInt ∧ A.toInt ≤ 7
  · rw [q2.1 hin]
    by_cases h3 : A.toInt = 3
    · rw [h3]
      show x1.toInt = (g1 70 3).toInt
      rw [r70]
      rcases hS.1 with ⟨a, b, -⟩ | ⟨u2, a, -, b, -⟩
      · rw [(k1.2.1 h3).1 a]; exact b.symm
      · rw [(k1.2.1 h3).2 u2 a]; exact b
    · rw [k1.1 (by omega)]
      have hA : A.toInt.toNat = 0 ∨ A.toInt.toNat = 1 ∨ A.toInt.toNat = 2 ∨ A.toInt.toNat = 4 ∨ A.toInt.toNat = 5 ∨ A.toInt.toNat = 6 ∨ A.toInt.toNat = 7 := by omega
      rcases hA with h | h | h | h | h | h | h
      · rw [h]; exact hm.1.1.1.symm
      · rw [h]; exact hm.1.1.2.1.symm
      · rw [h]; exact hm.1.1.2.2.symm
      · rw [h]; exact hm.1.2.1.symm
      · rw [h]; exact hm.1.2.2.1.symm
      · rw [h]; exact hm.1.2.2.2.1.symm
      · rw [h]; exact hm.1.2.2.2.2.symm
  · rw [k1.2.2 hin, q2.2 hin]
end TLR
