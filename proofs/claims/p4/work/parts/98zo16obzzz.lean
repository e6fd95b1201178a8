/-! ===== printed by riv.py: rules(), its reader made ===== -/
noncomputable def t_RSRe (gi : Nat → Nat → Int32) (gl : Nat → Nat → Int64) (gr : Nat → Nat → Value) (N : Nat) (b : Nat → Int32) (n : Nat) (x : Int32) (g : Nat → Nat → Int32) (l : Nat → Nat → Int64) (r : Nat → Nat → Value) : Prop := ((∃ k : Nat, s_rls b n 301 0 0 0 = ((0, 0), k) ∧ x.toInt = (k : Int) ∧ (g 0 8).toInt = 0 ∧ (g 0 9).toInt = -1 ∧ r 0 6 = gr 0 6 ∧ r 0 7 = .ref (N + 2) ∧ (g (N + 2) 0).toInt = (k : Int) ∧ t_UK g (N + 2) (s_rle b n 301 0 0)) ∨ (∃ p x2, x2 ≠ 0 ∧ s_rls b n 301 0 0 0 = ((s_qb b n p x2).1, 0) ∧ x.toInt = -1 ∧ (g 0 8).toInt = s_fk b n p x2 ∧ (g 0 9).toInt = (s_F b n p : Nat) ∧ r 0 6 = gr 0 6 ∧ r 0 7 = gr 0 7)) ∧ t_l0 N gi gl gr g l r
set_option maxHeartbeats 4000000 in
theorem c_ue_rules {X : x_Ext} {d : Nat} {sh : List (Nat ⊕ (Nat × Nat))} {gi : Nat → Nat → Int32} {gl : Nat → Nat → Int64} {gr : Nat → Nat → Value} (hI : t_I sh gi gr) (hH : t_H sh) (ar1 : Int32) : x_Me X (d + 70) n_X11_rules [.ref 0, .int ar1] (sh, gi, gl, gr) (fun v G1 => ∃ sh1 g l r x, G1 = (sh1, g, l, r) ∧ v = some (.int x) ∧ ((0 ≤ ar1.toInt ∧ ar1.toInt ≤ (gi 0 5).toInt ∧ ar1.toInt ≤ 300) → ∀ n : Nat, (n : Int) = ar1.toInt → t_RSRe gi gl gr sh.length (gi 2) n x g l r) ∧ (¬ (0 ≤ ar1.toInt ∧ ar1.toInt ≤ (gi 0 5).toInt ∧ ar1.toInt ≤ 300) → x.toInt = -1 ∧ (∀ K, K ≠ 0 → g K = gi K ∧ l K = gl K ∧ r K = gr K) ∧ r 0 6 = gr 0 6 ∧ r 0 7 = gr 0 7)) := by
  have hb0 := hI.b (hI.wf.s (k := 0) rfl) (t_bdK rfl : t_bd 10 5 = some (0, 900))
  refine me_i f_X11_rules (hI.wf.s rfl) rfl rfl rfl ?_
  refine ev_loc f_X11_rules (nx := 1) rfl rfl rfl rfl ?_
  refine ev_if f_X11_rules (t1 := 19) (t2 := 4) rfl rfl rfl (fun h1 => ?_) (fun h1 => ?_)
  · have h1 := Int32.lt_iff_toInt_lt.mp h1; have kf0 : (0 : Int32).toInt = 0 := (by decide); refine x_Ev.mono (x_Ev.up (c_t_rulesN (d := d) hI ar1) (by omega)) ?_; rintro v G1 ⟨g1, l1, r1, rfl, k1, k2, x, rfl, -, -, k3⟩; exact ⟨sh, g1, l1, r1, x, rfl, rfl, fun hi => absurd hi (by omega), fun _ => ⟨k3, fun K hK => t_row0 k2 rfl hK, (k2.1 0 6 rfl).2.2, (k2.1 0 7 rfl).2.2⟩⟩
  have h1 := Int32.le_iff_toInt_le.mp (t_nlt h1); have kf0 : (0 : Int32).toInt = 0 := (by decide)
  refine ev_loc f_X11_rules (nx := 5) rfl rfl rfl rfl ?_
  refine ev_loc f_X11_rules (nx := 6) rfl rfl rfl rfl ?_
  refine ev_getI f_X11_rules (nx := 9) rfl (hI.wf.s rfl) rfl rfl rfl ?_
  refine ev_if f_X11_rules (t1 := 19) (t2 := 12) rfl rfl rfl (fun h2 => ?_) (fun h2 => ?_)
  · have h2 := Int32.lt_iff_toInt_lt.mp h2; refine x_Ev.mono (x_Ev.up (c_t_rulesN (d := d) hI ar1) (by omega)) ?_; rintro v G1 ⟨g1, l1, r1, rfl, k1, k2, x, rfl, -, -, k3⟩; exact ⟨sh, g1, l1, r1, x, rfl, rfl, fun hi => absurd hi (by omega), fun _ => ⟨k3, fun K hK => t_row0 k2 rfl hK, (k2.1 0 6 rfl).2.2, (k2.1 0 7 rfl).2.2⟩⟩
  have h2 := Int32.le_iff_toInt_le.mp (t_nlt h2)
  refine ev_loc f_X11_rules (nx := 13) rfl rfl rfl rfl ?_
  refine ev_sp f_X11_rules (nx := 16) (v := 300) rfl (by decide) rfl ?_
  refine ev_if f_X11_rules (t1 := 25) (t2 := 19) rfl rfl rfl (fun h3 => ?_) (fun h3 => ?_)
  rotate_left
  · have h3 := Int32.lt_iff_toInt_lt.mp (t_nle h3); have kf1 : (300 : Int32).toInt = 300 := (by decide); refine x_Ev.mono (x_Ev.up (c_t_rulesN (d := d) hI ar1) (by omega)) ?_; rintro v G1 ⟨g1, l1, r1, rfl, k1, k2, x, rfl, -, -, k3⟩; exact ⟨sh, g1, l1, r1, x, rfl, rfl, fun hi => absurd hi (by omega), fun _ => ⟨k3, fun K hK => t_row0 k2 rfl hK, (k2.1 0 6 rfl).2.2, (k2.1 0 7 rfl).2.2⟩⟩
  have h3 := Int32.le_iff_toInt_le.mp h3; have kf1 : (300 : Int32).toInt = 300 := (by decide)
  have hin : (0 ≤ ar1.toInt ∧ ar1.toInt ≤ (gi 0 5).toInt ∧ ar1.toInt ≤ 300) := by omega
  have lx : (0:Int) ≤ ar1.toInt := by omega
  have ux : ar1.toInt ≤ (900:Int) := by omega
  obtain ⟨N, hN⟩ : ∃ N, sh.length = N := ⟨_, rfl⟩
  rw [hN]
  have h102 := t_102 hI.wf
  rw [hN] at h102
  have hG := t_G.refl (N := N) (r := N) (gi0 := gi) (gl0 := gl) (gr0 := gr) hN (fun ci j lo hi hk ht => absurd (t_lt hk) (by omega))
  rw [show ((sh, gi, gl, gr) : x_G) = (sh ++ [], gi, gl, gr) by rw [List.append_nil]]
  refine ev_newG f_X11_rules (nx := 28) (c := 0) (ext' := [.inl 7]) rfl rfl rfl hN rfl rfl hG (fun a101 b101 g101 ea101 eb101 e101 hG => ?_)
  refine ev_alu f_X11_rules (nx := 29) rfl rfl rfl rfl ?_
  refine ev_newG f_X11_rules (nx := 32) (c := 1) (ext' := [.inl 7, .inl 8]) rfl rfl rfl hN rfl rfl hG (fun a102 b102 g102 ea102 eb102 e102 hG => ?_)
  refine ev_alu f_X11_rules (nx := 33) rfl rfl rfl rfl ?_
  refine ev_loc f_X11_rules (nx := 34) rfl rfl rfl rfl ?_
  refine ev_getR f_X11_rules (nx := 37) rfl (t_sl (hI.wf.s rfl)) rfl rfl ((congrFun (hG.1 0 (by omega) (by omega)).2.2 4).trans (hI.wf.r rfl)) rfl rfl ?_
  refine ev_loc f_X11_rules (nx := 38) rfl rfl rfl rfl ?_
  refine ev_inV3 f_X11_rules (nx := 41) (lo2 := [(0, .ref (N + 1)), (1, .ref 2), (2, .int ar1)]) rfl rfl rfl rfl f_X9_init ((t_sx hN).trans rfl) rfl rfl rfl rfl rfl ?_
  refine ev_loc f_X9_init (nx := 1) rfl rfl rfl rfl ?_
  refine ev_obj f_X9_init (nx := 4) rfl rfl (by omega) (by decide) rfl ?_
  refine ev_loc f_X9_init (nx := 5) rfl rfl rfl rfl ?_
  refine ev_ic f_X9_init (nx := 6) (v := 0) rfl (by decide) rfl ?_
  refine ev_putIG f_X9_init (nx := 9) rfl ((t_sx hN).trans rfl) rfl rfl rfl (hG.putI (Or.inl (by omega)) ((t_sx hN).trans rfl) (fun lo hi e => by have e : some ((0 : Int), (900 : Int)) = some (lo, hi) := e; cases e; exact ⟨by decide, by decide⟩) (fun _ => rfl)) (fun a103 ea103 hG => ?_)
  refine ev_loc f_X9_init (nx := 10) rfl rfl rfl rfl ?_
  refine ev_ic f_X9_init (nx := 11) (v := 3) rfl (by decide) rfl ?_
  refine ev_putIG f_X9_init (nx := 14) rfl ((t_sx hN).trans rfl) rfl rfl rfl (hG.putI (Or.inl (by omega)) ((t_sx hN).trans rfl) (fun lo hi e => by have e : (none : Option (Int × Int)) = some (lo, hi) := e; cases e) (fun h => absurd h (by decide))) (fun a104 ea104 hG => ?_)
  refine ev_loc f_X9_init (nx := 15) rfl rfl rfl rfl ?_
  refine ev_ic f_X9_init (nx := 16) (v := 0) rfl (by decide) rfl ?_
  refine ev_putIG f_X9_init (nx := 19) rfl ((t_sx hN).trans rfl) rfl rfl rfl (hG.putI (Or.inl (by omega)) ((t_sx hN).trans rfl) (fun lo hi e => by have e : some ((0 : Int), (900 : Int)) = some (lo, hi) := e; cases e; exact ⟨by decide, by decide⟩) (fun _ => rfl)) (fun a105 ea105 hG => ?_)
  refine ev_loc f_X9_init (nx := 20) rfl rfl rfl rfl ?_
  refine ev_ic f_X9_init (nx := 21) (v := 0) rfl (by decide) rfl ?_
  refine ev_putIG f_X9_init (nx := 24) rfl ((t_sx hN).trans rfl) rfl rfl rfl (hG.putI (Or.inl (by omega)) ((t_sx hN).trans rfl) (fun lo hi e => by have e : (none : Option (Int × Int)) = some (lo, hi) := e; cases e) (fun _ => rfl)) (fun a106 ea106 hG => ?_)
  refine ev_loc f_X9_init (nx := 25) rfl rfl rfl rfl ?_
  refine ev_lc f_X9_init (nx := 26) (v := 0) rfl (by decide) rfl ?_
  refine ev_putLG f_X9_init (nx := 29) rfl ((t_sx hN).trans rfl) rfl rfl rfl (hG.putL (Or.inl (by omega))) (fun b107 eb107 hG => ?_)
  refine ev_loc f_X9_init (nx := 30) rfl rfl rfl rfl ?_
  refine ev_alu f_X9_init (nx := 31) rfl rfl rfl rfl ?_
  refine ev_putRG f_X9_init (nx := 34) rfl ((t_sx hN).trans rfl) rfl rfl rfl rfl (hG.putR (Or.inl (by omega)) ((t_sx hN).trans rfl) (fun h8 h7 => Or.inl rfl)) (fun g108 e108 hG => ?_)
  refine ev_loc f_X9_init (nx := 35) rfl rfl rfl rfl ?_
  refine ev_ic f_X9_init (nx := 36) (v := 0) rfl (by decide) rfl ?_
  refine ev_putIG f_X9_init (nx := 39) rfl ((t_sx hN).trans rfl) rfl rfl rfl (hG.putI (Or.inl (by omega)) ((t_sx hN).trans rfl) (fun lo hi e => by have e : (none : Option (Int × Int)) = some (lo, hi) := e; cases e) (fun _ => rfl)) (fun a109 ea109 hG => ?_)
  refine ev_loc f_X9_init (nx := 40) rfl rfl rfl rfl ?_
  refine ev_ic f_X9_init (nx := 41) (v := 0) rfl (by decide) rfl ?_
  refine ev_putIG f_X9_init (nx := 44) rfl ((t_sx hN).trans rfl) rfl rfl rfl (hG.putI (Or.inl (by omega)) ((t_sx hN).trans rfl) (fun lo hi e => by have e : (none : Option (Int × Int)) = some (lo, hi) := e; cases e) (fun _ => rfl)) (fun a110 ea110 hG => ?_)
  refine ev_loc f_X9_init (nx := 45) rfl rfl rfl rfl ?_
  refine ev_ic f_X9_init (nx := 46) (v := 0) rfl (by decide) rfl ?_
  refine ev_putIG f_X9_init (nx := 49) rfl ((t_sx hN).trans rfl) rfl rfl rfl (hG.putI (Or.inl (by omega)) ((t_sx hN).trans rfl) (fun lo hi e => by have e : (none : Option (Int × Int)) = some (lo, hi) := e; cases e) (fun _ => rfl)) (fun a111 ea111 hG => ?_)
  refine ev_loc f_X9_init (nx := 50) rfl rfl rfl rfl ?_
  refine ev_ic f_X9_init (nx := 51) (v := -1) rfl (by decide) rfl ?_
  refine ev_putIG f_X9_init (nx := 54) rfl ((t_sx hN).trans rfl) rfl rfl rfl (hG.putI (Or.inl (by omega)) ((t_sx hN).trans rfl) (fun lo hi e => by have e : (none : Option (Int × Int)) = some (lo, hi) := e; cases e) (fun h => absurd h (by decide))) (fun a112 ea112 hG => ?_)
  refine ev_loc f_X9_init (nx := 55) rfl rfl rfl rfl ?_
  refine ev_loc f_X9_init (nx := 56) rfl rfl rfl rfl ?_
  refine ev_putRG f_X9_init (nx := 59) rfl ((t_sx hN).trans rfl) rfl rfl rfl rfl (hG.putR (Or.inl (by omega)) ((t_sx hN).trans rfl) (fun h8 h7 => absurd h7 (by decide))) (fun g113 e113 hG => ?_)
  refine ev_loc f_X9_init (nx := 60) rfl rfl rfl rfl ?_
  refine ev_loc f_X9_init (nx := 61) rfl rfl rfl rfl ?_
  refine ev_loc f_X9_init (nx := 62) rfl rfl rfl rfl ?_
  refine ev_alenv f_X9_init (nx := 63) (w := 900) rfl (t_sl (hI.wf.s rfl)) rfl (by decide) rfl ?_
  refine ev_minE f_X9_init (nx := 66) (l := 0) (u := 900) rfl rfl (by omega) rfl lx ux (by decide : (900:Int) ≤ (900:Int32).toInt) (by decide : (900:Int32).toInt ≤ (900:Int)) (by decide) (by decide) rfl (fun w114 e114 l114 u114 => ?_)
  refine ev_putIG f_X9_init (nx := 69) rfl ((t_sx hN).trans rfl) rfl rfl rfl (hG.putI (Or.inl (by omega)) ((t_sx hN).trans rfl) (fun lo hi e => by have e : some ((0 : Int), (900 : Int)) = some (lo, hi) := e; cases e; exact ⟨l114, u114⟩) (fun h => absurd h (by decide))) (fun a115 ea115 hG => ?_)
  refine ev_loc f_X9_init (nx := 70) rfl rfl rfl rfl ?_
  have hI1 := hG.I hN hI hH (by omega) (fun s hs => absurd (t_lt hs) (by omega))
  have hTk : t_Tk (sh ++ ([.inl 7, .inl 8] : List (Nat ⊕ (Nat × Nat)))) g113 (N + 1) := ⟨(t_sx hN).trans rfl, (by rw [e113]; exact x_up2_at _ _ _ _)⟩
  have i1_1 : a115 (N + 1) 1 = w114 := by rw [ea115, x_up2_at]
  have i1_2 : a115 (N + 1) 2 = 0 := by rw [ea115, x_up2_off (Or.inr (by decide)), ea112, x_up2_off (Or.inr (by decide)), ea111, x_up2_off (Or.inr (by decide)), ea110, x_up2_off (Or.inr (by decide)), ea109, x_up2_off (Or.inr (by decide)), ea106, x_up2_off (Or.inr (by decide)), ea105, x_up2_off (Or.inr (by decide)), ea104, x_up2_off (Or.inr (by decide)), ea103, x_up2_at]
  have i1_10 : a115 (N + 1) 10 = 0 := by rw [ea115, x_up2_off (Or.inr (by decide)), ea112, x_up2_off (Or.inr (by decide)), ea111, x_up2_at]
  have i1_11 : a115 (N + 1) 11 = (-1) := by rw [ea115, x_up2_off (Or.inr (by decide)), ea112, x_up2_at]
  have hS : t_Sp (gi 2) ar1.toNatClampNeg 0 a115 (N + 1) := ⟨(hG.1 2 (by omega) (by omega)).1, by rw [i1_1]; have hc := t_clamp (i := ar1) lx; have h9 : (900 : Int32).toInt = 900 := rfl; omega, by rw [i1_2]; rfl, Nat.zero_le _⟩
  have hG1 := hG
  have hX : t_X wl_s_step (sh ++ ([.inl 7, .inl 8] : List (Nat ⊕ (Nat × Nat)))) a115 b107 g113 a115 b107 g113 := t_X.rf
  refine ev_qN f_X9_init (nx := 73) (r := []) rfl rfl rfl rfl rfl rfl rfl (x_Me.up (c_s_step (d := d) hI1 (N + 1) hTk) (by omega)) rfl hX rfl (fun gi1 gl1 gr1 hI2 hX1 _ qs => ?_)
  have hT1 := qs.1 (gi 2) _ 0 hS
  have hF1 : t_FL gi1 (N + 1) 0 (-1) := ⟨by rw [qs.2.1.1, i1_10]; rfl, by rw [qs.2.1.2, i1_11]; rfl⟩
  replace hTk := hTk.ext hX1.2
  have hN2 : (sh ++ ([.inl 7, .inl 8] : List (Nat ⊕ (Nat × Nat)))).length = N + 2 := by rw [List.length_append, hN]; rfl
  have hG := t_G.refl (N := N + 2) (r := N + 0) (gi0 := gi1) (gl0 := gl1) (gr0 := gr1) hN2 (fun ci j lo hi hk ht => hI2.b hk ht)
  rw [show (((sh ++ ([.inl 7, .inl 8] : List (Nat ⊕ (Nat × Nat)))), gi1, gl1, gr1) : x_G) = ((sh ++ ([.inl 7, .inl 8] : List (Nat ⊕ (Nat × Nat)))) ++ [], gi1, gl1, gr1) by rw [List.append_nil]]
  refine ev_retK0 f_X9_init rfl rfl rfl ?_
  refine ev_newG f_X11_rules (nx := 44) (c := 0) (ext' := [.inl 6]) rfl rfl rfl hN2 rfl rfl hG (fun a116 b116 g116 ea116 eb116 e116 hG => ?_)
  refine ev_alu f_X11_rules (nx := 45) rfl rfl rfl rfl ?_
  refine ev_loc f_X11_rules (nx := 46) rfl rfl rfl rfl ?_
  refine ev_inV2 f_X11_rules (nx := 49) (lo2 := [(0, .ref (N + 2 + 0)), (1, .int ar1)]) rfl rfl rfl rfl f_X7_init ((t_sx hN2).trans rfl) rfl rfl rfl rfl rfl ?_
  refine ev_loc f_X7_init (nx := 1) rfl rfl rfl rfl ?_
  refine ev_obj f_X7_init (nx := 4) rfl rfl (by omega) (by decide) rfl ?_
  refine ev_loc f_X7_init (nx := 5) rfl rfl rfl rfl ?_
  refine ev_ic f_X7_init (nx := 6) (v := 0) rfl (by decide) rfl ?_
  refine ev_putIG f_X7_init (nx := 9) rfl ((t_sx hN2).trans rfl) rfl rfl rfl (hG.putI (Or.inl (by omega)) ((t_sx hN2).trans rfl) (fun lo hi e => by have e : some ((0 : Int), (12 : Int)) = some (lo, hi) := e; cases e; exact ⟨by decide, by decide⟩) (fun _ => rfl)) (fun a117 ea117 hG => ?_)
  refine ev_loc f_X7_init (nx := 10) rfl rfl rfl rfl ?_
  refine ev_bp f_X7_init (nx := 12) (v := 12) rfl (by decide) rfl ?_
  refine ev_arrG f_X7_init (nx := 14) (c := 1) (m := 12) (ext' := [.inl 6, .inr (0, 12)]) rfl rfl (by decide) rfl (by decide) rfl hN2 rfl rfl hG (fun a118 b118 g118 ea118 eb118 e118 hG => ?_)
  refine ev_putRG f_X7_init (nx := 17) rfl ((t_sx hN2).trans rfl) rfl rfl rfl rfl (hG.putR (Or.inl (by omega)) ((t_sx hN2).trans rfl) (fun h8 h7 => absurd h8 (by decide))) (fun g119 e119 hG => ?_)
  refine ev_loc f_X7_init (nx := 18) rfl rfl rfl rfl ?_
  refine ev_bp f_X7_init (nx := 20) (v := 12) rfl (by decide) rfl ?_
  refine ev_arrG f_X7_init (nx := 22) (c := 2) (m := 12) (ext' := [.inl 6, .inr (0, 12), .inr (0, 12)]) rfl rfl (by decide) rfl (by decide) rfl hN2 rfl rfl hG (fun a120 b120 g120 ea120 eb120 e120 hG => ?_)
  refine ev_putRG f_X7_init (nx := 25) rfl ((t_sx hN2).trans rfl) rfl rfl rfl rfl (hG.putR (Or.inl (by omega)) ((t_sx hN2).trans rfl) (fun h8 h7 => absurd h8 (by decide))) (fun g121 e121 hG => ?_)
  refine ev_loc f_X7_init (nx := 26) rfl rfl rfl rfl ?_
  refine ev_ic f_X7_init (nx := 27) (v := 0) rfl (by decide) rfl ?_
  refine ev_putIG f_X7_init (nx := 30) rfl ((t_sx hN2).trans rfl) rfl rfl rfl (hG.putI (Or.inl (by omega)) ((t_sx hN2).trans rfl) (fun lo hi e => by have e : some ((0 : Int), (300 : Int)) = some (lo, hi) := e; cases e; exact ⟨by decide, by decide⟩) (fun _ => rfl)) (fun a122 ea122 hG => ?_)
  refine ev_loc f_X7_init (nx := 31) rfl rfl rfl rfl ?_
  refine ev_ic f_X7_init (nx := 32) (v := 0) rfl (by decide) rfl ?_
  refine ev_mm f_X7_init (nx := 35) rfl rfl rfl (by omega) (by decide) rfl ?_
  rw [t_mx lx]
  refine ev_loc f_X7_init (nx := 36) (lo' := [(2, .int ar1), (0, .ref (N + 2 + 0)), (1, .int ar1)]) rfl rfl rfl rfl ?_
  refine ev_loc f_X7_init (nx := 37) rfl rfl rfl rfl ?_
  refine ev_loc f_X7_init (nx := 38) rfl rfl rfl rfl ?_
  refine ev_arrG f_X7_init (nx := 40) (c := 3) (m := ar1.toNatClampNeg) (ext' := [.inl 6, .inr (0, 12), .inr (0, 12), .inr (0, ar1.toNatClampNeg)]) rfl rfl lx rfl (decide_eq_true (by have hc := t_clamp (i := ar1) lx; omega)) rfl hN2 rfl rfl hG (fun a124 b124 g124 ea124 eb124 e124 hG => ?_)
  refine ev_putRG f_X7_init (nx := 43) rfl ((t_sx hN2).trans rfl) rfl rfl rfl rfl (hG.putR (Or.inl (by omega)) ((t_sx hN2).trans rfl) (fun h8 h7 => absurd h8 (by decide))) (fun g125 e125 hG => ?_)
  refine ev_loc f_X7_init (nx := 44) rfl rfl rfl rfl ?_
  refine ev_loc f_X7_init (nx := 45) rfl rfl rfl rfl ?_
  refine ev_arrG f_X7_init (nx := 47) (c := 4) (m := ar1.toNatClampNeg) (ext' := [.inl 6, .inr (0, 12), .inr (0, 12), .inr (0, ar1.toNatClampNeg), .inr (0, ar1.toNatClampNeg)]) rfl rfl lx rfl (decide_eq_true (by have hc := t_clamp (i := ar1) lx; omega)) rfl hN2 rfl rfl hG (fun a126 b126 g126 ea126 eb126 e126 hG => ?_)
  refine ev_putRG f_X7_init (nx := 50) rfl ((t_sx hN2).trans rfl) rfl rfl rfl rfl (hG.putR (Or.inl (by omega)) ((t_sx hN2).trans rfl) (fun h8 h7 => absurd h8 (by decide))) (fun g127 e127 hG => ?_)
  refine ev_loc f_X7_init (nx := 51) rfl rfl rfl rfl ?_
  refine ev_loc f_X7_init (nx := 52) rfl rfl rfl rfl ?_
  refine ev_arrG f_X7_init (nx := 54) (c := 5) (m := ar1.toNatClampNeg) (ext' := [.inl 6, .inr (0, 12), .inr (0, 12), .inr (0, ar1.toNatClampNeg), .inr (0, ar1.toNatClampNeg), .inr (0, ar1.toNatClampNeg)]) rfl rfl lx rfl (decide_eq_true (by have hc := t_clamp (i := ar1) lx; omega)) rfl hN2 rfl rfl hG (fun a128 b128 g128 ea128 eb128 e128 hG => ?_)
  refine ev_putRG f_X7_init (nx := 57) rfl ((t_sx hN2).trans rfl) rfl rfl rfl rfl (hG.putR (Or.inl (by omega)) ((t_sx hN2).trans rfl) (fun h8 h7 => absurd h8 (by decide))) (fun g129 e129 hG => ?_)
  refine ev_retK0 f_X7_init rfl rfl rfl ?_
  refine ev_inV3 f_X11_rules (nx := 52) (lo2 := [(0, .ref (N + 0)), (1, .ref (N + 1)), (2, .ref (N + 2 + 0))]) rfl rfl rfl rfl f_X8_init (t_sl ((t_sx hN).trans rfl)) rfl rfl rfl rfl rfl ?_
  refine ev_loc f_X8_init (nx := 1) rfl rfl rfl rfl ?_
  refine ev_obj f_X8_init (nx := 4) rfl rfl (by omega) (by decide) rfl ?_
  refine ev_loc f_X8_init (nx := 5) rfl rfl rfl rfl ?_
  refine ev_ic f_X8_init (nx := 6) (v := 0) rfl (by decide) rfl ?_
  refine ev_putIG f_X8_init (nx := 9) rfl (t_sl ((t_sx hN).trans rfl)) rfl rfl rfl (hG.putI (Or.inr rfl) (t_sl ((t_sx hN).trans rfl)) (fun lo hi e => by have e : (none : Option (Int × Int)) = some (lo, hi) := e; cases e) (fun _ => rfl)) (fun a130 ea130 hG => ?_)
  refine ev_loc f_X8_init (nx := 10) rfl rfl rfl rfl ?_
  refine ev_loc f_X8_init (nx := 11) rfl rfl rfl rfl ?_
  refine ev_putRG f_X8_init (nx := 14) rfl (t_sl ((t_sx hN).trans rfl)) rfl rfl rfl rfl (hG.putR (Or.inr rfl) (t_sl ((t_sx hN).trans rfl)) (fun h8 h7 => absurd h8 (by decide))) (fun g131 e131 hG => ?_)
  refine ev_loc f_X8_init (nx := 15) rfl rfl rfl rfl ?_
  refine ev_loc f_X8_init (nx := 16) rfl rfl rfl rfl ?_
  refine ev_putRG f_X8_init (nx := 19) rfl (t_sl ((t_sx hN).trans rfl)) rfl rfl rfl rfl (hG.putR (Or.inr rfl) (t_sl ((t_sx hN).trans rfl)) (fun h8 h7 => absurd h8 (by decide))) (fun g132 e132 hG => ?_)
  refine ev_retK0 f_X8_init rfl rfl rfl ?_
  refine ev_loc f_X11_rules (nx := 53) (lo' := [(2, .ref (N + 0)), (0, .ref 0), (1, .int ar1)]) rfl rfl rfl rfl ?_
  have hI3 := hG.I hN2 hI2 (t_H_ext hH (t_he rfl)) (by omega) (fun s hs => Or.inr (by rw [(t_sx hN).trans rfl] at hs; cases hs; rfl))
  have hRu : t_Ru ((sh ++ ([.inl 7, .inl 8] : List (Nat ⊕ (Nat × Nat)))) ++ [.inl 6, .inr (0, 12), .inr (0, 12), .inr (0, ar1.toNatClampNeg), .inr (0, ar1.toNatClampNeg), .inr (0, ar1.toNatClampNeg)]) g132 (N + 2) := ⟨(t_sx (i := 0) hN2).trans rfl, by omega, (by rw [e132, x_up2_off (Or.inl (by omega)), e131, x_up2_off (Or.inl (by omega)), e129, x_up2_off (Or.inr (by decide)), e128, x_clr_ne (by omega), e127, x_up2_off (Or.inr (by decide)), e126, x_clr_ne (by omega), e125, x_up2_off (Or.inr (by decide)), e124, x_clr_ne (by omega), e121, x_up2_off (Or.inr (by decide)), e120, x_clr_ne (by omega), e119]; exact x_up2_at _ _ _ _), (by rw [e132, x_up2_off (Or.inl (by omega)), e131, x_up2_off (Or.inl (by omega)), e129, x_up2_off (Or.inr (by decide)), e128, x_clr_ne (by omega), e127, x_up2_off (Or.inr (by decide)), e126, x_clr_ne (by omega), e125, x_up2_off (Or.inr (by decide)), e124, x_clr_ne (by omega), e121]; exact x_up2_at _ _ _ _), (t_sx (i := 1) hN2).trans rfl, (t_sx (i := 2) hN2).trans rfl, ar1.toNatClampNeg, by have hc := t_clamp (i := ar1) lx; omega, (by rw [e132, x_up2_off (Or.inl (by omega)), e131, x_up2_off (Or.inl (by omega)), e129, x_up2_off (Or.inr (by decide)), e128, x_clr_ne (by omega), e127, x_up2_off (Or.inr (by decide)), e126, x_clr_ne (by omega), e125]; exact x_up2_at _ _ _ _), (by rw [e132, x_up2_off (Or.inl (by omega)), e131, x_up2_off (Or.inl (by omega)), e129, x_up2_off (Or.inr (by decide)), e128, x_clr_ne (by omega), e127]; exact x_up2_at _ _ _ _), (by rw [e132, x_up2_off (Or.inl (by omega)), e131, x_up2_off (Or.inl (by omega)), e129]; exact x_up2_at _ _ _ _), (t_sx (i := 3) hN2).trans rfl, (t_sx (i := 4) hN2).trans rfl, (t_sx (i := 5) hN2).trans rfl⟩
  have f0 : g132 (N + 0) 0 = .ref (N + 1) := (by rw [e132, x_up2_off (Or.inr (by decide)), e131]; exact x_up2_at _ _ _ _)
  have f1 : g132 (N + 0) 1 = .ref (N + 2 + 0) := (by rw [e132]; exact x_up2_at _ _ _ _)
  have hTk2 : t_Tk ((sh ++ ([.inl 7, .inl 8] : List (Nat ⊕ (Nat × Nat)))) ++ [.inl 6, .inr (0, 12), .inr (0, 12), .inr (0, ar1.toNatClampNeg), .inr (0, ar1.toNatClampNeg), .inr (0, ar1.toNatClampNeg)]) g132 (N + 1) := ⟨t_sl ((t_sx hN).trans rfl), (congrFun (hG.1 (N + 1) (by omega) (by omega)).2.2 0).trans hTk.2⟩
  have hR : t_UQ ((sh ++ ([.inl 7, .inl 8] : List (Nat ⊕ (Nat × Nat)))) ++ [.inl 6, .inr (0, 12), .inr (0, 12), .inr (0, ar1.toNatClampNeg), .inr (0, ar1.toNatClampNeg), .inr (0, ar1.toNatClampNeg)]) g132 N := ⟨t_sl ((t_sx (i := 0) hN).trans rfl), by omega, ⟨f0, hTk2⟩, f1, hRu⟩
  have zR2 : (a130 (N + 0) 2).toInt = 0 := by rw [ea130, x_up2_at]; rfl
  have zV0 : (a130 (N + 2 + 0) 0).toInt = 0 := by rw [ea130, x_up2_off (Or.inl (by omega)), ea128, x_clr_ne (by omega), ea126, x_clr_ne (by omega), ea124, x_clr_ne (by omega), ea122, x_up2_off (Or.inr (by decide)), ea120, x_clr_ne (by omega), ea118, x_clr_ne (by omega), ea117, x_up2_at]; rfl
  have zV3 : (a130 (N + 2 + 0) 3).toInt = 0 := by rw [ea130, x_up2_off (Or.inl (by omega)), ea128, x_clr_ne (by omega), ea126, x_clr_ne (by omega), ea124, x_clr_ne (by omega), ea122, x_up2_at]; rfl
  have hT2 := hT1.eq (g1 := a130) (l1 := b128) (r1 := g132) (hG.1 2 (by omega) (by omega)).1 (hG.1 (N + 1) (by omega) (by omega)).1 (hG.1 (N + 1) (by omega) (by omega)).2.1 (hG.1 (N + 1) (by omega) (by omega)).2.2
  have hF2 : t_FL a130 (N + 1) 0 (-1) := by rw [t_FL, (hG.1 (N + 1) (by omega) (by omega)).1]; exact hF1
  refine ev_sub (lo := [(0, .ref 0), (1, .int ar1), (2, .ref (N + 0))]) rfl (t_sc rfl (t_sc rfl (t_sc rfl t_sn))) ?_
  refine x_Ev.mono (x_Ev.up (c_ue_rulesT (d := d) hI3 ar1 N hR) (by omega)) ?_
  rintro v G1 ⟨g1, l1, r1, rfl, k1, k2, x, rfl, -, -, k3, k4⟩
  refine ⟨_, g1, l1, r1, x, rfl, rfl, fun _ n hn => ?_, fun hh => absurd hin hh⟩
  have en : n = ar1.toNatClampNeg := by have hc := t_clamp (i := ar1) lx; omega
  subst en
  have hr6 : g132 0 6 = gr 0 6 := by rw [(hG.1 0 (by omega) (by omega)).2.2, (hX1.1 0 6 rfl).2.2, (hG1.1 0 (by omega) (by omega)).2.2]
  have hr7 : g132 0 7 = gr 0 7 := by rw [(hG.1 0 (by omega) (by omega)).2.2, (hX1.1 0 7 rfl).2.2, (hG1.1 0 (by omega) (by omega)).2.2]
  refine ⟨(k3 _ _ ⟨hT2, ⟨by have hc := t_clamp (i := ar1) lx; omega, zR2⟩, hF2⟩ zV0).imp ?_ ?_, fun K k0 hK => ?_⟩
  · rintro ⟨kk, a1, a2, a3, a4, a5, a6, a7, a8⟩
    exact ⟨kk, a1, a2, a3, a4, a5.trans hr6, a6, a7, a8 ⟨⟨(t_sx (i := 3) hN2).trans rfl, ⟨zV3, Nat.le_refl _⟩, fun i hi => absurd hi (Nat.not_lt_zero _)⟩, fun i hi => absurd hi (Nat.not_lt_zero _)⟩⟩
  · rintro ⟨p, x2, a1, a2, a3, a4, a5, a6, a7⟩
    exact ⟨p, x2, a1, a2, a3, a4, a5, a6.trans hr6, a7.trans hr7⟩
  · have f1 := k4 K k0 hK
    have f2 := hG.1 K (by omega) (by omega)
    have f3 := qs.2.2 K (by omega)
    have f4 := hG1.1 K (by omega) (by omega)
    exact ⟨f1.1.trans (f2.1.trans (f3.1.trans f4.1)), f1.2.1.trans (f2.2.1.trans (f3.2.1.trans f4.2.1)), f1.2.2.trans (f2.2.2.trans (f3.2.2.trans f4.2.2))⟩
