/-! ===== printed by riv.py: river(), its reader made ===== -/
noncomputable def t_RES (gi : Nat → Nat → Int32) (gl : Nat → Nat → Int64) (gr : Nat → Nat → Value) (N : Nat) (b : Nat → Int32) (n : Nat) (x : Int32) (g : Nat → Nat → Int32) (l : Nat → Nat → Int64) (r : Nat → Nat → Value) : Prop := ((∃ q2 D2, s_rv b n 901 0 s_D0 = s_ok q2 D2 ∧ x.toInt = D2 1 ∧ (g 0 8).toInt = 0 ∧ (g 0 9).toInt = -1 ∧ r 0 6 = .ref (N + 2) ∧ r 0 7 = .null ∧ t_CR g l N D2 (D2 0 + D2 1 + D2 2) (s_used D2) ∧ t_VL r (N + 2)) ∨ (∃ p x2 D2, x2 ≠ 0 ∧ s_rv b n 901 0 s_D0 = s_bad b n p x2 D2 ∧ x.toInt = -1 ∧ (g 0 8).toInt = s_fk b n p x2 ∧ (g 0 9).toInt = (s_F b n p : Nat) ∧ r 0 6 = gr 0 6 ∧ r 0 7 = gr 0 7)) ∧ t_l0 N gi gl gr g l r
set_option maxHeartbeats 4000000 in
theorem c_s_river {X : x_Ext} {d : Nat} {sh : List (Nat ⊕ (Nat × Nat))} {gi : Nat → Nat → Int32} {gl : Nat → Nat → Int64} {gr : Nat → Nat → Value} (hI : t_I sh gi gr) (hH : t_H sh) (ar1 : Int32) : x_Me X (d + 11) n_X11_river [.ref 0, .int ar1] (sh, gi, gl, gr) (fun v G1 => ∃ sh1 g l r x, G1 = (sh1, g, l, r) ∧ v = some (.int x) ∧ ((0 ≤ ar1.toInt ∧ ar1.toInt ≤ (gi 0 5).toInt) → ∀ n : Nat, (n : Int) = ar1.toInt → t_RES gi gl gr sh.length (gi 2) n x g l r) ∧ (¬ (0 ≤ ar1.toInt ∧ ar1.toInt ≤ (gi 0 5).toInt) → x.toInt = -1 ∧ (∀ K, K ≠ 0 → g K = gi K ∧ l K = gl K ∧ r K = gr K) ∧ r 0 6 = gr 0 6 ∧ r 0 7 = gr 0 7) ∧ ((0 ≤ ar1.toInt ∧ ar1.toInt ≤ (gi 0 5).toInt) → sh.length + 18 ≤ sh1.length)) := by
  have hb0 := hI.b (hI.wf.s (k := 0) rfl) (t_bdK rfl : t_bd 10 5 = some (0, 900))
  refine me_i f_X11_river (hI.wf.s rfl) rfl rfl rfl ?_
  refine ev_loc f_X11_river (nx := 1) rfl rfl rfl rfl ?_
  refine ev_if f_X11_river (t1 := 12) (t2 := 4) rfl rfl rfl (fun h1 => ?_) (fun h1 => ?_)
  · have h1 := Int32.lt_iff_toInt_lt.mp h1; have kf0 : (0 : Int32).toInt = 0 := (by decide); refine x_Ev.mono (x_Ev.up (c_t_riverN (d := d) hI ar1) (by omega)) ?_; rintro v G1 ⟨g1, l1, r1, rfl, k1, k2, x, rfl, -, -, k3⟩; exact ⟨sh, g1, l1, r1, x, rfl, rfl, fun hi => absurd hi (by omega), fun _ => ⟨k3, fun K hK => t_row0 k2 rfl hK, (k2.1 0 6 rfl).2.2, (k2.1 0 7 rfl).2.2⟩, fun hi => absurd hi (by omega)⟩
  have h1 := Int32.le_iff_toInt_le.mp (t_nlt h1); have kf0 : (0 : Int32).toInt = 0 := (by decide)
  refine ev_loc f_X11_river (nx := 5) rfl rfl rfl rfl ?_
  refine ev_loc f_X11_river (nx := 6) rfl rfl rfl rfl ?_
  refine ev_getI f_X11_river (nx := 9) rfl (hI.wf.s rfl) rfl rfl rfl ?_
  refine ev_if f_X11_river (t1 := 18) (t2 := 12) rfl rfl rfl (fun h2 => ?_) (fun h2 => ?_)
  rotate_left
  · have h2 := Int32.lt_iff_toInt_lt.mp (t_nle h2); refine x_Ev.mono (x_Ev.up (c_t_riverN (d := d) hI ar1) (by omega)) ?_; rintro v G1 ⟨g1, l1, r1, rfl, k1, k2, x, rfl, -, -, k3⟩; exact ⟨sh, g1, l1, r1, x, rfl, rfl, fun hi => absurd hi (by omega), fun _ => ⟨k3, fun K hK => t_row0 k2 rfl hK, (k2.1 0 6 rfl).2.2, (k2.1 0 7 rfl).2.2⟩, fun hi => absurd hi (by omega)⟩
  have h2 := Int32.le_iff_toInt_le.mp h2
  have hin : (0 ≤ ar1.toInt ∧ ar1.toInt ≤ (gi 0 5).toInt) := by omega
  have lx : (0:Int) ≤ ar1.toInt := by omega
  have ux : ar1.toInt ≤ (900:Int) := by omega
  obtain ⟨N, hN⟩ : ∃ N, sh.length = N := ⟨_, rfl⟩
  rw [hN]
  have h102 := t_102 hI.wf
  rw [hN] at h102
  have hG := t_G.refl (N := N) (r := N) (gi0 := gi) (gl0 := gl) (gr0 := gr) hN (fun ci j lo hi hk ht => absurd (t_lt hk) (by omega))
  rw [show ((sh, gi, gl, gr) : x_G) = (sh ++ [], gi, gl, gr) by rw [List.append_nil]]
  refine ev_newG f_X11_river (nx := 21) (c := 0) (ext' := [.inl 5]) rfl rfl rfl hN rfl rfl hG (fun a101 b101 g101 ea101 eb101 e101 hG => ?_)
  refine ev_alu f_X11_river (nx := 22) rfl rfl rfl rfl ?_
  refine ev_newG f_X11_river (nx := 25) (c := 1) (ext' := [.inl 5, .inl 8]) rfl rfl rfl hN rfl rfl hG (fun a102 b102 g102 ea102 eb102 e102 hG => ?_)
  refine ev_alu f_X11_river (nx := 26) rfl rfl rfl rfl ?_
  refine ev_loc f_X11_river (nx := 27) rfl rfl rfl rfl ?_
  refine ev_getR f_X11_river (nx := 30) rfl (t_sl (hI.wf.s rfl)) rfl rfl ((congrFun (hG.1 0 (by omega) (by omega)).2.2 4).trans (hI.wf.r rfl)) rfl rfl ?_
  refine ev_loc f_X11_river (nx := 31) rfl rfl rfl rfl ?_
  refine ev_inV3 f_X11_river (nx := 34) (lo2 := [(0, .ref (N + 1)), (1, .ref 2), (2, .int ar1)]) rfl rfl rfl rfl f_X9_init ((t_sx hN).trans rfl) rfl rfl rfl rfl rfl ?_
  refine ev_loc f_X9_init (nx := 1) rfl rfl rfl rfl ?_
  refine ev_obj f_X9_init (nx := 4) rfl rfl (by omega) (by decide) rfl ?_
  refine ev_loc f_X9_init (nx := 5) rfl rfl rfl rfl ?_
  refine ev_ic f_X9_init (nx := 6) (v := 0) rfl (by decide) rfl ?_
  refine ev_putIG f_X9_init (nx := 9) rfl ((t_sx hN).trans rfl) rfl rfl rfl (hG.putI (Or.inl (by omega)) ((t_sx hN).trans rfl) (fun lo hi e => by have e : some ((0 : Int), (900 : Int)) = some (lo, hi) := e; cases e; exact ⟨by decide, by decide⟩) (fun _ => rfl)) (fun a103 ea103 hG => ?_)
  refine ev_loc f_X9_init (nx := 10) rfl rfl rfl rfl ?_
  refine ev_ic f_X9_init (nx := 11) (v := 3) rfl (by decide) rfl ?_
  refine ev_putIG f_X9_init (nx := 14) rfl ((t_sx hN).trans rfl) rfl rfl rfl (hG.putI (Or.inl (by omega)) ((t_sx hN).trans rfl) (fun lo hi e => by have e : (none : Option (Int × Int)) = some (lo, hi) := e; cases e) (fun h => absurd h (by decide))) (fun a104 ea104 hG => ?_)
  refine ev_loc f_X9_init (nx := 15) rfl rfl rfl rfl ?_
  refine ev_ic f_X9_init (nx := 16) (v := 0) rfl (by decide) rfl ?_
  refine ev_putIG f_X9_init (nx := 19) rfl ((t_sx hN).trans rfl) rfl rfl rfl (hG.putI (Or.inl (by omega)) ((t_sx hN).trans rfl) (fun lo hi e => by have e : some ((0 : Int), (900 : Int)) = some (lo, hi) := e; cases e; exact ⟨by decide, by decide⟩) (fun _ => rfl)) (fun a105 ea105 hG => ?_)
  refine ev_loc f_X9_init (nx := 20) rfl rfl rfl rfl ?_
  refine ev_ic f_X9_init (nx := 21) (v := 0) rfl (by decide) rfl ?_
  refine ev_putIG f_X9_init (nx := 24) rfl ((t_sx hN).trans rfl) rfl rfl rfl (hG.putI (Or.inl (by omega)) ((t_sx hN).trans rfl) (fun lo hi e => by have e : (none : Option (Int × Int)) = some (lo, hi) := e; cases e) (fun _ => rfl)) (fun a106 ea106 hG => ?_)
  refine ev_loc f_X9_init (nx := 25) rfl rfl rfl rfl ?_
  refine ev_lc f_X9_init (nx := 26) (v := 0) rfl (by decide) rfl ?_
  refine ev_putLG f_X9_init (nx := 29) rfl ((t_sx hN).trans rfl) rfl rfl rfl (hG.putL (Or.inl (by omega))) (fun b107 eb107 hG => ?_)
  refine ev_loc f_X9_init (nx := 30) rfl rfl rfl rfl ?_
  refine ev_alu f_X9_init (nx := 31) rfl rfl rfl rfl ?_
  refine ev_putRG f_X9_init (nx := 34) rfl ((t_sx hN).trans rfl) rfl rfl rfl rfl (hG.putR (Or.inl (by omega)) ((t_sx hN).trans rfl) (fun h8 h7 => Or.inl rfl)) (fun g108 e108 hG => ?_)
  refine ev_loc f_X9_init (nx := 35) rfl rfl rfl rfl ?_
  refine ev_ic f_X9_init (nx := 36) (v := 0) rfl (by decide) rfl ?_
  refine ev_putIG f_X9_init (nx := 39) rfl ((t_sx hN).trans rfl) rfl rfl rfl (hG.putI (Or.inl (by omega)) ((t_sx hN).trans rfl) (fun lo hi e => by have e : (none : Option (Int × Int)) = some (lo, hi) := e; cases e) (fun _ => rfl)) (fun a109 ea109 hG => ?_)
  refine ev_loc f_X9_init (nx := 40) rfl rfl rfl rfl ?_
  refine ev_ic f_X9_init (nx := 41) (v := 0) rfl (by decide) rfl ?_
  refine ev_putIG f_X9_init (nx := 44) rfl ((t_sx hN).trans rfl) rfl rfl rfl (hG.putI (Or.inl (by omega)) ((t_sx hN).trans rfl) (fun lo hi e => by have e : (none : Option (Int × Int)) = some (lo, hi) := e; cases e) (fun _ => rfl)) (fun a110 ea110 hG => ?_)
  refine ev_loc f_X9_init (nx := 45) rfl rfl rfl rfl ?_
  refine ev_ic f_X9_init (nx := 46) (v := 0) rfl (by decide) rfl ?_
  refine ev_putIG f_X9_init (nx := 49) rfl ((t_sx hN).trans rfl) rfl rfl rfl (hG.putI (Or.inl (by omega)) ((t_sx hN).trans rfl) (fun lo hi e => by have e : (none : Option (Int × Int)) = some (lo, hi) := e; cases e) (fun _ => rfl)) (fun a111 ea111 hG => ?_)
  refine ev_loc f_X9_init (nx := 50) rfl rfl rfl rfl ?_
  refine ev_ic f_X9_init (nx := 51) (v := -1) rfl (by decide) rfl ?_
  refine ev_putIG f_X9_init (nx := 54) rfl ((t_sx hN).trans rfl) rfl rfl rfl (hG.putI (Or.inl (by omega)) ((t_sx hN).trans rfl) (fun lo hi e => by have e : (none : Option (Int × Int)) = some (lo, hi) := e; cases e) (fun h => absurd h (by decide))) (fun a112 ea112 hG => ?_)
  refine ev_loc f_X9_init (nx := 55) rfl rfl rfl rfl ?_
  refine ev_loc f_X9_init (nx := 56) rfl rfl rfl rfl ?_
  refine ev_putRG f_X9_init (nx := 59) rfl ((t_sx hN).trans rfl) rfl rfl rfl rfl (hG.putR (Or.inl (by omega)) ((t_sx hN).trans rfl) (fun h8 h7 => absurd h7 (by decide))) (fun g113 e113 hG => ?_)
  refine ev_loc f_X9_init (nx := 60) rfl rfl rfl rfl ?_
  refine ev_loc f_X9_init (nx := 61) rfl rfl rfl rfl ?_
  refine ev_loc f_X9_init (nx := 62) rfl rfl rfl rfl ?_
  refine ev_alenv f_X9_init (nx := 63) (w := 900) rfl (t_sl (hI.wf.s rfl)) rfl (by decide) rfl ?_
  refine ev_minE f_X9_init (nx := 66) (l := 0) (u := 900) rfl rfl (by omega) rfl lx ux (by decide : (900:Int) ≤ (900:Int32).toInt) (by decide : (900:Int32).toInt ≤ (900:Int)) (by decide) (by decide) rfl (fun w114 e114 l114 u114 => ?_)
  refine ev_putIG f_X9_init (nx := 69) rfl ((t_sx hN).trans rfl) rfl rfl rfl (hG.putI (Or.inl (by omega)) ((t_sx hN).trans rfl) (fun lo hi e => by have e : some ((0 : Int), (900 : Int)) = some (lo, hi) := e; cases e; exact ⟨l114, u114⟩) (fun h => absurd h (by decide))) (fun a115 ea115 hG => ?_)
  refine ev_loc f_X9_init (nx := 70) rfl rfl rfl rfl ?_
  have hI1 := hG.I hN hI hH (by omega) (fun s hs => absurd (t_lt hs) (by omega))
  have hTk : t_Tk (sh ++ ([.inl 5, .inl 8] : List (Nat ⊕ (Nat × Nat)))) g113 (N + 1) := ⟨(t_sx hN).trans rfl, (by rw [e113]; exact x_up2_at _ _ _ _)⟩
  have i1_1 : a115 (N + 1) 1 = w114 := by rw [ea115, x_up2_at]
  have i1_2 : a115 (N + 1) 2 = 0 := by rw [ea115, x_up2_off (Or.inr (by decide)), ea112, x_up2_off (Or.inr (by decide)), ea111, x_up2_off (Or.inr (by decide)), ea110, x_up2_off (Or.inr (by decide)), ea109, x_up2_off (Or.inr (by decide)), ea106, x_up2_off (Or.inr (by decide)), ea105, x_up2_off (Or.inr (by decide)), ea104, x_up2_off (Or.inr (by decide)), ea103, x_up2_at]
  have i1_10 : a115 (N + 1) 10 = 0 := by rw [ea115, x_up2_off (Or.inr (by decide)), ea112, x_up2_off (Or.inr (by decide)), ea111, x_up2_at]
  have i1_11 : a115 (N + 1) 11 = (-1) := by rw [ea115, x_up2_off (Or.inr (by decide)), ea112, x_up2_at]
  have hS : t_Sp (gi 2) ar1.toNatClampNeg 0 a115 (N + 1) := ⟨(hG.1 2 (by omega) (by omega)).1, by rw [i1_1]; have hc := t_clamp (i := ar1) lx; have h9 : (900 : Int32).toInt = 900 := rfl; omega, by rw [i1_2]; rfl, Nat.zero_le _⟩
  have hG1 := hG
  have hX : t_X wl_s_step (sh ++ ([.inl 5, .inl 8] : List (Nat ⊕ (Nat × Nat)))) a115 b107 g113 a115 b107 g113 := t_X.rf
  refine ev_qN f_X9_init (nx := 73) (r := []) rfl rfl rfl rfl rfl rfl rfl (x_Me.up (c_s_step (d := d) hI1 (N + 1) hTk) (by omega)) rfl hX rfl (fun gi1 gl1 gr1 hI2 hX1 _ qs => ?_)
  have hT1 := qs.1 (gi 2) _ 0 hS
  have hF1 : t_FL gi1 (N + 1) 0 (-1) := ⟨by rw [qs.2.1.1, i1_10]; rfl, by rw [qs.2.1.2, i1_11]; rfl⟩
  replace hTk := hTk.ext hX1.2
  have hN2 : (sh ++ ([.inl 5, .inl 8] : List (Nat ⊕ (Nat × Nat)))).length = N + 2 := by rw [List.length_append, hN]; rfl
  have hG := t_G.refl (N := N + 2) (r := N + 0) (gi0 := gi1) (gl0 := gl1) (gr0 := gr1) hN2 (fun ci j lo hi hk ht => hI2.b hk ht)
  rw [show (((sh ++ ([.inl 5, .inl 8] : List (Nat ⊕ (Nat × Nat)))), gi1, gl1, gr1) : x_G) = ((sh ++ ([.inl 5, .inl 8] : List (Nat ⊕ (Nat × Nat)))) ++ [], gi1, gl1, gr1) by rw [List.append_nil]]
  refine ev_retK0 f_X9_init rfl rfl rfl ?_
  refine ev_inV2 f_X11_river (nx := 37) (lo2 := [(0, .ref (N + 0)), (1, .ref (N + 1))]) rfl rfl rfl rfl f_X6_init (t_sl ((t_sx hN).trans rfl)) rfl rfl rfl rfl rfl ?_
  refine ev_loc f_X6_init (nx := 1) rfl rfl rfl rfl ?_
  refine ev_obj f_X6_init (nx := 4) rfl rfl (by omega) (by decide) rfl ?_
  refine ev_loc f_X6_init (nx := 5) rfl rfl rfl rfl ?_
  refine ev_newG f_X6_init (nx := 8) (c := 0) (ext' := [.inl 4]) rfl rfl rfl hN2 rfl rfl hG (fun a116 b116 g116 ea116 eb116 e116 hG => ?_)
  refine ev_alu f_X6_init (nx := 9) rfl rfl rfl rfl ?_
  refine ev_inV1 f_X6_init (nx := 12) (lo2 := [(0, .ref (N + 2 + 0))]) rfl rfl rfl rfl f_X5_init ((t_sx hN2).trans rfl) rfl rfl rfl rfl rfl ?_
  refine ev_loc f_X5_init (nx := 1) rfl rfl rfl rfl ?_
  refine ev_obj f_X5_init (nx := 4) rfl rfl (by omega) (by decide) rfl ?_
  refine ev_loc f_X5_init (nx := 5) rfl rfl rfl rfl ?_
  refine ev_ic f_X5_init (nx := 6) (v := 0) rfl (by decide) rfl ?_
  refine ev_putIG f_X5_init (nx := 9) rfl ((t_sx hN2).trans rfl) rfl rfl rfl (hG.putI (Or.inl (by omega)) ((t_sx hN2).trans rfl) (fun lo hi e => by have e : some ((0 : Int), (6 : Int)) = some (lo, hi) := e; cases e; exact ⟨by decide, by decide⟩) (fun _ => rfl)) (fun a117 ea117 hG => ?_)
  refine ev_loc f_X5_init (nx := 10) rfl rfl rfl rfl ?_
  refine ev_bp f_X5_init (nx := 12) (v := 6) rfl (by decide) rfl ?_
  refine ev_arrG f_X5_init (nx := 14) (c := 1) (m := 6) (ext' := [.inl 4, .inr (1, 6)]) rfl rfl (by decide) rfl (by decide) rfl hN2 rfl rfl hG (fun a118 b118 g118 ea118 eb118 e118 hG => ?_)
  refine ev_putRG f_X5_init (nx := 17) rfl ((t_sx hN2).trans rfl) rfl rfl rfl rfl (hG.putR (Or.inl (by omega)) ((t_sx hN2).trans rfl) (fun h8 h7 => absurd h8 (by decide))) (fun g119 e119 hG => ?_)
  refine ev_loc f_X5_init (nx := 18) rfl rfl rfl rfl ?_
  refine ev_bp f_X5_init (nx := 20) (v := 6) rfl (by decide) rfl ?_
  refine ev_arrG f_X5_init (nx := 22) (c := 2) (m := 6) (ext' := [.inl 4, .inr (1, 6), .inr (1, 6)]) rfl rfl (by decide) rfl (by decide) rfl hN2 rfl rfl hG (fun a120 b120 g120 ea120 eb120 e120 hG => ?_)
  refine ev_putRG f_X5_init (nx := 25) rfl ((t_sx hN2).trans rfl) rfl rfl rfl rfl (hG.putR (Or.inl (by omega)) ((t_sx hN2).trans rfl) (fun h8 h7 => absurd h8 (by decide))) (fun g121 e121 hG => ?_)
  refine ev_loc f_X5_init (nx := 26) rfl rfl rfl rfl ?_
  refine ev_ic f_X5_init (nx := 27) (v := 5) rfl (by decide) rfl ?_
  refine ev_putIG f_X5_init (nx := 30) rfl ((t_sx hN2).trans rfl) rfl rfl rfl (hG.putI (Or.inl (by omega)) ((t_sx hN2).trans rfl) (fun lo hi e => by have e : (none : Option (Int × Int)) = some (lo, hi) := e; cases e) (fun h => absurd h (by decide))) (fun a122 ea122 hG => ?_)
  refine ev_loc f_X5_init (nx := 31) rfl rfl rfl rfl ?_
  refine ev_ic f_X5_init (nx := 32) (v := 0) rfl (by decide) rfl ?_
  refine ev_putIG f_X5_init (nx := 35) rfl ((t_sx hN2).trans rfl) rfl rfl rfl (hG.putI (Or.inl (by omega)) ((t_sx hN2).trans rfl) (fun lo hi e => by have e : (none : Option (Int × Int)) = some (lo, hi) := e; cases e) (fun _ => rfl)) (fun a123 ea123 hG => ?_)
  refine ev_loc f_X5_init (nx := 36) rfl rfl rfl rfl ?_
  refine ev_ic f_X5_init (nx := 37) (v := 0) rfl (by decide) rfl ?_
  refine ev_putIG f_X5_init (nx := 40) rfl ((t_sx hN2).trans rfl) rfl rfl rfl (hG.putI (Or.inl (by omega)) ((t_sx hN2).trans rfl) (fun lo hi e => by have e : (none : Option (Int × Int)) = some (lo, hi) := e; cases e) (fun _ => rfl)) (fun a124 ea124 hG => ?_)
  refine ev_loc f_X5_init (nx := 41) rfl rfl rfl rfl ?_
  refine ev_ic f_X5_init (nx := 42) (v := 0) rfl (by decide) rfl ?_
  refine ev_putIG f_X5_init (nx := 45) rfl ((t_sx hN2).trans rfl) rfl rfl rfl (hG.putI (Or.inl (by omega)) ((t_sx hN2).trans rfl) (fun lo hi e => by have e : (none : Option (Int × Int)) = some (lo, hi) := e; cases e) (fun _ => rfl)) (fun a125 ea125 hG => ?_)
  refine ev_loc f_X5_init (nx := 46) rfl rfl rfl rfl ?_
  refine ev_newG f_X5_init (nx := 49) (c := 3) (ext' := [.inl 4, .inr (1, 6), .inr (1, 6), .inl 3]) rfl rfl rfl hN2 rfl rfl hG (fun a126 b126 g126 ea126 eb126 e126 hG => ?_)
  refine ev_alu f_X5_init (nx := 50) rfl rfl rfl rfl ?_
  refine ev_inV1 f_X5_init (nx := 53) (lo2 := [(0, .ref (N + 2 + 3))]) rfl rfl rfl rfl f_X4_init ((t_sx hN2).trans rfl) rfl rfl rfl rfl rfl ?_
  refine ev_loc f_X4_init (nx := 1) rfl rfl rfl rfl ?_
  refine ev_obj f_X4_init (nx := 4) rfl rfl (by omega) (by decide) rfl ?_
  refine ev_loc f_X4_init (nx := 5) rfl rfl rfl rfl ?_
  refine ev_ic f_X4_init (nx := 6) (v := 0) rfl (by decide) rfl ?_
  refine ev_putIG f_X4_init (nx := 9) rfl ((t_sx hN2).trans rfl) rfl rfl rfl (hG.putI (Or.inl (by omega)) ((t_sx hN2).trans rfl) (fun lo hi e => by have e : some ((0 : Int), (6 : Int)) = some (lo, hi) := e; cases e; exact ⟨by decide, by decide⟩) (fun _ => rfl)) (fun a127 ea127 hG => ?_)
  refine ev_loc f_X4_init (nx := 10) rfl rfl rfl rfl ?_
  refine ev_bp f_X4_init (nx := 12) (v := 6) rfl (by decide) rfl ?_
  refine ev_arrG f_X4_init (nx := 14) (c := 4) (m := 6) (ext' := [.inl 4, .inr (1, 6), .inr (1, 6), .inl 3, .inr (0, 6)]) rfl rfl (by decide) rfl (by decide) rfl hN2 rfl rfl hG (fun a128 b128 g128 ea128 eb128 e128 hG => ?_)
  refine ev_putRG f_X4_init (nx := 17) rfl ((t_sx hN2).trans rfl) rfl rfl rfl rfl (hG.putR (Or.inl (by omega)) ((t_sx hN2).trans rfl) (fun h8 h7 => absurd h8 (by decide))) (fun g129 e129 hG => ?_)
  refine ev_loc f_X4_init (nx := 18) rfl rfl rfl rfl ?_
  refine ev_bp f_X4_init (nx := 20) (v := 6) rfl (by decide) rfl ?_
  refine ev_arrG f_X4_init (nx := 22) (c := 5) (m := 6) (ext' := [.inl 4, .inr (1, 6), .inr (1, 6), .inl 3, .inr (0, 6), .inr (0, 6)]) rfl rfl (by decide) rfl (by decide) rfl hN2 rfl rfl hG (fun a130 b130 g130 ea130 eb130 e130 hG => ?_)
  refine ev_putRG f_X4_init (nx := 25) rfl ((t_sx hN2).trans rfl) rfl rfl rfl rfl (hG.putR (Or.inl (by omega)) ((t_sx hN2).trans rfl) (fun h8 h7 => absurd h8 (by decide))) (fun g131 e131 hG => ?_)
  refine ev_loc f_X4_init (nx := 26) rfl rfl rfl rfl ?_
  refine ev_bp f_X4_init (nx := 28) (v := 6) rfl (by decide) rfl ?_
  refine ev_arrG f_X4_init (nx := 30) (c := 6) (m := 6) (ext' := [.inl 4, .inr (1, 6), .inr (1, 6), .inl 3, .inr (0, 6), .inr (0, 6), .inr (0, 6)]) rfl rfl (by decide) rfl (by decide) rfl hN2 rfl rfl hG (fun a132 b132 g132 ea132 eb132 e132 hG => ?_)
  refine ev_putRG f_X4_init (nx := 33) rfl ((t_sx hN2).trans rfl) rfl rfl rfl rfl (hG.putR (Or.inl (by omega)) ((t_sx hN2).trans rfl) (fun h8 h7 => absurd h8 (by decide))) (fun g133 e133 hG => ?_)
  refine ev_loc f_X4_init (nx := 34) rfl rfl rfl rfl ?_
  refine ev_bp f_X4_init (nx := 36) (v := 6) rfl (by decide) rfl ?_
  refine ev_arrG f_X4_init (nx := 38) (c := 7) (m := 6) (ext' := [.inl 4, .inr (1, 6), .inr (1, 6), .inl 3, .inr (0, 6), .inr (0, 6), .inr (0, 6), .inr (0, 6)]) rfl rfl (by decide) rfl (by decide) rfl hN2 rfl rfl hG (fun a134 b134 g134 ea134 eb134 e134 hG => ?_)
  refine ev_putRG f_X4_init (nx := 41) rfl ((t_sx hN2).trans rfl) rfl rfl rfl rfl (hG.putR (Or.inl (by omega)) ((t_sx hN2).trans rfl) (fun h8 h7 => absurd h8 (by decide))) (fun g135 e135 hG => ?_)
  refine ev_loc f_X4_init (nx := 42) rfl rfl rfl rfl ?_
  refine ev_bp f_X4_init (nx := 44) (v := 6) rfl (by decide) rfl ?_
  refine ev_arrG f_X4_init (nx := 46) (c := 8) (m := 6) (ext' := [.inl 4, .inr (1, 6), .inr (1, 6), .inl 3, .inr (0, 6), .inr (0, 6), .inr (0, 6), .inr (0, 6), .inr (3, 6)]) rfl rfl (by decide) rfl (by decide) rfl hN2 rfl rfl hG (fun a136 b136 g136 ea136 eb136 e136 hG => ?_)
  refine ev_putRG f_X4_init (nx := 49) rfl ((t_sx hN2).trans rfl) rfl rfl rfl rfl (hG.putR (Or.inl (by omega)) ((t_sx hN2).trans rfl) (fun h8 h7 => absurd h8 (by decide))) (fun g137 e137 hG => ?_)
  refine ev_retK0 f_X4_init rfl rfl rfl ?_
  refine ev_putRG f_X5_init (nx := 56) rfl ((t_sx hN2).trans rfl) rfl rfl rfl rfl (hG.putR (Or.inl (by omega)) ((t_sx hN2).trans rfl) (fun h8 h7 => absurd h8 (by decide))) (fun g138 e138 hG => ?_)
  refine ev_loc f_X5_init (nx := 57) rfl rfl rfl rfl ?_
  refine ev_bp f_X5_init (nx := 59) (v := 6) rfl (by decide) rfl ?_
  refine ev_arrG f_X5_init (nx := 61) (c := 9) (m := 6) (ext' := [.inl 4, .inr (1, 6), .inr (1, 6), .inl 3, .inr (0, 6), .inr (0, 6), .inr (0, 6), .inr (0, 6), .inr (3, 6), .inr (0, 6)]) rfl rfl (by decide) rfl (by decide) rfl hN2 rfl rfl hG (fun a139 b139 g139 ea139 eb139 e139 hG => ?_)
  refine ev_putRG f_X5_init (nx := 64) rfl ((t_sx hN2).trans rfl) rfl rfl rfl rfl (hG.putR (Or.inl (by omega)) ((t_sx hN2).trans rfl) (fun h8 h7 => absurd h8 (by decide))) (fun g140 e140 hG => ?_)
  refine ev_loc f_X5_init (nx := 65) rfl rfl rfl rfl ?_
  refine ev_newG f_X5_init (nx := 68) (c := 10) (ext' := [.inl 4, .inr (1, 6), .inr (1, 6), .inl 3, .inr (0, 6), .inr (0, 6), .inr (0, 6), .inr (0, 6), .inr (3, 6), .inr (0, 6), .inl 3]) rfl rfl rfl hN2 rfl rfl hG (fun a141 b141 g141 ea141 eb141 e141 hG => ?_)
  refine ev_alu f_X5_init (nx := 69) rfl rfl rfl rfl ?_
  refine ev_inV1 f_X5_init (nx := 72) (lo2 := [(0, .ref (N + 2 + 10))]) rfl rfl rfl rfl f_X4_init ((t_sx hN2).trans rfl) rfl rfl rfl rfl rfl ?_
  refine ev_loc f_X4_init (nx := 1) rfl rfl rfl rfl ?_
  refine ev_obj f_X4_init (nx := 4) rfl rfl (by omega) (by decide) rfl ?_
  refine ev_loc f_X4_init (nx := 5) rfl rfl rfl rfl ?_
  refine ev_ic f_X4_init (nx := 6) (v := 0) rfl (by decide) rfl ?_
  refine ev_putIG f_X4_init (nx := 9) rfl ((t_sx hN2).trans rfl) rfl rfl rfl (hG.putI (Or.inl (by omega)) ((t_sx hN2).trans rfl) (fun lo hi e => by have e : some ((0 : Int), (6 : Int)) = some (lo, hi) := e; cases e; exact ⟨by decide, by decide⟩) (fun _ => rfl)) (fun a142 ea142 hG => ?_)
  refine ev_loc f_X4_init (nx := 10) rfl rfl rfl rfl ?_
  refine ev_bp f_X4_init (nx := 12) (v := 6) rfl (by decide) rfl ?_
  refine ev_arrG f_X4_init (nx := 14) (c := 11) (m := 6) (ext' := [.inl 4, .inr (1, 6), .inr (1, 6), .inl 3, .inr (0, 6), .inr (0, 6), .inr (0, 6), .inr (0, 6), .inr (3, 6), .inr (0, 6), .inl 3, .inr (0, 6)]) rfl rfl (by decide) rfl (by decide) rfl hN2 rfl rfl hG (fun a143 b143 g143 ea143 eb143 e143 hG => ?_)
  refine ev_putRG f_X4_init (nx := 17) rfl ((t_sx hN2).trans rfl) rfl rfl rfl rfl (hG.putR (Or.inl (by omega)) ((t_sx hN2).trans rfl) (fun h8 h7 => absurd h8 (by decide))) (fun g144 e144 hG => ?_)
  refine ev_loc f_X4_init (nx := 18) rfl rfl rfl rfl ?_
  refine ev_bp f_X4_init (nx := 20) (v := 6) rfl (by decide) rfl ?_
  refine ev_arrG f_X4_init (nx := 22) (c := 12) (m := 6) (ext' := [.inl 4, .inr (1, 6), .inr (1, 6), .inl 3, .inr (0, 6), .inr (0, 6), .inr (0, 6), .inr (0, 6), .inr (3, 6), .inr (0, 6), .inl 3, .inr (0, 6), .inr (0, 6)]) rfl rfl (by decide) rfl (by decide) rfl hN2 rfl rfl hG (fun a145 b145 g145 ea145 eb145 e145 hG => ?_)
  refine ev_putRG f_X4_init (nx := 25) rfl ((t_sx hN2).trans rfl) rfl rfl rfl rfl (hG.putR (Or.inl (by omega)) ((t_sx hN2).trans rfl) (fun h8 h7 => absurd h8 (by decide))) (fun g146 e146 hG => ?_)
  refine ev_loc f_X4_init (nx := 26) rfl rfl rfl rfl ?_
  refine ev_bp f_X4_init (nx := 28) (v := 6) rfl (by decide) rfl ?_
  refine ev_arrG f_X4_init (nx := 30) (c := 13) (m := 6) (ext' := [.inl 4, .inr (1, 6), .inr (1, 6), .inl 3, .inr (0, 6), .inr (0, 6), .inr (0, 6), .inr (0, 6), .inr (3, 6), .inr (0, 6), .inl 3, .inr (0, 6), .inr (0, 6), .inr (0, 6)]) rfl rfl (by decide) rfl (by decide) rfl hN2 rfl rfl hG (fun a147 b147 g147 ea147 eb147 e147 hG => ?_)
  refine ev_putRG f_X4_init (nx := 33) rfl ((t_sx hN2).trans rfl) rfl rfl rfl rfl (hG.putR (Or.inl (by omega)) ((t_sx hN2).trans rfl) (fun h8 h7 => absurd h8 (by decide))) (fun g148 e148 hG => ?_)
  refine ev_loc f_X4_init (nx := 34) rfl rfl rfl rfl ?_
  refine ev_bp f_X4_init (nx := 36) (v := 6) rfl (by decide) rfl ?_
  refine ev_arrG f_X4_init (nx := 38) (c := 14) (m := 6) (ext' := [.inl 4, .inr (1, 6), .inr (1, 6), .inl 3, .inr (0, 6), .inr (0, 6), .inr (0, 6), .inr (0, 6), .inr (3, 6), .inr (0, 6), .inl 3, .inr (0, 6), .inr (0, 6), .inr (0, 6), .inr (0, 6)]) rfl rfl (by decide) rfl (by decide) rfl hN2 rfl rfl hG (fun a149 b149 g149 ea149 eb149 e149 hG => ?_)
  refine ev_putRG f_X4_init (nx := 41) rfl ((t_sx hN2).trans rfl) rfl rfl rfl rfl (hG.putR (Or.inl (by omega)) ((t_sx hN2).trans rfl) (fun h8 h7 => absurd h8 (by decide))) (fun g150 e150 hG => ?_)
  refine ev_loc f_X4_init (nx := 42) rfl rfl rfl rfl ?_
  refine ev_bp f_X4_init (nx := 44) (v := 6) rfl (by decide) rfl ?_
  refine ev_arrG f_X4_init (nx := 46) (c := 15) (m := 6) (ext' := [.inl 4, .inr (1, 6), .inr (1, 6), .inl 3, .inr (0, 6), .inr (0, 6), .inr (0, 6), .inr (0, 6), .inr (3, 6), .inr (0, 6), .inl 3, .inr (0, 6), .inr (0, 6), .inr (0, 6), .inr (0, 6), .inr (3, 6)]) rfl rfl (by decide) rfl (by decide) rfl hN2 rfl rfl hG (fun a151 b151 g151 ea151 eb151 e151 hG => ?_)
  refine ev_putRG f_X4_init (nx := 49) rfl ((t_sx hN2).trans rfl) rfl rfl rfl rfl (hG.putR (Or.inl (by omega)) ((t_sx hN2).trans rfl) (fun h8 h7 => absurd h8 (by decide))) (fun g152 e152 hG => ?_)
  refine ev_retK0 f_X4_init rfl rfl rfl ?_
  refine ev_putRG f_X5_init (nx := 75) rfl ((t_sx hN2).trans rfl) rfl rfl rfl rfl (hG.putR (Or.inl (by omega)) ((t_sx hN2).trans rfl) (fun h8 h7 => absurd h8 (by decide))) (fun g153 e153 hG => ?_)
  refine ev_retK0 f_X5_init rfl rfl rfl ?_
  refine ev_putRG f_X6_init (nx := 15) rfl (t_sl ((t_sx hN).trans rfl)) rfl rfl rfl rfl (hG.putR (Or.inr rfl) (t_sl ((t_sx hN).trans rfl)) (fun h8 h7 => absurd h8 (by decide))) (fun g154 e154 hG => ?_)
  refine ev_loc f_X6_init (nx := 16) rfl rfl rfl rfl ?_
  refine ev_bp f_X6_init (nx := 18) (v := 6) rfl (by decide) rfl ?_
  refine ev_arrG f_X6_init (nx := 20) (c := 16) (m := 6) (ext' := [.inl 4, .inr (1, 6), .inr (1, 6), .inl 3, .inr (0, 6), .inr (0, 6), .inr (0, 6), .inr (0, 6), .inr (3, 6), .inr (0, 6), .inl 3, .inr (0, 6), .inr (0, 6), .inr (0, 6), .inr (0, 6), .inr (3, 6), .inr (1, 6)]) rfl rfl (by decide) rfl (by decide) rfl hN2 rfl rfl hG (fun a155 b155 g155 ea155 eb155 e155 hG => ?_)
  refine ev_putRG f_X6_init (nx := 23) rfl (t_sl ((t_sx hN).trans rfl)) rfl rfl rfl rfl (hG.putR (Or.inr rfl) (t_sl ((t_sx hN).trans rfl)) (fun h8 h7 => absurd h8 (by decide))) (fun g156 e156 hG => ?_)
  refine ev_loc f_X6_init (nx := 24) rfl rfl rfl rfl ?_
  refine ev_bp f_X6_init (nx := 26) (v := 18) rfl (by decide) rfl ?_
  refine ev_arrG f_X6_init (nx := 28) (c := 17) (m := 18) (ext' := [.inl 4, .inr (1, 6), .inr (1, 6), .inl 3, .inr (0, 6), .inr (0, 6), .inr (0, 6), .inr (0, 6), .inr (3, 6), .inr (0, 6), .inl 3, .inr (0, 6), .inr (0, 6), .inr (0, 6), .inr (0, 6), .inr (3, 6), .inr (1, 6), .inr (1, 18)]) rfl rfl (by decide) rfl (by decide) rfl hN2 rfl rfl hG (fun a157 b157 g157 ea157 eb157 e157 hG => ?_)
  refine ev_putRG f_X6_init (nx := 31) rfl (t_sl ((t_sx hN).trans rfl)) rfl rfl rfl rfl (hG.putR (Or.inr rfl) (t_sl ((t_sx hN).trans rfl)) (fun h8 h7 => absurd h8 (by decide))) (fun g158 e158 hG => ?_)
  refine ev_loc f_X6_init (nx := 32) rfl rfl rfl rfl ?_
  refine ev_ic f_X6_init (nx := 33) (v := 0) rfl (by decide) rfl ?_
  refine ev_putIG f_X6_init (nx := 36) rfl (t_sl ((t_sx hN).trans rfl)) rfl rfl rfl (hG.putI (Or.inr rfl) (t_sl ((t_sx hN).trans rfl)) (fun lo hi e => by have e : some ((0 : Int), (18 : Int)) = some (lo, hi) := e; cases e; exact ⟨by decide, by decide⟩) (fun _ => rfl)) (fun a159 ea159 hG => ?_)
  refine ev_loc f_X6_init (nx := 37) rfl rfl rfl rfl ?_
  refine ev_ic f_X6_init (nx := 38) (v := 0) rfl (by decide) rfl ?_
  refine ev_putZG f_X6_init (nx := 41) rfl (t_sl ((t_sx hN).trans rfl)) rfl rfl (Or.inl rfl) rfl (hG.putI (Or.inr rfl) (t_sl ((t_sx hN).trans rfl)) (fun lo hi e => by have e : (none : Option (Int × Int)) = some (lo, hi) := e; cases e) (fun _ => rfl)) (fun a160 ea160 hG => ?_)
  refine ev_loc f_X6_init (nx := 42) rfl rfl rfl rfl ?_
  refine ev_ic f_X6_init (nx := 43) (v := 0) rfl (by decide) rfl ?_
  refine ev_putZG f_X6_init (nx := 46) rfl (t_sl ((t_sx hN).trans rfl)) rfl rfl (Or.inl rfl) rfl (hG.putI (Or.inr rfl) (t_sl ((t_sx hN).trans rfl)) (fun lo hi e => by have e : (none : Option (Int × Int)) = some (lo, hi) := e; cases e) (fun _ => rfl)) (fun a161 ea161 hG => ?_)
  refine ev_loc f_X6_init (nx := 47) rfl rfl rfl rfl ?_
  refine ev_ic f_X6_init (nx := 48) (v := 0) rfl (by decide) rfl ?_
  refine ev_putZG f_X6_init (nx := 51) rfl (t_sl ((t_sx hN).trans rfl)) rfl rfl (Or.inl rfl) rfl (hG.putI (Or.inr rfl) (t_sl ((t_sx hN).trans rfl)) (fun lo hi e => by have e : (none : Option (Int × Int)) = some (lo, hi) := e; cases e) (fun _ => rfl)) (fun a162 ea162 hG => ?_)
  refine ev_loc f_X6_init (nx := 52) rfl rfl rfl rfl ?_
  refine ev_loc f_X6_init (nx := 53) rfl rfl rfl rfl ?_
  refine ev_putRG f_X6_init (nx := 56) rfl (t_sl ((t_sx hN).trans rfl)) rfl rfl rfl rfl (hG.putR (Or.inr rfl) (t_sl ((t_sx hN).trans rfl)) (fun h8 h7 => absurd h8 (by decide))) (fun g163 e163 hG => ?_)
  refine ev_retK0 f_X6_init rfl rfl rfl ?_
  refine ev_loc f_X11_river (nx := 38) (lo' := [(2, .ref (N + 0)), (0, .ref 0), (1, .int ar1)]) rfl rfl rfl rfl ?_
  have hI3 := hG.I hN2 hI2 (t_H_ext hH (t_he rfl)) (by omega) (fun s hs => Or.inl (by rw [(t_sx hN).trans rfl] at hs; cases hs; rfl))
  have f0_N_0 : g163 (N + 0) 0 = .ref (N + 1) := (by rw [e163]; exact x_up2_at _ _ _ _)
  have f1_N_0 : g163 (N + 0) 1 = .ref (N + 2 + 0) := (by rw [e163, x_up2_off (Or.inr (by decide)), e158, x_up2_off (Or.inr (by decide)), e157, x_clr_ne (by omega), e156, x_up2_off (Or.inr (by decide)), e155, x_clr_ne (by omega), e154]; exact x_up2_at _ _ _ _)
  have f2_N_0 : g163 (N + 0) 2 = .ref (N + 2 + 16) := (by rw [e163, x_up2_off (Or.inr (by decide)), e158, x_up2_off (Or.inr (by decide)), e157, x_clr_ne (by omega), e156]; exact x_up2_at _ _ _ _)
  have f3_N_0 : g163 (N + 0) 3 = .ref (N + 2 + 17) := (by rw [e163, x_up2_off (Or.inr (by decide)), e158]; exact x_up2_at _ _ _ _)
  have f1_N_2_0 : g163 (N + 2 + 0) 1 = .ref (N + 2 + 1) := (by rw [e163, x_up2_off (Or.inl (by omega)), e158, x_up2_off (Or.inl (by omega)), e157, x_clr_ne (by omega), e156, x_up2_off (Or.inl (by omega)), e155, x_clr_ne (by omega), e154, x_up2_off (Or.inl (by omega)), e153, x_up2_off (Or.inr (by decide)), e152, x_up2_off (Or.inl (by omega)), e151, x_clr_ne (by omega), e150, x_up2_off (Or.inl (by omega)), e149, x_clr_ne (by omega), e148, x_up2_off (Or.inl (by omega)), e147, x_clr_ne (by omega), e146, x_up2_off (Or.inl (by omega)), e145, x_clr_ne (by omega), e144, x_up2_off (Or.inl (by omega)), e143, x_clr_ne (by omega), e141, x_clr_ne (by omega), e140, x_up2_off (Or.inr (by decide)), e139, x_clr_ne (by omega), e138, x_up2_off (Or.inr (by decide)), e137, x_up2_off (Or.inl (by omega)), e136, x_clr_ne (by omega), e135, x_up2_off (Or.inl (by omega)), e134, x_clr_ne (by omega), e133, x_up2_off (Or.inl (by omega)), e132, x_clr_ne (by omega), e131, x_up2_off (Or.inl (by omega)), e130, x_clr_ne (by omega), e129, x_up2_off (Or.inl (by omega)), e128, x_clr_ne (by omega), e126, x_clr_ne (by omega), e121, x_up2_off (Or.inr (by decide)), e120, x_clr_ne (by omega), e119]; exact x_up2_at _ _ _ _)
  have f2_N_2_0 : g163 (N + 2 + 0) 2 = .ref (N + 2 + 2) := (by rw [e163, x_up2_off (Or.inl (by omega)), e158, x_up2_off (Or.inl (by omega)), e157, x_clr_ne (by omega), e156, x_up2_off (Or.inl (by omega)), e155, x_clr_ne (by omega), e154, x_up2_off (Or.inl (by omega)), e153, x_up2_off (Or.inr (by decide)), e152, x_up2_off (Or.inl (by omega)), e151, x_clr_ne (by omega), e150, x_up2_off (Or.inl (by omega)), e149, x_clr_ne (by omega), e148, x_up2_off (Or.inl (by omega)), e147, x_clr_ne (by omega), e146, x_up2_off (Or.inl (by omega)), e145, x_clr_ne (by omega), e144, x_up2_off (Or.inl (by omega)), e143, x_clr_ne (by omega), e141, x_clr_ne (by omega), e140, x_up2_off (Or.inr (by decide)), e139, x_clr_ne (by omega), e138, x_up2_off (Or.inr (by decide)), e137, x_up2_off (Or.inl (by omega)), e136, x_clr_ne (by omega), e135, x_up2_off (Or.inl (by omega)), e134, x_clr_ne (by omega), e133, x_up2_off (Or.inl (by omega)), e132, x_clr_ne (by omega), e131, x_up2_off (Or.inl (by omega)), e130, x_clr_ne (by omega), e129, x_up2_off (Or.inl (by omega)), e128, x_clr_ne (by omega), e126, x_clr_ne (by omega), e121]; exact x_up2_at _ _ _ _)
  have f8_N_2_0 : g163 (N + 2 + 0) 8 = .ref (N + 2 + 9) := (by rw [e163, x_up2_off (Or.inl (by omega)), e158, x_up2_off (Or.inl (by omega)), e157, x_clr_ne (by omega), e156, x_up2_off (Or.inl (by omega)), e155, x_clr_ne (by omega), e154, x_up2_off (Or.inl (by omega)), e153, x_up2_off (Or.inr (by decide)), e152, x_up2_off (Or.inl (by omega)), e151, x_clr_ne (by omega), e150, x_up2_off (Or.inl (by omega)), e149, x_clr_ne (by omega), e148, x_up2_off (Or.inl (by omega)), e147, x_clr_ne (by omega), e146, x_up2_off (Or.inl (by omega)), e145, x_clr_ne (by omega), e144, x_up2_off (Or.inl (by omega)), e143, x_clr_ne (by omega), e141, x_clr_ne (by omega), e140]; exact x_up2_at _ _ _ _)
  have f7_N_2_0 : g163 (N + 2 + 0) 7 = .ref (N + 2 + 3) := (by rw [e163, x_up2_off (Or.inl (by omega)), e158, x_up2_off (Or.inl (by omega)), e157, x_clr_ne (by omega), e156, x_up2_off (Or.inl (by omega)), e155, x_clr_ne (by omega), e154, x_up2_off (Or.inl (by omega)), e153, x_up2_off (Or.inr (by decide)), e152, x_up2_off (Or.inl (by omega)), e151, x_clr_ne (by omega), e150, x_up2_off (Or.inl (by omega)), e149, x_clr_ne (by omega), e148, x_up2_off (Or.inl (by omega)), e147, x_clr_ne (by omega), e146, x_up2_off (Or.inl (by omega)), e145, x_clr_ne (by omega), e144, x_up2_off (Or.inl (by omega)), e143, x_clr_ne (by omega), e141, x_clr_ne (by omega), e140, x_up2_off (Or.inr (by decide)), e139, x_clr_ne (by omega), e138]; exact x_up2_at _ _ _ _)
  have f9_N_2_0 : g163 (N + 2 + 0) 9 = .ref (N + 2 + 10) := (by rw [e163, x_up2_off (Or.inl (by omega)), e158, x_up2_off (Or.inl (by omega)), e157, x_clr_ne (by omega), e156, x_up2_off (Or.inl (by omega)), e155, x_clr_ne (by omega), e154, x_up2_off (Or.inl (by omega)), e153]; exact x_up2_at _ _ _ _)
  have f1_N_2_3 : g163 (N + 2 + 3) 1 = .ref (N + 2 + 4) := (by rw [e163, x_up2_off (Or.inl (by omega)), e158, x_up2_off (Or.inl (by omega)), e157, x_clr_ne (by omega), e156, x_up2_off (Or.inl (by omega)), e155, x_clr_ne (by omega), e154, x_up2_off (Or.inl (by omega)), e153, x_up2_off (Or.inl (by omega)), e152, x_up2_off (Or.inl (by omega)), e151, x_clr_ne (by omega), e150, x_up2_off (Or.inl (by omega)), e149, x_clr_ne (by omega), e148, x_up2_off (Or.inl (by omega)), e147, x_clr_ne (by omega), e146, x_up2_off (Or.inl (by omega)), e145, x_clr_ne (by omega), e144, x_up2_off (Or.inl (by omega)), e143, x_clr_ne (by omega), e141, x_clr_ne (by omega), e140, x_up2_off (Or.inl (by omega)), e139, x_clr_ne (by omega), e138, x_up2_off (Or.inl (by omega)), e137, x_up2_off (Or.inr (by decide)), e136, x_clr_ne (by omega), e135, x_up2_off (Or.inr (by decide)), e134, x_clr_ne (by omega), e133, x_up2_off (Or.inr (by decide)), e132, x_clr_ne (by omega), e131, x_up2_off (Or.inr (by decide)), e130, x_clr_ne (by omega), e129]; exact x_up2_at _ _ _ _)
  have f2_N_2_3 : g163 (N + 2 + 3) 2 = .ref (N + 2 + 5) := (by rw [e163, x_up2_off (Or.inl (by omega)), e158, x_up2_off (Or.inl (by omega)), e157, x_clr_ne (by omega), e156, x_up2_off (Or.inl (by omega)), e155, x_clr_ne (by omega), e154, x_up2_off (Or.inl (by omega)), e153, x_up2_off (Or.inl (by omega)), e152, x_up2_off (Or.inl (by omega)), e151, x_clr_ne (by omega), e150, x_up2_off (Or.inl (by omega)), e149, x_clr_ne (by omega), e148, x_up2_off (Or.inl (by omega)), e147, x_clr_ne (by omega), e146, x_up2_off (Or.inl (by omega)), e145, x_clr_ne (by omega), e144, x_up2_off (Or.inl (by omega)), e143, x_clr_ne (by omega), e141, x_clr_ne (by omega), e140, x_up2_off (Or.inl (by omega)), e139, x_clr_ne (by omega), e138, x_up2_off (Or.inl (by omega)), e137, x_up2_off (Or.inr (by decide)), e136, x_clr_ne (by omega), e135, x_up2_off (Or.inr (by decide)), e134, x_clr_ne (by omega), e133, x_up2_off (Or.inr (by decide)), e132, x_clr_ne (by omega), e131]; exact x_up2_at _ _ _ _)
  have f3_N_2_3 : g163 (N + 2 + 3) 3 = .ref (N + 2 + 6) := (by rw [e163, x_up2_off (Or.inl (by omega)), e158, x_up2_off (Or.inl (by omega)), e157, x_clr_ne (by omega), e156, x_up2_off (Or.inl (by omega)), e155, x_clr_ne (by omega), e154, x_up2_off (Or.inl (by omega)), e153, x_up2_off (Or.inl (by omega)), e152, x_up2_off (Or.inl (by omega)), e151, x_clr_ne (by omega), e150, x_up2_off (Or.inl (by omega)), e149, x_clr_ne (by omega), e148, x_up2_off (Or.inl (by omega)), e147, x_clr_ne (by omega), e146, x_up2_off (Or.inl (by omega)), e145, x_clr_ne (by omega), e144, x_up2_off (Or.inl (by omega)), e143, x_clr_ne (by omega), e141, x_clr_ne (by omega), e140, x_up2_off (Or.inl (by omega)), e139, x_clr_ne (by omega), e138, x_up2_off (Or.inl (by omega)), e137, x_up2_off (Or.inr (by decide)), e136, x_clr_ne (by omega), e135, x_up2_off (Or.inr (by decide)), e134, x_clr_ne (by omega), e133]; exact x_up2_at _ _ _ _)
  have f4_N_2_3 : g163 (N + 2 + 3) 4 = .ref (N + 2 + 7) := (by rw [e163, x_up2_off (Or.inl (by omega)), e158, x_up2_off (Or.inl (by omega)), e157, x_clr_ne (by omega), e156, x_up2_off (Or.inl (by omega)), e155, x_clr_ne (by omega), e154, x_up2_off (Or.inl (by omega)), e153, x_up2_off (Or.inl (by omega)), e152, x_up2_off (Or.inl (by omega)), e151, x_clr_ne (by omega), e150, x_up2_off (Or.inl (by omega)), e149, x_clr_ne (by omega), e148, x_up2_off (Or.inl (by omega)), e147, x_clr_ne (by omega), e146, x_up2_off (Or.inl (by omega)), e145, x_clr_ne (by omega), e144, x_up2_off (Or.inl (by omega)), e143, x_clr_ne (by omega), e141, x_clr_ne (by omega), e140, x_up2_off (Or.inl (by omega)), e139, x_clr_ne (by omega), e138, x_up2_off (Or.inl (by omega)), e137, x_up2_off (Or.inr (by decide)), e136, x_clr_ne (by omega), e135]; exact x_up2_at _ _ _ _)
  have f5_N_2_3 : g163 (N + 2 + 3) 5 = .ref (N + 2 + 8) := (by rw [e163, x_up2_off (Or.inl (by omega)), e158, x_up2_off (Or.inl (by omega)), e157, x_clr_ne (by omega), e156, x_up2_off (Or.inl (by omega)), e155, x_clr_ne (by omega), e154, x_up2_off (Or.inl (by omega)), e153, x_up2_off (Or.inl (by omega)), e152, x_up2_off (Or.inl (by omega)), e151, x_clr_ne (by omega), e150, x_up2_off (Or.inl (by omega)), e149, x_clr_ne (by omega), e148, x_up2_off (Or.inl (by omega)), e147, x_clr_ne (by omega), e146, x_up2_off (Or.inl (by omega)), e145, x_clr_ne (by omega), e144, x_up2_off (Or.inl (by omega)), e143, x_clr_ne (by omega), e141, x_clr_ne (by omega), e140, x_up2_off (Or.inl (by omega)), e139, x_clr_ne (by omega), e138, x_up2_off (Or.inl (by omega)), e137]; exact x_up2_at _ _ _ _)
  have f1_N_2_10 : g163 (N + 2 + 10) 1 = .ref (N + 2 + 11) := (by rw [e163, x_up2_off (Or.inl (by omega)), e158, x_up2_off (Or.inl (by omega)), e157, x_clr_ne (by omega), e156, x_up2_off (Or.inl (by omega)), e155, x_clr_ne (by omega), e154, x_up2_off (Or.inl (by omega)), e153, x_up2_off (Or.inl (by omega)), e152, x_up2_off (Or.inr (by decide)), e151, x_clr_ne (by omega), e150, x_up2_off (Or.inr (by decide)), e149, x_clr_ne (by omega), e148, x_up2_off (Or.inr (by decide)), e147, x_clr_ne (by omega), e146, x_up2_off (Or.inr (by decide)), e145, x_clr_ne (by omega), e144]; exact x_up2_at _ _ _ _)
  have f2_N_2_10 : g163 (N + 2 + 10) 2 = .ref (N + 2 + 12) := (by rw [e163, x_up2_off (Or.inl (by omega)), e158, x_up2_off (Or.inl (by omega)), e157, x_clr_ne (by omega), e156, x_up2_off (Or.inl (by omega)), e155, x_clr_ne (by omega), e154, x_up2_off (Or.inl (by omega)), e153, x_up2_off (Or.inl (by omega)), e152, x_up2_off (Or.inr (by decide)), e151, x_clr_ne (by omega), e150, x_up2_off (Or.inr (by decide)), e149, x_clr_ne (by omega), e148, x_up2_off (Or.inr (by decide)), e147, x_clr_ne (by omega), e146]; exact x_up2_at _ _ _ _)
  have f3_N_2_10 : g163 (N + 2 + 10) 3 = .ref (N + 2 + 13) := (by rw [e163, x_up2_off (Or.inl (by omega)), e158, x_up2_off (Or.inl (by omega)), e157, x_clr_ne (by omega), e156, x_up2_off (Or.inl (by omega)), e155, x_clr_ne (by omega), e154, x_up2_off (Or.inl (by omega)), e153, x_up2_off (Or.inl (by omega)), e152, x_up2_off (Or.inr (by decide)), e151, x_clr_ne (by omega), e150, x_up2_off (Or.inr (by decide)), e149, x_clr_ne (by omega), e148]; exact x_up2_at _ _ _ _)
  have f4_N_2_10 : g163 (N + 2 + 10) 4 = .ref (N + 2 + 14) := (by rw [e163, x_up2_off (Or.inl (by omega)), e158, x_up2_off (Or.inl (by omega)), e157, x_clr_ne (by omega), e156, x_up2_off (Or.inl (by omega)), e155, x_clr_ne (by omega), e154, x_up2_off (Or.inl (by omega)), e153, x_up2_off (Or.inl (by omega)), e152, x_up2_off (Or.inr (by decide)), e151, x_clr_ne (by omega), e150]; exact x_up2_at _ _ _ _)
  have f5_N_2_10 : g163 (N + 2 + 10) 5 = .ref (N + 2 + 15) := (by rw [e163, x_up2_off (Or.inl (by omega)), e158, x_up2_off (Or.inl (by omega)), e157, x_clr_ne (by omega), e156, x_up2_off (Or.inl (by omega)), e155, x_clr_ne (by omega), e154, x_up2_off (Or.inl (by omega)), e153, x_up2_off (Or.inl (by omega)), e152]; exact x_up2_at _ _ _ _)
  have hVQ : t_VQ ((sh ++ ([.inl 5, .inl 8] : List (Nat ⊕ (Nat × Nat)))) ++ [.inl 4, .inr (1, 6), .inr (1, 6), .inl 3, .inr (0, 6), .inr (0, 6), .inr (0, 6), .inr (0, 6), .inr (3, 6), .inr (0, 6), .inl 3, .inr (0, 6), .inr (0, 6), .inr (0, 6), .inr (0, 6), .inr (3, 6), .inr (1, 6), .inr (1, 18)]) g163 (N + 2) := ⟨((t_sx (i := 0) hN2).trans rfl), by omega, ⟨f1_N_2_0, ((t_sx (i := 1) hN2).trans rfl)⟩, ⟨f2_N_2_0, ((t_sx (i := 2) hN2).trans rfl)⟩, ⟨f8_N_2_0, ((t_sx (i := 9) hN2).trans rfl)⟩, ⟨f7_N_2_0, ⟨((t_sx (i := 3) hN2).trans rfl), by omega, ⟨f1_N_2_3, ((t_sx (i := 4) hN2).trans rfl)⟩, ⟨f2_N_2_3, ((t_sx (i := 5) hN2).trans rfl)⟩, ⟨f3_N_2_3, ((t_sx (i := 6) hN2).trans rfl)⟩, ⟨f4_N_2_3, ((t_sx (i := 7) hN2).trans rfl)⟩, f5_N_2_3, ((t_sx (i := 8) hN2).trans rfl)⟩⟩, f9_N_2_0, ⟨((t_sx (i := 10) hN2).trans rfl), by omega, ⟨f1_N_2_10, ((t_sx (i := 11) hN2).trans rfl)⟩, ⟨f2_N_2_10, ((t_sx (i := 12) hN2).trans rfl)⟩, ⟨f3_N_2_10, ((t_sx (i := 13) hN2).trans rfl)⟩, ⟨f4_N_2_10, ((t_sx (i := 14) hN2).trans rfl)⟩, f5_N_2_10, ((t_sx (i := 15) hN2).trans rfl)⟩⟩
  have hTk2 : t_Tk ((sh ++ ([.inl 5, .inl 8] : List (Nat ⊕ (Nat × Nat)))) ++ [.inl 4, .inr (1, 6), .inr (1, 6), .inl 3, .inr (0, 6), .inr (0, 6), .inr (0, 6), .inr (0, 6), .inr (3, 6), .inr (0, 6), .inl 3, .inr (0, 6), .inr (0, 6), .inr (0, 6), .inr (0, 6), .inr (3, 6), .inr (1, 6), .inr (1, 18)]) g163 (N + 1) := ⟨t_sl ((t_sx hN).trans rfl), (congrFun (hG.1 (N + 1) (by omega) (by omega)).2.2 0).trans hTk.2⟩
  have hR : t_RQ ((sh ++ ([.inl 5, .inl 8] : List (Nat ⊕ (Nat × Nat)))) ++ [.inl 4, .inr (1, 6), .inr (1, 6), .inl 3, .inr (0, 6), .inr (0, 6), .inr (0, 6), .inr (0, 6), .inr (3, 6), .inr (0, 6), .inl 3, .inr (0, 6), .inr (0, 6), .inr (0, 6), .inr (0, 6), .inr (3, 6), .inr (1, 6), .inr (1, 18)]) g163 N := ⟨t_sl ((t_sx (i := 0) hN).trans rfl), by omega, ⟨f2_N_0, ((t_sx (i := 16) hN2).trans rfl)⟩, ⟨f3_N_0, ((t_sx (i := 17) hN2).trans rfl)⟩, ⟨f0_N_0, hTk2⟩, f1_N_0, hVQ⟩
  have zR4 : (a162 (N + 0) 4).toInt = 0 := by rw [ea162, x_up2_off (Or.inr (by decide)), ea161, x_up2_off (Or.inr (by decide)), ea160, x_up2_off (Or.inr (by decide)), ea159, x_up2_at]; rfl
  have zR5 : (a162 (N + 0) 5).toInt = 0 := by rw [ea162, x_up2_off (Or.inr (by decide)), ea161, x_up2_off (Or.inr (by decide)), ea160, x_up2_at]; rfl
  have zR6 : (a162 (N + 0) 6).toInt = 0 := by rw [ea162, x_up2_off (Or.inr (by decide)), ea161, x_up2_at]; rfl
  have zR7 : (a162 (N + 0) 7).toInt = 0 := by rw [ea162, x_up2_at]; rfl
  have zV0 : (a162 (N + 2 + 0) 0).toInt = 0 := by rw [ea162, x_up2_off (Or.inl (by omega)), ea161, x_up2_off (Or.inl (by omega)), ea160, x_up2_off (Or.inl (by omega)), ea159, x_up2_off (Or.inl (by omega)), ea157, x_clr_ne (by omega), ea155, x_clr_ne (by omega), ea151, x_clr_ne (by omega), ea149, x_clr_ne (by omega), ea147, x_clr_ne (by omega), ea145, x_clr_ne (by omega), ea143, x_clr_ne (by omega), ea142, x_up2_off (Or.inl (by omega)), ea141, x_clr_ne (by omega), ea139, x_clr_ne (by omega), ea136, x_clr_ne (by omega), ea134, x_clr_ne (by omega), ea132, x_clr_ne (by omega), ea130, x_clr_ne (by omega), ea128, x_clr_ne (by omega), ea127, x_up2_off (Or.inl (by omega)), ea126, x_clr_ne (by omega), ea125, x_up2_off (Or.inr (by decide)), ea124, x_up2_off (Or.inr (by decide)), ea123, x_up2_off (Or.inr (by decide)), ea122, x_up2_off (Or.inr (by decide)), ea120, x_clr_ne (by omega), ea118, x_clr_ne (by omega), ea117, x_up2_at]; rfl
  have zV3 : (a162 (N + 2 + 0) 3).toInt = 5 := by rw [ea162, x_up2_off (Or.inl (by omega)), ea161, x_up2_off (Or.inl (by omega)), ea160, x_up2_off (Or.inl (by omega)), ea159, x_up2_off (Or.inl (by omega)), ea157, x_clr_ne (by omega), ea155, x_clr_ne (by omega), ea151, x_clr_ne (by omega), ea149, x_clr_ne (by omega), ea147, x_clr_ne (by omega), ea145, x_clr_ne (by omega), ea143, x_clr_ne (by omega), ea142, x_up2_off (Or.inl (by omega)), ea141, x_clr_ne (by omega), ea139, x_clr_ne (by omega), ea136, x_clr_ne (by omega), ea134, x_clr_ne (by omega), ea132, x_clr_ne (by omega), ea130, x_clr_ne (by omega), ea128, x_clr_ne (by omega), ea127, x_up2_off (Or.inl (by omega)), ea126, x_clr_ne (by omega), ea125, x_up2_off (Or.inr (by decide)), ea124, x_up2_off (Or.inr (by decide)), ea123, x_up2_off (Or.inr (by decide)), ea122, x_up2_at]; rfl
  have zV4 : (a162 (N + 2 + 0) 4).toInt = 0 := by rw [ea162, x_up2_off (Or.inl (by omega)), ea161, x_up2_off (Or.inl (by omega)), ea160, x_up2_off (Or.inl (by omega)), ea159, x_up2_off (Or.inl (by omega)), ea157, x_clr_ne (by omega), ea155, x_clr_ne (by omega), ea151, x_clr_ne (by omega), ea149, x_clr_ne (by omega), ea147, x_clr_ne (by omega), ea145, x_clr_ne (by omega), ea143, x_clr_ne (by omega), ea142, x_up2_off (Or.inl (by omega)), ea141, x_clr_ne (by omega), ea139, x_clr_ne (by omega), ea136, x_clr_ne (by omega), ea134, x_clr_ne (by omega), ea132, x_clr_ne (by omega), ea130, x_clr_ne (by omega), ea128, x_clr_ne (by omega), ea127, x_up2_off (Or.inl (by omega)), ea126, x_clr_ne (by omega), ea125, x_up2_off (Or.inr (by decide)), ea124, x_up2_off (Or.inr (by decide)), ea123, x_up2_at]; rfl
  have zV5 : (a162 (N + 2 + 0) 5).toInt = 0 := by rw [ea162, x_up2_off (Or.inl (by omega)), ea161, x_up2_off (Or.inl (by omega)), ea160, x_up2_off (Or.inl (by omega)), ea159, x_up2_off (Or.inl (by omega)), ea157, x_clr_ne (by omega), ea155, x_clr_ne (by omega), ea151, x_clr_ne (by omega), ea149, x_clr_ne (by omega), ea147, x_clr_ne (by omega), ea145, x_clr_ne (by omega), ea143, x_clr_ne (by omega), ea142, x_up2_off (Or.inl (by omega)), ea141, x_clr_ne (by omega), ea139, x_clr_ne (by omega), ea136, x_clr_ne (by omega), ea134, x_clr_ne (by omega), ea132, x_clr_ne (by omega), ea130, x_clr_ne (by omega), ea128, x_clr_ne (by omega), ea127, x_up2_off (Or.inl (by omega)), ea126, x_clr_ne (by omega), ea125, x_up2_off (Or.inr (by decide)), ea124, x_up2_at]; rfl
  have zV6 : (a162 (N + 2 + 0) 6).toInt = 0 := by rw [ea162, x_up2_off (Or.inl (by omega)), ea161, x_up2_off (Or.inl (by omega)), ea160, x_up2_off (Or.inl (by omega)), ea159, x_up2_off (Or.inl (by omega)), ea157, x_clr_ne (by omega), ea155, x_clr_ne (by omega), ea151, x_clr_ne (by omega), ea149, x_clr_ne (by omega), ea147, x_clr_ne (by omega), ea145, x_clr_ne (by omega), ea143, x_clr_ne (by omega), ea142, x_up2_off (Or.inl (by omega)), ea141, x_clr_ne (by omega), ea139, x_clr_ne (by omega), ea136, x_clr_ne (by omega), ea134, x_clr_ne (by omega), ea132, x_clr_ne (by omega), ea130, x_clr_ne (by omega), ea128, x_clr_ne (by omega), ea127, x_up2_off (Or.inl (by omega)), ea126, x_clr_ne (by omega), ea125, x_up2_at]; rfl
  have zS0 : (a162 (N + 2 + 3) 0).toInt = 0 := by rw [ea162, x_up2_off (Or.inl (by omega)), ea161, x_up2_off (Or.inl (by omega)), ea160, x_up2_off (Or.inl (by omega)), ea159, x_up2_off (Or.inl (by omega)), ea157, x_clr_ne (by omega), ea155, x_clr_ne (by omega), ea151, x_clr_ne (by omega), ea149, x_clr_ne (by omega), ea147, x_clr_ne (by omega), ea145, x_clr_ne (by omega), ea143, x_clr_ne (by omega), ea142, x_up2_off (Or.inl (by omega)), ea141, x_clr_ne (by omega), ea139, x_clr_ne (by omega), ea136, x_clr_ne (by omega), ea134, x_clr_ne (by omega), ea132, x_clr_ne (by omega), ea130, x_clr_ne (by omega), ea128, x_clr_ne (by omega), ea127, x_up2_at]; rfl
  have zC0 : (a162 (N + 2 + 10) 0).toInt = 0 := by rw [ea162, x_up2_off (Or.inl (by omega)), ea161, x_up2_off (Or.inl (by omega)), ea160, x_up2_off (Or.inl (by omega)), ea159, x_up2_off (Or.inl (by omega)), ea157, x_clr_ne (by omega), ea155, x_clr_ne (by omega), ea151, x_clr_ne (by omega), ea149, x_clr_ne (by omega), ea147, x_clr_ne (by omega), ea145, x_clr_ne (by omega), ea143, x_clr_ne (by omega), ea142, x_up2_at]; rfl
  have hT2 := hT1.eq (g1 := a162) (l1 := b157) (r1 := g163) (hG.1 2 (by omega) (by omega)).1 (hG.1 (N + 1) (by omega) (by omega)).1 (hG.1 (N + 1) (by omega) (by omega)).2.1 (hG.1 (N + 1) (by omega) (by omega)).2.2
  have hF2 : t_FL a162 (N + 1) 0 (-1) := by rw [t_FL, (hG.1 (N + 1) (by omega) (by omega)).1]; exact hF1
  have hC : t_CR a162 b157 N s_D0 (s_D0 0 + s_D0 1 + s_D0 2) (s_used s_D0) := t_CR_0 zR4 zV0 zV3 zV4 zV5 zV6 zR5 zR6 zR7 zS0 zC0
  refine ev_sub (lo := [(0, .ref 0), (1, .int ar1), (2, .ref (N + 0))]) rfl (t_sc rfl (t_sc rfl (t_sc rfl t_sn))) ?_
  refine x_Ev.mono (x_Ev.up (c_s_riverT (d := d) hI3 ar1 N hR) (by omega)) ?_
  rintro v G1 ⟨g1, l1, r1, rfl, k1, k2, x, rfl, -, -, k3, k4⟩
  refine ⟨_, g1, l1, r1, x, rfl, rfl, fun _ n hn => ?_, fun hh => absurd hin hh, fun _ => by rw [List.length_append, hN2]; show N + 18 ≤ N + 2 + 18; omega⟩
  have en : n = ar1.toNatClampNeg := by have hc := t_clamp (i := ar1) lx; omega
  subst en
  have hr6 : g163 0 6 = gr 0 6 := by rw [(hG.1 0 (by omega) (by omega)).2.2, (hX1.1 0 6 rfl).2.2, (hG1.1 0 (by omega) (by omega)).2.2]
  have hr7 : g163 0 7 = gr 0 7 := by rw [(hG.1 0 (by omega) (by omega)).2.2, (hX1.1 0 7 rfl).2.2, (hG1.1 0 (by omega) (by omega)).2.2]
  refine ⟨(k3 _ _ ⟨hT2, hC, hF2⟩).imp ?_ ?_, fun K k0 hK => ?_⟩
  · rintro ⟨q2, D2, a1, a2, a3, a4, a5, a6, a7⟩
    exact ⟨q2, D2, a1, a2, a3, a4, a5, a6, a7, (hR.ext k2.2).2.2.2.2.2.2.l⟩
  · rintro ⟨p, x2, D2, a1, a2, a3, a4, a5, a6, a7⟩
    exact ⟨p, x2, D2, a1, a2, a3, a4, a5, a6.trans hr6, a7.trans hr7⟩
  · have f1 := k4 K k0 hK
    have f2 := hG.1 K (by omega) (by omega)
    have f3 := qs.2.2 K (by omega)
    have f4 := hG1.1 K (by omega) (by omega)
    exact ⟨f1.1.trans (f2.1.trans (f3.1.trans f4.1)), f1.2.1.trans (f2.2.1.trans (f3.2.1.trans f4.2.1)), f1.2.2.trans (f2.2.2.trans (f3.2.2.trans f4.2.2))⟩
