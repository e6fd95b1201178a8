/-! ===== rules over typed worlds: branches, switches, odds and ends ===== -/
theorem t_ceq {i j : Int32} (h : i.toInt = j.toInt) : i.toNatClampNeg = j.toNatClampNeg := by rw [Int32.toInt_inj.mp h]
theorem t_irr (x : Int32) : ¬ x < x := by rw [Int32.lt_iff_toInt_lt]; omega
theorem t_lerf (x : Int32) : x ≤ x := by rw [Int32.le_iff_toInt_le]; omega
theorem t_nel {x y : Int32} {u v : Int} (h : ¬ x = y) (hx : u ≤ x.toInt) (hy : y.toInt = u) (hv : u + 1 = v) : v ≤ x.toInt := by
  have : x.toInt ≠ y.toInt := fun e => h (Int32.toInt_inj.mp e)
  omega
theorem t_neu {x y : Int32} {u v : Int} (h : ¬ x = y) (hx : x.toInt ≤ u) (hy : y.toInt = u) (hv : u - 1 = v) : x.toInt ≤ v := by
  have : x.toInt ≠ y.toInt := fun e => h (Int32.toInt_inj.mp e)
  omega
theorem t_cl1 {i : Int32} {l : Int} {p : Nat} (a1 : l ≤ i.toInt) (h : decide ((p : Int) ≤ l) = true) : p ≤ i.toNatClampNeg := by
  have h := of_decide_eq_true h
  have := t_clamp (i := i) (by omega)
  omega
theorem t_cl2 {i : Int32} {l u : Int} {m : Nat} (a1 : l ≤ i.toInt) (a2 : i.toInt ≤ u) (h0 : decide (0 ≤ l) = true) (h : decide (u ≤ (m : Int)) = true) : i.toNatClampNeg ≤ m := by
  have h := of_decide_eq_true h
  have h0 := of_decide_eq_true h0
  have := t_clamp (i := i) (by omega)
  omega
theorem t_rz {x : Int32} (l0 : 0 ≤ x.toInt) (u1 : x.toInt ≤ 1) : x_ret (some .boolean) .ireturn [.int x] = some (some (.int x)) := by
  have h : x = 0 ∨ x = 1 := by
    have h : x.toInt = 0 ∨ x.toInt = 1 := by omega
    exact h.imp (fun h => Int32.toInt_inj.mp h) (fun h => Int32.toInt_inj.mp h)
  exact if_pos h
theorem t_knw {v : Value} (h : t_KwN v) : x_known v = true := by
  rcases h with rfl | ⟨i, rfl, hi⟩
  · rfl
  · simp [x_known]; omega
theorem t_KwR {v : Value} (h : t_KwN v) : x_isR v = true := by
  rcases h with rfl | ⟨i, rfl, hi⟩
  · rfl
  · rfl
noncomputable def t_Ty (sh : List (Nat ⊕ (Nat × Nat))) (gr : Nat → Nat → Value) (k : Nat) : Prop := sh[k]? = some (.inl 9) ∧ (gr k 0 = .ref (k + 1) ∧ sh[k + 1]? = some (.inr (1, 60))) ∧ (k = 61 ∨ k = 63 ∨ k = 65 ∨ k = 67)
section TR3
variable {X : x_Ext} {d mi pc nx a b q len ml : Nat} {z : Int} {ins : Instr} {lo lo' : x_Lo} {st st' r : List Value} {G : x_G} {P : Option Value → x_G → Prop} {T : List (Nat × x_Row)} {rt : Option FieldType}
theorem ev_swt {x : Int32} {d0 l0 h0 c : Int} {offs : Array Int} (F : x_F mi T ml rt) (hr : x_lk T pc = some (.tableswitch d0 l0 h0 offs, len, a, b, q, z)) (hx : x.toInt = c) (hs : (if c < l0 ∨ h0 < c then (if 0 ≤ (pc : Int) + d0 then some ((pc : Int) + d0).toNat else none) else match offs.toList[(c - l0).toNat]? with | some o => if 0 ≤ (pc : Int) + o then some ((pc : Int) + o).toNat else none | none => none) = some nx) (kk : x_Ev X d mi nx lo r G P) : x_Ev X d mi pc lo (.int x :: r) G P := by
  refine ev_jmp F hr rfl ?_ kk
  subst hx
  show (if x.toInt < l0 ∨ h0 < x.toInt then (if 0 ≤ (pc : Int) + d0 then some (((pc : Int) + d0).toNat, r) else none) else match offs.toList[(x.toInt - l0).toNat]? with | some o => if 0 ≤ (pc : Int) + o then some (((pc : Int) + o).toNat, r) else none | none => none) = _
  split at hs
  · next h1 =>
    rw [if_pos h1]
    split at hs
    · next h2 => rw [if_pos h2]; cases hs; rfl
    · cases hs
  · next h1 =>
    rw [if_neg h1]
    split at hs
    · next o ho =>
      split at hs
      · next h2 => rw [if_pos h2]; cases hs; rfl
      · cases hs
    · cases hs
theorem ev_swtd {x : Int32} {d0 l0 h0 : Int} {offs : Array Int} (F : x_F mi T ml rt) (hr : x_lk T pc = some (.tableswitch d0 l0 h0 offs, len, a, b, q, z)) (h : x.toInt < l0 ∨ h0 < x.toInt) (hp : 0 ≤ (pc : Int) + d0) (hn : ((pc : Int) + d0).toNat = nx) (kk : x_Ev X d mi nx lo r G P) : x_Ev X d mi pc lo (.int x :: r) G P := ev_swd F hr h hp hn kk
theorem ev_swl {x : Int32} {d0 c : Int} {ps : Array (Int × Int)} (F : x_F mi T ml rt) (hr : x_lk T pc = some (.lookupswitch d0 ps, len, a, b, q, z)) (hx : x.toInt = c) (hs : (if (ps.toList.zip (ps.toList.drop 1)).all (fun (a, next) => a.1 < next.1) = true ∧ 0 ≤ (pc : Int) + Op.lookupswitch.offset ps.toList d0 c then some ((pc : Int) + Op.lookupswitch.offset ps.toList d0 c).toNat else none) = some nx) (kk : x_Ev X d mi nx lo r G P) : x_Ev X d mi pc lo (.int x :: r) G P := by
  refine ev_jmp F hr rfl ?_ kk
  subst hx
  show (if (ps.toList.zip (ps.toList.drop 1)).all (fun (a, next) => a.1 < next.1) = true ∧ 0 ≤ (pc : Int) + Op.lookupswitch.offset ps.toList d0 x.toInt then some (((pc : Int) + Op.lookupswitch.offset ps.toList d0 x.toInt).toNat, r) else none) = _
  split at hs
  · next h1 => rw [if_pos h1]; cases hs; rfl
  · cases hs
theorem ev_nul {v : Value} {t1 t2 : Nat} (F : x_F mi T ml rt) (hr : x_lk T pc = some (ins, len, a, b, q, z)) (hc : x_cat ins = 2) (hs : x_br a pc ins (v :: r) = if x_known v = true then some (if v = .null then t1 else t2, r) else none) (hv : x_known v = true) (k1 : v = .null → x_Ev X d mi t1 lo r G P) (k2 : ¬ v = .null → x_Ev X d mi t2 lo r G P) : x_Ev X d mi pc lo (v :: r) G P := by
  rw [if_pos hv] at hs
  exact ev_if F hr hc hs k1 k2
theorem ev_ack {v w : Value} {t1 t2 : Nat} (F : x_F mi T ml rt) (hr : x_lk T pc = some (ins, len, a, b, q, z)) (hc : x_cat ins = 2) (hs : x_br a pc ins (w :: v :: r) = if x_known v = true ∧ x_known w = true then some (if v = w then t1 else t2, r) else none) (hv : x_known v = true) (hw : x_known w = true) (k1 : v = w → x_Ev X d mi t1 lo r G P) (k2 : ¬ v = w → x_Ev X d mi t2 lo r G P) : x_Ev X d mi pc lo (w :: v :: r) G P := by
  rw [if_pos ⟨hv, hw⟩] at hs
  exact ev_if F hr hc hs k1 k2
theorem ev_ackT {v w : Value} {t1 t2 : Nat} (F : x_F mi T ml rt) (hr : x_lk T pc = some (ins, len, a, b, q, z)) (hc : x_cat ins = 2) (hs : x_br a pc ins (w :: v :: r) = if x_known v = true ∧ x_known w = true then some (if v = w then t1 else t2, r) else none) (hv : x_known v = true) (hw : x_known w = true) (h : v = w) (k1 : x_Ev X d mi t1 lo r G P) : x_Ev X d mi pc lo (w :: v :: r) G P := ev_ack F hr hc hs hv hw (fun _ => k1) (fun n => absurd h n)
theorem ev_ackF {v w : Value} {t1 t2 : Nat} (F : x_F mi T ml rt) (hr : x_lk T pc = some (ins, len, a, b, q, z)) (hc : x_cat ins = 2) (hs : x_br a pc ins (w :: v :: r) = if x_known v = true ∧ x_known w = true then some (if v = w then t1 else t2, r) else none) (hv : x_known v = true) (hw : x_known w = true) (h : ¬ v = w) (k2 : x_Ev X d mi t2 lo r G P) : x_Ev X d mi pc lo (w :: v :: r) G P := ev_ack F hr hc hs hv hw (fun n => absurd n h) (fun _ => k2)
end TR3
section TR4
variable {sh : List (Nat ⊕ (Nat × Nat))} {gr gr' : Nat → Nat → Value}
theorem t_Tk.ext {k : Nat} (h : t_Tk sh gr k) (he : t_eqf sh gr gr') : t_Tk sh gr' k := ⟨h.1, by rw [he k 8 0 h.1 rfl]; exact h.2⟩
theorem t_RR.ext {k : Nat} (h : t_RR sh gr k) (he : t_eqf sh gr gr') : t_RR sh gr' k := by
  obtain ⟨h0, ⟨a, h1, h2⟩, ⟨b, h3, h4⟩, h5, h6⟩ := h
  exact ⟨h0, ⟨a, by rw [he k 5 0 h0 rfl]; exact h1, h2.ext he⟩, ⟨b, by rw [he k 5 1 h0 rfl]; exact h3, h4.ext he⟩, h5.ext h0 rfl he, h6.ext h0 rfl he⟩
theorem t_RL.ext {k : Nat} (h : t_RL sh gr k) (he : t_eqf sh gr gr') : t_RL sh gr' k := by
  obtain ⟨h0, ⟨a, h1, h2⟩, b, h3, h4⟩ := h
  exact ⟨h0, ⟨a, by rw [he k 7 0 h0 rfl]; exact h1, h2.ext he⟩, b, by rw [he k 7 1 h0 rfl]; exact h3, h4.ext he⟩
theorem t_Ty.ext {k : Nat} (h : t_Ty sh gr k) (he : t_eqf sh gr gr') : t_Ty sh gr' k := ⟨h.1, ⟨by rw [he k 9 0 h.1 rfl]; exact h.2.1.1, h.2.1.2⟩, h.2.2⟩
theorem t_in4O {wl : List (Nat × Nat)} {k j : Nat} (h : k = 61 ∨ k = 63 ∨ k = 65 ∨ k = 67) (hw : (t_in wl 61 j && (t_in wl 63 j && (t_in wl 65 j && t_in wl 67 j))) = true) : t_in wl (t_cd sh k) j = true := by
  simp only [Bool.and_eq_true] at hw
  rw [show t_cd sh k = k from if_pos (by omega)]
  rcases h with rfl | rfl | rfl | rfl
  · exact hw.1
  · exact hw.2.1
  · exact hw.2.2.1
  · exact hw.2.2.2
theorem t_in4A {wl : List (Nat × Nat)} {k j : Nat} (h : k = 61 ∨ k = 63 ∨ k = 65 ∨ k = 67) (hw : (t_inA wl 62 && (t_inA wl 64 && (t_inA wl 66 && t_inA wl 68))) = true) : t_in wl (t_cd sh (k + 1)) j = true := by
  simp only [Bool.and_eq_true] at hw
  rw [show t_cd sh (k + 1) = k + 1 from if_pos (by omega)]
  rcases h with rfl | rfl | rfl | rfl
  · exact t_inA_ok hw.1
  · exact t_inA_ok hw.2.1
  · exact t_inA_ok hw.2.2.1
  · exact t_inA_ok hw.2.2.2
theorem t_tray {i : Int32} {l u : Int} (h : x_WF sh gr) (a1 : l ≤ i.toInt) (h1 : decide (0 ≤ l) = true) (a2 : i.toInt ≤ u) (h2 : decide (u < 4) = true) : ∃ k, gr 1 i.toNatClampNeg = .ref k ∧ t_Ty sh gr k := by
  have h1 := of_decide_eq_true h1
  have h2 := of_decide_eq_true h2
  have h3 := t_clamp (i := i) (by omega)
  have h4 : i.toNatClampNeg = 0 ∨ i.toNatClampNeg = 1 ∨ i.toNatClampNeg = 2 ∨ i.toNatClampNeg = 3 := by omega
  rcases h4 with e | e | e | e <;> rw [e]
  · exact ⟨61, h.r rfl, h.s rfl, ⟨h.r rfl, h.s rfl⟩, by decide⟩
  · exact ⟨63, h.r rfl, h.s rfl, ⟨h.r rfl, h.s rfl⟩, by decide⟩
  · exact ⟨65, h.r rfl, h.s rfl, ⟨h.r rfl, h.s rfl⟩, by decide⟩
  · exact ⟨67, h.r rfl, h.s rfl, ⟨h.r rfl, h.s rfl⟩, by decide⟩
theorem t_kwl {X : x_Ext} {d mi pc nx len ml q : Nat} {z : Int} {lo : x_Lo} {r : List Value} {G : x_G} {P : Option Value → x_G → Prop} {T : List (Nat × x_Row)} {rt : Option FieldType} {i0 : Nat} {k : Nat} (F : x_F mi T ml rt) (hr : x_lk T pc = some (.getfield i0, len, 200, 0, q, z)) (hk : k < 27) (hn : pc + len = nx) (kk : ∀ w : Int64, x_Ev X d mi nx lo (.long w :: r) G P) : x_Ev X d mi pc lo (.retAddr k :: r) G P := by
  refine ev_heap F hr rfl ?_ hn (kk (x_kwl.getD k 0))
  show (if (200 : Nat) = 200 then (match x_xf 0 k with | some v => some (v :: r, G) | none => none) else none) = _
  rw [if_pos rfl]
  have h : x_xf 0 k = some (.long (x_kwl.getD k 0)) := by show (if k < 27 then _ else none) = _; rw [if_pos hk]
  rw [h]
theorem t_kwa {X : x_Ext} {d mi pc nx a b len ml q : Nat} {z : Int} {lo : x_Lo} {r : List Value} {G : x_G} {P : Option Value → x_G → Prop} {T : List (Nat × x_Row)} {rt : Option FieldType} {i : Int32} {l u : Int} (F : x_F mi T ml rt) (hr : x_lk T pc = some (.aaload, len, a, b, q, z)) (a1 : l ≤ i.toInt) (h1 : decide (0 ≤ l) = true) (a2 : i.toInt ≤ u) (h2 : decide (u < 27) = true) (hn : pc + len = nx) (kk : ∀ k, k < 27 → x_Ev X d mi nx lo (.retAddr k :: r) G P) : x_Ev X d mi pc lo (.int i :: .retAddr 27 :: r) G P := by
  have h := t_idx (n := 27) a1 h1 a2 h2
  refine ev_heap F hr rfl ?_ hn (kk i.toNatClampNeg h.2)
  show (match x_ldX x_isObj X 27 i with | some v => some (v :: r, G) | none => none) = _
  have h3 : x_ldX x_isObj X 27 i = some (.retAddr i.toNatClampNeg) := by
    show (if x_isObj (.object "HornBridge$Keyword") = true ∧ ¬ (i < 0 ∨ 27 ≤ i.toNatClampNeg) then some (Value.retAddr i.toNatClampNeg) else none) = _
    rw [if_pos ⟨rfl, x_ix h.1 h.2⟩]
  rw [h3]
theorem t_cross {gi : Nat → Nat → Int32} (h : t_I sh gi gr) {k : Nat} (hk : t_Rv sh gr k) : t_I sh gi (x_up2 gr 28 0 (.ref k)) := by
  obtain ⟨h1, h2, h3, ⟨⟨k0, g1, g1'⟩, g2, g3, g4, g5, g6⟩, h5⟩ := h
  have he : t_eqf sh gr (x_up2 gr 28 0 (.ref k)) := t_eqf_up (h1.s rfl) rfl
  refine ⟨x_WF_up h1 rfl, h2, h3, ⟨⟨k0, g1, g1'.ext he⟩, g2.ext he, fun j hj => (g3 j hj).ext he, fun j hj => (g4 j hj).ext he, Or.inr ⟨k, x_up2_at _ _ _ _, hk.ext he⟩, fun k' hk' => ?_⟩, h5.ext he⟩
  have hne : k' ≠ 28 := by rintro rfl; rw [h1.s (k := 28) rfl] at hk'; cases hk'
  rw [x_up2_off (Or.inl hne)]; exact g6 k' hk'
theorem t_keyw {gi : Nat → Nat → Int32} (h : t_I sh gi gr) {k : Nat} {v : Value} (hk : sh[k]? = some (.inl 8)) (hv : t_KwN v) : t_I sh gi (x_up2 gr k 7 v) := by
  obtain ⟨h1, h2, h3, ⟨⟨k0, g1, g1'⟩, g2, g3, g4, g5, g6⟩, h5⟩ := h
  have he : t_eqf sh gr (x_up2 gr k 7 v) := t_eqf_up hk rfl
  have hne : ∀ {k' ci : Nat}, sh[k']? = some (.inl ci) → ci ≠ 8 → k' ≠ k := by
    rintro k' ci h9 h10 rfl
    rw [hk] at h9; cases h9; exact h10 rfl
  have hnea : ∀ {k' : Nat} {q : Nat × Nat}, sh[k']? = some (.inr q) → k' ≠ k := by
    rintro k' q h9 rfl
    rw [hk] at h9; cases h9
  have hf : x_fixed k 7 = none := by
    cases hx : x_fixed k 7 with
    | none => rfl
    | some v' =>
      exfalso
      have h9 : (x_fx.all (fun q => !(q.1.2 == 7) || (match x_sh0[q.1.1]? with | some s => !x_eS s (.inl 8) | none => false))) = true := by decide +kernel
      have h10 := List.all_eq_true.mp h9 _ (x_lookup_mem hx)
      cases hc : x_sh0[k]? with
      | none => simp [hc] at h10
      | some s =>
        have h11 := h1.s0 hc
        rw [hk] at h11; cases h11
        simp [hc, x_eS_rf] at h10
  refine ⟨x_WF_up h1 hf, h2, h3, ⟨⟨k0, ?_, g1'.ext he⟩, ?_, fun j hj => ?_, fun j hj => ?_, ?_, fun k' hk' => ?_⟩, h5.ext he⟩
  · rw [x_up2_off (Or.inl (hne (h1.s (k := 0) rfl) (by decide)))]; exact g1
  · rw [x_up2_off (Or.inl (hne (h1.s (k := 0) rfl) (by decide)))]; exact g2.ext he
  · rw [x_up2_off (Or.inl (hnea (h1.s (k := 19) rfl)))]; exact (g3 j hj).ext he
  · rw [x_up2_off (Or.inl (hnea (h1.s (k := 20) rfl)))]; exact (g4 j hj).ext he
  · rw [x_up2_off (Or.inl (hne (h1.s (k := 28) rfl) (by decide)))]; exact g5.ext he
  · by_cases hkk : k' = k
    · subst hkk; rw [x_up2_at]; exact hv
    · rw [x_up2_off (Or.inl hkk)]; exact g6 k' hk'
end TR4
theorem t_Ln6 {sh : List (Nat ⊕ (Nat × Nat))} {gr : Nat → Nat → Value} (h : x_WF sh gr) : t_Ln sh gr 6 := ⟨h.s rfl, ⟨7, h.r rfl, h.s rfl, Or.inl (by decide)⟩, ⟨8, h.r rfl, h.s rfl, Or.inl (by decide)⟩, ⟨9, h.r rfl, h.s rfl, Or.inl (by decide)⟩, ⟨10, h.r rfl, h.s rfl, Or.inl (by decide)⟩, ⟨11, h.r rfl, h.s rfl, Or.inl (by decide)⟩⟩
theorem t_Ln13 {sh : List (Nat ⊕ (Nat × Nat))} {gr : Nat → Nat → Value} (h : x_WF sh gr) : t_Ln sh gr 13 := ⟨h.s rfl, ⟨14, h.r rfl, h.s rfl, Or.inl (by decide)⟩, ⟨15, h.r rfl, h.s rfl, Or.inl (by decide)⟩, ⟨16, h.r rfl, h.s rfl, Or.inl (by decide)⟩, ⟨17, h.r rfl, h.s rfl, Or.inl (by decide)⟩, ⟨18, h.r rfl, h.s rfl, Or.inl (by decide)⟩⟩
theorem t_Ln29 {sh : List (Nat ⊕ (Nat × Nat))} {gr : Nat → Nat → Value} (h : x_WF sh gr) : t_Ln sh gr 29 := ⟨h.s rfl, ⟨30, h.r rfl, h.s rfl, Or.inl (by decide)⟩, ⟨31, h.r rfl, h.s rfl, Or.inl (by decide)⟩, ⟨32, h.r rfl, h.s rfl, Or.inl (by decide)⟩, ⟨33, h.r rfl, h.s rfl, Or.inl (by decide)⟩, ⟨34, h.r rfl, h.s rfl, Or.inl (by decide)⟩⟩
theorem t_Ln35 {sh : List (Nat ⊕ (Nat × Nat))} {gr : Nat → Nat → Value} (h : x_WF sh gr) : t_Ln sh gr 35 := ⟨h.s rfl, ⟨36, h.r rfl, h.s rfl, Or.inl (by decide)⟩, ⟨37, h.r rfl, h.s rfl, Or.inl (by decide)⟩, ⟨38, h.r rfl, h.s rfl, Or.inl (by decide)⟩, ⟨39, h.r rfl, h.s rfl, Or.inl (by decide)⟩, ⟨40, h.r rfl, h.s rfl, Or.inl (by decide)⟩⟩
theorem t_Ln46 {sh : List (Nat ⊕ (Nat × Nat))} {gr : Nat → Nat → Value} (h : x_WF sh gr) : t_Ln sh gr 46 := ⟨h.s rfl, ⟨47, h.r rfl, h.s rfl, Or.inl (by decide)⟩, ⟨48, h.r rfl, h.s rfl, Or.inl (by decide)⟩, ⟨49, h.r rfl, h.s rfl, Or.inl (by decide)⟩, ⟨50, h.r rfl, h.s rfl, Or.inl (by decide)⟩, ⟨51, h.r rfl, h.s rfl, Or.inl (by decide)⟩⟩
theorem t_Ln52 {sh : List (Nat ⊕ (Nat × Nat))} {gr : Nat → Nat → Value} (h : x_WF sh gr) : t_Ln sh gr 52 := ⟨h.s rfl, ⟨53, h.r rfl, h.s rfl, Or.inl (by decide)⟩, ⟨54, h.r rfl, h.s rfl, Or.inl (by decide)⟩, ⟨55, h.r rfl, h.s rfl, Or.inl (by decide)⟩, ⟨56, h.r rfl, h.s rfl, Or.inl (by decide)⟩, ⟨57, h.r rfl, h.s rfl, Or.inl (by decide)⟩⟩
theorem ev_cpyTI {X : x_Ext} {d mi pc nx b len ml q : Nat} {z : Int} {lo : x_Lo} {P : Option Value → x_G → Prop} {T : List (Nat × x_Row)} {rt : Option FieldType} {sh : List (Nat ⊕ (Nat × Nat))} {gi gi0 : Nat → Nat → Int32} {gl gl0 : Nat → Nat → Int64} {gr gr0 : Nat → Nat → Value} {wl : List (Nat × Nat)} {ins : Instr} {k0 k1 n0 n1 : Nat} {i1 i2 i3 : Int32} {u1 u2 u3 : Int} (F : x_F mi T ml rt) (hr : x_lk T pc = some (ins, len, 1001, b, q, z)) (hc : x_cat ins = 4) (h0 : sh[k0]? = some (.inr (0, n0))) (h1 : sh[k1]? = some (.inr (0, n1))) (hd : 1 ≤ d) (a1 : 0 ≤ i1.toInt) (b1 : i1.toInt ≤ u1) (a2 : 0 ≤ i2.toInt) (b2 : i2.toInt ≤ u2) (a3 : 0 ≤ i3.toInt) (b3 : i3.toInt ≤ u3) (c0 : decide (u1 + u3 ≤ (n0 : Int)) = true) (c1 : decide (u2 + u3 ≤ (n1 : Int)) = true) (hn : pc + 3 = nx) (hI : t_I sh (fun a => if a = k1 then va_cpy (gi k0) (gi k1) i1.toNatClampNeg i2.toNatClampNeg i3.toNatClampNeg else gi a) gr) (hX : t_X wl sh gi0 gl0 gr0 (fun a => if a = k1 then va_cpy (gi k0) (gi k1) i1.toNatClampNeg i2.toNatClampNeg i3.toNatClampNeg else gi a) gl gr) (kk : ∀ g2, t_I sh g2 gr → t_X wl sh gi0 gl0 gr0 g2 gl gr → x_Ev X d mi nx lo [] (sh, g2, gl, gr) P) : x_Ev X d mi pc lo [.int i3, .int i2, .ref k1, .int i1, .ref k0] (sh, gi, gl, gr) P := by
  have c0 := of_decide_eq_true c0
  have c1 := of_decide_eq_true c1
  have e1 := t_clamp a1
  have e2 := t_clamp a2
  have e3 := t_clamp a3
  have h0' : (0 : Int32).toInt = 0 := rfl
  obtain ⟨m, v, G', e4, e5⟩ := kk _ hI hX
  refine ⟨m + 1, v, G', ?_, e5⟩
  unfold x_exec; rw [x_Frow F hr]; dsimp only
  rw [hc]; (try dsimp only)
  rw [if_neg (by decide), if_pos rfl, h0, h1]; dsimp only
  rw [if_pos ⟨rfl, by decide, hd, by rw [Int32.lt_iff_toInt_lt]; omega, by rw [Int32.lt_iff_toInt_lt]; omega, by rw [Int32.lt_iff_toInt_lt]; omega, by omega, by omega⟩, hn]
  exact e4
theorem t_ab_le {k j m : Nat} {b : Int × Int} (hm : (t_abl.all (fun q => !(q.1 == k) || decide (q.2.2.1 ≤ m))) = true) (h : t_ab k j = some b) : j ≤ m := by
  obtain ⟨q, h1, h2, h3, h4⟩ := t_ab_mem3 h
  have h5 := List.all_eq_true.mp hm q h1
  simp [h2] at h5
  omega
theorem t_cp27 {sh : List (Nat ⊕ (Nat × Nat))} {gi : Nat → Nat → Int32} {gr : Nat → Nat → Value} (h : t_I sh gi gr) (n : Nat) : ∀ j lo hi, t_ab 27 j = some (lo, hi) → lo ≤ (va_cpy (gi 26) (gi 27) (0 : Int32).toNatClampNeg (0 : Int32).toNatClampNeg n j).toInt ∧ (va_cpy (gi 26) (gi 27) (0 : Int32).toNatClampNeg (0 : Int32).toNatClampNeg n j).toInt ≤ hi := by
  intro j lo hi e
  have hj : j ≤ 3 := t_ab_le (by decide +kernel) e
  have e26 : t_ab 26 j = some (lo, hi) := by
    have : j = 0 ∨ j = 1 ∨ j = 2 ∨ j = 3 := by omega
    rcases this with rfl | rfl | rfl | rfl <;> (rw [← e]; decide +kernel)
  unfold va_cpy
  have h0 : (0 : Int32).toNatClampNeg = 0 := rfl
  rw [h0]
  split
  · rw [show 0 + (j - 0) = j by omega]; exact h.2.2.1 26 j lo hi e26
  · exact h.2.2.1 27 j lo hi e
section TR5
variable {sh : List (Nat ⊕ (Nat × Nat))} {gi : Nat → Nat → Int32} {gr : Nat → Nat → Value}
theorem t_nokey (h1 : x_WF sh gr) {k ci : Nat} {j : Nat} {v : Value} (hk : sh[k]? = some (.inl ci)) (hc : (ci == 8) = false) (h : ∀ k, sh[k]? = some (.inl 8) → t_KwN (gr k 7)) : ∀ k', sh[k']? = some (.inl 8) → t_KwN (x_up2 gr k j v k' 7) := by
  intro k' hk'
  have hne : k' ≠ k := by
    rintro rfl
    rw [hk] at hk'; cases hk'; cases hc
  rw [x_up2_off (Or.inl hne)]; exact h k' hk'
theorem t_nokeyA {k : Nat} {q : Nat × Nat} {j : Nat} {v : Value} (hk : sh[k]? = some (.inr q)) (h : ∀ k, sh[k]? = some (.inl 8) → t_KwN (gr k 7)) : ∀ k', sh[k']? = some (.inl 8) → t_KwN (x_up2 gr k j v k' 7) := by
  intro k' hk'
  rw [x_up2_off (Or.inl (t_noobj hk hk'))]; exact h k' hk'
theorem t_putRiver (h : t_I sh gi gr) {k : Nat} (hv : t_Rv sh gr k) : t_I sh gi (x_up2 gr 0 6 (.ref k)) := by
  obtain ⟨h1, h2, h3, ⟨_, g2, g3, g4, g5, g6⟩, h5⟩ := h
  have he : t_eqf sh gr (x_up2 gr 0 6 (.ref k)) := t_eqf_up (h1.s rfl) rfl
  refine ⟨x_WF_up h1 rfl, h2, h3, ⟨⟨k, x_up2_at _ _ _ _, hv.ext he⟩, ?_, fun j hj => ?_, fun j hj => ?_, ?_, t_nokey h1 (h1.s rfl) rfl g6⟩, h5.ext he⟩
  · rw [x_up2_off (Or.inr (by decide))]; exact g2.ext he
  · rw [x_up2_off (Or.inl (by decide))]; exact (g3 j hj).ext he
  · rw [x_up2_off (Or.inl (by decide))]; exact (g4 j hj).ext he
  · rw [x_up2_off (Or.inl (by decide))]; exact g5.ext he
theorem t_putRules (h : t_I sh gi gr) {v : Value} (hv : t_RuN sh gr v) : t_I sh gi (x_up2 gr 0 7 v) := by
  obtain ⟨h1, h2, h3, ⟨⟨k, g1, g1'⟩, g2, g3, g4, g5, g6⟩, h5⟩ := h
  have he : t_eqf sh gr (x_up2 gr 0 7 v) := t_eqf_up (h1.s rfl) rfl
  refine ⟨x_WF_up h1 rfl, h2, h3, ⟨⟨k, ?_, g1'.ext he⟩, ?_, fun j hj => ?_, fun j hj => ?_, ?_, t_nokey h1 (h1.s rfl) rfl g6⟩, h5.ext he⟩
  · rw [x_up2_off (Or.inr (by decide))]; exact g1
  · rw [x_up2_at]; exact hv.ext he
  · rw [x_up2_off (Or.inl (by decide))]; exact (g3 j hj).ext he
  · rw [x_up2_off (Or.inl (by decide))]; exact (g4 j hj).ext he
  · rw [x_up2_off (Or.inl (by decide))]; exact g5.ext he
theorem t_mk19 (h : t_I sh gi gr) {m : Nat} {v : Value} (hv : t_RvN sh gr v) : t_I sh gi (x_up2 gr 19 m v) := by
  obtain ⟨h1, h2, h3, ⟨⟨k, g1, g1'⟩, g2, g3, g4, g5, g6⟩, h5⟩ := h
  have hs : sh[19]? = some (.inr (5, 3)) := h1.s rfl
  have he : t_eqf sh gr (x_up2 gr 19 m v) := t_eqf_upA hs
  have hf : x_fixed 19 m = none := by
    cases hx : x_fixed 19 m with
    | none => rfl
    | some v' =>
      exfalso
      have h9 : (x_fx.all (fun q => !(q.1.1 == 19))) = true := by decide +kernel
      have h10 := List.all_eq_true.mp h9 _ (x_lookup_mem hx)
      simp at h10
  refine ⟨x_WF_up h1 hf, h2, h3, ⟨⟨k, ?_, g1'.ext he⟩, ?_, fun j hj => ?_, fun j hj => ?_, ?_, t_nokeyA hs g6⟩, h5.ext he⟩
  · rw [x_up2_off (Or.inl (by decide))]; exact g1
  · rw [x_up2_off (Or.inl (by decide))]; exact g2.ext he
  · by_cases hjm : j = m
    · subst hjm; rw [x_up2_at]; exact hv.ext he
    · rw [x_up2_off (Or.inr hjm)]; exact (g3 j hj).ext he
  · rw [x_up2_off (Or.inl (by decide))]; exact (g4 j hj).ext he
  · rw [x_up2_off (Or.inl (by decide))]; exact g5.ext he
theorem t_mk20 (h : t_I sh gi gr) {m : Nat} {v : Value} (hv : t_RuN sh gr v) : t_I sh gi (x_up2 gr 20 m v) := by
  obtain ⟨h1, h2, h3, ⟨⟨k, g1, g1'⟩, g2, g3, g4, g5, g6⟩, h5⟩ := h
  have hs : sh[20]? = some (.inr (6, 3)) := h1.s rfl
  have he : t_eqf sh gr (x_up2 gr 20 m v) := t_eqf_upA hs
  have hf : x_fixed 20 m = none := by
    cases hx : x_fixed 20 m with
    | none => rfl
    | some v' =>
      exfalso
      have h9 : (x_fx.all (fun q => !(q.1.1 == 20))) = true := by decide +kernel
      have h10 := List.all_eq_true.mp h9 _ (x_lookup_mem hx)
      simp at h10
  refine ⟨x_WF_up h1 hf, h2, h3, ⟨⟨k, ?_, g1'.ext he⟩, ?_, fun j hj => ?_, fun j hj => ?_, ?_, t_nokeyA hs g6⟩, h5.ext he⟩
  · rw [x_up2_off (Or.inl (by decide))]; exact g1
  · rw [x_up2_off (Or.inl (by decide))]; exact g2.ext he
  · rw [x_up2_off (Or.inl (by decide))]; exact (g3 j hj).ext he
  · by_cases hjm : j = m
    · subst hjm; rw [x_up2_at]; exact hv.ext he
    · rw [x_up2_off (Or.inr hjm)]; exact (g4 j hj).ext he
  · rw [x_up2_off (Or.inl (by decide))]; exact g5.ext he
variable {X : x_Ext} {d mi pc nx a b q len ml : Nat} {z : Int} {lo : x_Lo} {r : List Value} {P : Option Value → x_G → Prop} {T : List (Nat × x_Row)} {rt : Option FieldType} {gi0 : Nat → Nat → Int32} {gl gl0 : Nat → Nat → Int64} {gr0 : Nat → Nat → Value} {k t n k2 : Nat} {i : Int32} {wl : List (Nat × Nat)}
theorem ev_aastT {l u : Int} (F : x_F mi T ml rt) (hr : x_lk T pc = some (.aastore, len, a, b, q, z)) (hk : sh[k]? = some (.inr (t, n))) (ht : (decide (4 ≤ t) && decide (t < 7)) = true) (hk2 : sh[k2]? = some (.inl (x_eci t))) (a1 : l ≤ i.toInt) (h1 : decide (0 ≤ l) = true) (a2 : i.toInt ≤ u) (h2 : decide (u < (n : Int)) = true) (hn : pc + len = nx) (hI : t_I sh gi (x_up2 gr k i.toNatClampNeg (.ref k2))) (hX : t_X wl sh gi0 gl0 gr0 gi gl (x_up2 gr k i.toNatClampNeg (.ref k2))) (kk : ∀ g2, g2 = x_up2 gr k i.toNatClampNeg (.ref k2) → t_I sh gi g2 → t_X wl sh gi0 gl0 gr0 gi gl g2 → x_Ev X d mi nx lo r (sh, gi, gl, g2) P) : x_Ev X d mi pc lo (.ref k2 :: .int i :: .ref k :: r) (sh, gi, gl, gr) P := by
  have hi := t_idx a1 h1 a2 h2
  refine ev_heap F hr rfl ?_ hn (kk _ rfl hI hX)
  simp only [Bool.and_eq_true, decide_eq_true_eq] at ht
  have e1 : x_aty (sh, gi, gl, gr) k = t := by simp only [x_aty, hk]
  have e2 : x_stA (sh, gi, gl, gr) k i t (.ref k2) = some (sh, gi, gl, x_up2 gr k i.toNatClampNeg (.ref k2)) := by
    simp only [x_stA, hk]
    rw [if_pos ⟨trivial, x_ix hi.1 hi.2⟩]
    obtain rfl | rfl | rfl : t = 4 ∨ t = 5 ∨ t = 6 := by omega
    all_goals rfl
  show (if 4 ≤ x_aty (sh, gi, gl, gr) k ∧ x_aty (sh, gi, gl, gr) k < 7 ∧ sh[k2]? = some (.inl (x_eci (x_aty (sh, gi, gl, gr) k))) then (match x_stA (sh, gi, gl, gr) k i (x_aty (sh, gi, gl, gr) k) (.ref k2) with | some G' => some (r, G') | none => none) else none) = _
  rw [e1, if_pos ⟨ht.1, ht.2, hk2⟩, e2]
theorem ev_aastN {l u : Int} (F : x_F mi T ml rt) (hr : x_lk T pc = some (.aastore, len, a, b, q, z)) (hk : sh[k]? = some (.inr (t, n))) (ht : (decide (4 ≤ t) && decide (t < 7)) = true) (a1 : l ≤ i.toInt) (h1 : decide (0 ≤ l) = true) (a2 : i.toInt ≤ u) (h2 : decide (u < (n : Int)) = true) (hn : pc + len = nx) (hI : t_I sh gi (x_up2 gr k i.toNatClampNeg .null)) (hX : t_X wl sh gi0 gl0 gr0 gi gl (x_up2 gr k i.toNatClampNeg .null)) (kk : ∀ g2, g2 = x_up2 gr k i.toNatClampNeg .null → t_I sh gi g2 → t_X wl sh gi0 gl0 gr0 gi gl g2 → x_Ev X d mi nx lo r (sh, gi, gl, g2) P) : x_Ev X d mi pc lo (.null :: .int i :: .ref k :: r) (sh, gi, gl, gr) P := by
  have hi := t_idx a1 h1 a2 h2
  refine ev_heap F hr rfl ?_ hn (kk _ rfl hI hX)
  simp only [Bool.and_eq_true, decide_eq_true_eq] at ht
  have e1 : x_aty (sh, gi, gl, gr) k = t := by simp only [x_aty, hk]
  have e2 : x_stA (sh, gi, gl, gr) k i t .null = some (sh, gi, gl, x_up2 gr k i.toNatClampNeg .null) := by
    simp only [x_stA, hk]
    rw [if_pos ⟨trivial, x_ix hi.1 hi.2⟩]
    obtain rfl | rfl | rfl : t = 4 ∨ t = 5 ∨ t = 6 := by omega
    all_goals rfl
  show (if 4 ≤ x_aty (sh, gi, gl, gr) k ∧ x_aty (sh, gi, gl, gr) k < 7 then (match x_stA (sh, gi, gl, gr) k i (x_aty (sh, gi, gl, gr) k) .null with | some G' => some (r, G') | none => none) else none) = _
  rw [e1, if_pos ht, e2]
end TR5
theorem t_lenb {n : Nat} (h : n ≤ 300) : 0 ≤ (Int32.ofNat n).toInt ∧ (Int32.ofNat n).toInt ≤ 300 := by
  have e : (nI n).toInt = (n : Int) := nI_toInt (by omega)
  have e : (Int32.ofNat n).toInt = (n : Int) := e
  omega
theorem t_lenlt {x : Int32} {n : Nat} (h : x < Int32.ofNat n) (hn : n ≤ 300) : x.toInt < (n : Int) := by
  have e : (nI n).toInt = (n : Int) := nI_toInt (by omega)
  have e : (Int32.ofNat n).toInt = (n : Int) := e
  have := Int32.lt_iff_toInt_lt.mp h
  omega
theorem t_stl {x y : Int32} {n : Nat} (h : x < y) (hs : y.toInt ≤ (n : Int)) : x.toInt < (n : Int) := by
  have := Int32.lt_iff_toInt_lt.mp h
  omega
theorem t_ixs {i : Int32} {n : Nat} (l : 0 ≤ i.toInt) (h : i.toInt < (n : Int)) : ¬ i < 0 ∧ i.toNatClampNeg < n := by
  have h3 := t_clamp l
  refine ⟨fun q => ?_, by omega⟩
  have := Int32.lt_iff_toInt_lt.mp q
  have h0 : (0 : Int32).toInt = 0 := rfl
  omega
section TR6
variable {X : x_Ext} {d mi pc nx a b q len ml : Nat} {z : Int} {lo : x_Lo} {r : List Value} {P : Option Value → x_G → Prop} {T : List (Nat × x_Row)} {rt : Option FieldType} {sh : List (Nat ⊕ (Nat × Nat))} {gi gi0 : Nat → Nat → Int32} {gl gl0 : Nat → Nat → Int64} {gr gr0 : Nat → Nat → Value} {k n : Nat} {i : Int32} {wl : List (Nat × Nat)}
theorem ev_ialdS (F : x_F mi T ml rt) (hr : x_lk T pc = some (.iaload, len, a, b, q, z)) (hk : sh[k]? = some (.inr (0, n))) (hi : ¬ i < 0 ∧ i.toNatClampNeg < n) (hn : pc + len = nx) (kk : ∀ w : Int32, w = gi k i.toNatClampNeg → x_Ev X d mi nx lo (.int w :: r) (sh, gi, gl, gr) P) : x_Ev X d mi pc lo (.int i :: .ref k :: r) (sh, gi, gl, gr) P :=
  ev_iald F hr hk hi.1 hi.2 hn (kk _ rfl)
theorem ev_iastS {x : Int32} (F : x_F mi T ml rt) (hr : x_lk T pc = some (.iastore, len, a, b, q, z)) (hk : sh[k]? = some (.inr (0, n))) (hi : ¬ i < 0 ∧ i.toNatClampNeg < n) (hn : pc + len = nx) (hI : t_I sh (x_up2 gi k i.toNatClampNeg x) gr) (hX : t_X wl sh gi0 gl0 gr0 (x_up2 gi k i.toNatClampNeg x) gl gr) (kk : ∀ g2, g2 = x_up2 gi k i.toNatClampNeg x → t_I sh g2 gr → t_X wl sh gi0 gl0 gr0 g2 gl gr → x_Ev X d mi nx lo r (sh, g2, gl, gr) P) : x_Ev X d mi pc lo (.int x :: .int i :: .ref k :: r) (sh, gi, gl, gr) P :=
  ev_iast F hr hk hi.1 hi.2 hn (kk _ rfl hI hX)
end TR6
section TR7
variable {X : x_Ext} {d mi pc nx a b q len ml : Nat} {z : Int} {lo : x_Lo} {r : List Value} {G : x_G} {P : Option Value → x_G → Prop} {T : List (Nat × x_Row)} {rt : Option FieldType}
theorem ev_addC {x y : Int32} {c lx ux l u : Int} (F : x_F mi T ml rt) (hr : x_lk T pc = some (.iadd, len, a, b, q, z)) (hc : y.toInt = c) (a1 : lx ≤ x.toInt) (a2 : x.toInt ≤ ux) (hl : lx + c = l) (hu : ux + c = u) (h3 : decide (-2147483648 ≤ l) = true) (h4 : decide (u ≤ 2147483647) = true) (hn : pc + len = nx) (kk : ∀ w : Int32, w.toInt = x.toInt + c → l ≤ w.toInt → w.toInt ≤ u → x_Ev X d mi nx lo (.int w :: r) G P) : x_Ev X d mi pc lo (.int y :: .int x :: r) G P := by
  subst hc
  exact ev_addR F hr a1 a2 (Int.le_refl _) (Int.le_refl _) hl hu h3 h4 hn kk
theorem ev_addK {x y : Int32} {c lx ux l u : Int} (F : x_F mi T ml rt) (hr : x_lk T pc = some (.iadd, len, a, b, q, z)) (hc : x.toInt = c) (a1 : lx ≤ y.toInt) (a2 : y.toInt ≤ ux) (hl : c + lx = l) (hu : c + ux = u) (h3 : decide (-2147483648 ≤ l) = true) (h4 : decide (u ≤ 2147483647) = true) (hn : pc + len = nx) (kk : ∀ w : Int32, w.toInt = c + y.toInt → l ≤ w.toInt → w.toInt ≤ u → x_Ev X d mi nx lo (.int w :: r) G P) : x_Ev X d mi pc lo (.int y :: .int x :: r) G P := by
  subst hc
  exact ev_addR F hr (Int.le_refl _) (Int.le_refl _) a1 a2 hl hu h3 h4 hn kk
theorem ev_subC {x y : Int32} {c lx ux l u : Int} (F : x_F mi T ml rt) (hr : x_lk T pc = some (.isub, len, a, b, q, z)) (hc : y.toInt = c) (a1 : lx ≤ x.toInt) (a2 : x.toInt ≤ ux) (hl : lx - c = l) (hu : ux - c = u) (h3 : decide (-2147483648 ≤ l) = true) (h4 : decide (u ≤ 2147483647) = true) (hn : pc + len = nx) (kk : ∀ w : Int32, w.toInt = x.toInt - c → l ≤ w.toInt → w.toInt ≤ u → x_Ev X d mi nx lo (.int w :: r) G P) : x_Ev X d mi pc lo (.int y :: .int x :: r) G P := by
  subst hc
  exact ev_subR F hr a1 a2 (Int.le_refl _) (Int.le_refl _) hl hu h3 h4 hn kk
theorem ev_subK {x y : Int32} {c lx ux l u : Int} (F : x_F mi T ml rt) (hr : x_lk T pc = some (.isub, len, a, b, q, z)) (hc : x.toInt = c) (a1 : lx ≤ y.toInt) (a2 : y.toInt ≤ ux) (hl : c - ux = l) (hu : c - lx = u) (h3 : decide (-2147483648 ≤ l) = true) (h4 : decide (u ≤ 2147483647) = true) (hn : pc + len = nx) (kk : ∀ w : Int32, w.toInt = c - y.toInt → l ≤ w.toInt → w.toInt ≤ u → x_Ev X d mi nx lo (.int w :: r) G P) : x_Ev X d mi pc lo (.int y :: .int x :: r) G P := by
  subst hc
  exact ev_subR F hr (Int.le_refl _) (Int.le_refl _) a1 a2 hl hu h3 h4 hn kk
end TR7
theorem x_exec_dm {X : x_Ext} : ∀ (n d d' mi pc : Nat) (lo : x_Lo) (st : List Value) (G : x_G) (r : Option Value × x_G), d ≤ d' → x_exec X n d mi pc lo st G = some r → x_exec X n d' mi pc lo st G = some r := by
  intro n
  induction n with
  | zero => intro d d' mi pc lo st G r _ h; cases h
  | succ n ih =>
    intro d d' mi pc lo st G r hdd h
    unfold x_exec at h
    unfold x_exec
    split at h
    · cases h
    · next ins len a b q z hrow =>
      (try rw [hrow]); (try dsimp only)
      split at h
      · next hc =>
        (try rw [hc]); (try dsimp only)
        split at h
        · next hh => (try rw [hh]); exact ih _ _ _ _ _ _ _ _ hdd h
        · cases h
      · next hc =>
        (try rw [hc]); (try dsimp only)
        split at h
        · next hh => (try rw [hh]); exact ih _ _ _ _ _ _ _ _ hdd h
        · cases h
      · next hc =>
        (try rw [hc]); (try dsimp only)
        split at h
        · next hh => (try rw [hh]); exact ih _ _ _ _ _ _ _ _ hdd h
        · cases h
      · next hc =>
        (try rw [hc]); (try dsimp only)
        split at h
        · next hh => (try rw [hh]); exact ih _ _ _ _ _ _ _ _ hdd h
        · cases h
      · next hc =>
        (try rw [hc]); (try dsimp only)
        split at h
        · next ha =>
          (try rw [if_pos ha])
          split at h
          · split at h
            · next hd => (try rw [if_pos (And.intro (Nat.le_trans hd.1 hdd) hd.2)]); exact ih _ _ _ _ _ _ _ _ hdd h
            · cases h
          · cases h
        · next ha =>
          (try rw [if_neg ha])
          split at h
          · next ha1 =>
            (try rw [if_pos ha1])
            split at h
            · split at h
              · next e1 e2 =>
                (try rw [e1, e2]); (try dsimp only)
                split at h
                · next hd => (try rw [if_pos (And.intro hd.1 (And.intro hd.2.1 (And.intro (Nat.le_trans hd.2.2.1 hdd) hd.2.2.2)))]); exact ih _ _ _ _ _ _ _ _ hdd h
                · cases h
              · cases h
            · cases h
          · next ha1 =>
            (try rw [if_neg ha1])
            split at h
            · next ha2 =>
              (try rw [if_pos ha2])
              split at h
              · split at h
                · next hd => (try rw [if_pos (And.intro (Nat.le_trans hd.1 hdd) hd.2)]); exact ih _ _ _ _ _ _ _ _ hdd h
                · cases h
              · cases h
            · next ha2 =>
              (try rw [if_neg ha2])
              split at h
              · next hd =>
                (try rw [if_pos (And.intro (Nat.le_trans hd.1 hdd) hd.2)])
                split at h
                · next hh =>
                  rw [ih _ _ _ _ _ _ _ _ (Nat.sub_le_sub_right hdd 1) hh]; (try dsimp only)
                  exact ih _ _ _ _ _ _ _ _ hdd h
                · cases h
              · cases h
      · next h0 h1 h2 h3 h4 =>
        first
          | exact h
          | (split at h
             · next hh => (try rw [hh]); exact h
             · cases h)
/-- a deeper room does as well -/
theorem x_Ev.up {X : x_Ext} {d d' mi pc : Nat} {lo : x_Lo} {st : List Value} {G : x_G} {P : Option Value → x_G → Prop} (h : x_Ev X d mi pc lo st G P) (hd : d ≤ d') : x_Ev X d' mi pc lo st G P := by
  obtain ⟨n, v, G', h1, h2⟩ := h
  exact ⟨n, v, G', x_exec_dm _ _ _ _ _ _ _ _ _ hd h1, h2⟩
theorem x_Me.up {X : x_Ext} {d d' mi : Nat} {as : List Value} {G : x_G} {P : Option Value → x_G → Prop} (h : x_Me X d mi as G P) (hd : d ≤ d') : x_Me X d' mi as G P := ⟨h.1, h.2.1, h.2.2.up hd⟩
theorem t_lo (x : Int32) : -2147483648 ≤ x.toInt := by have := Int32.le_toInt x; omega
theorem ev_swld {X : x_Ext} {d mi pc nx a b q len ml : Nat} {z : Int} {lo : x_Lo} {r : List Value} {G : x_G} {P : Option Value → x_G → Prop} {T : List (Nat × x_Row)} {rt : Option FieldType} {x : Int32} {d0 : Int} {ps : Array (Int × Int)} {ks : List Int} (F : x_F mi T ml rt) (hr : x_lk T pc = some (.lookupswitch d0 ps, len, a, b, q, z)) (hks : ps.toList.map (fun q => q.1) = ks) (hs : (ps.toList.zip (ps.toList.drop 1)).all (fun (a, next) => a.1 < next.1) = true) (hp : decide (0 ≤ (pc : Int) + d0) = true) (hn : ((pc : Int) + d0).toNat = nx) (h : ∀ k ∈ ks, k ≠ x.toInt) (kk : x_Ev X d mi nx lo r G P) : x_Ev X d mi pc lo (.int x :: r) G P := by
  have hf : ps.toList.find? (fun q => q.1 == x.toInt) = none := List.find?_eq_none.mpr (fun q hq => by
    have := h q.1 (by rw [← hks]; exact List.mem_map_of_mem hq)
    simpa using this)
  refine ev_jmp F hr rfl ?_ kk
  show (if (ps.toList.zip (ps.toList.drop 1)).all (fun (a, next) => a.1 < next.1) = true ∧ 0 ≤ (pc : Int) + Op.lookupswitch.offset ps.toList d0 x.toInt then some (((pc : Int) + Op.lookupswitch.offset ps.toList d0 x.toInt).toNat, r) else none) = _
  rw [Op.lookupswitch.offset_none hf, if_pos ⟨hs, of_decide_eq_true hp⟩, hn]
