/-! ===== rules over typed worlds: branches, switches, odds and ends ===== -/
theorem t_irr (x : Int32) : ¬ x < x := by rw [Int32.lt_iff_toInt_lt]; omega
theorem t_lerf (x : Int32) : x ≤ x := by rw [Int32.le_iff_toInt_le]; omega
theorem t_nel {x y : Int32} {u v : Int} (h : ¬ x = y) (hx : y.toInt ≤ x.toInt) (hy : y.toInt = u) (hv : u + 1 = v) : v ≤ x.toInt := by
  have : x.toInt ≠ y.toInt := fun e => h (Int32.toInt_inj.mp e)
  omega
theorem t_neu {x y : Int32} {u v : Int} (h : ¬ x = y) (hx : x.toInt ≤ y.toInt) (hy : y.toInt = u) (hv : u - 1 = v) : x.toInt ≤ v := by
  have : x.toInt ≠ y.toInt := fun e => h (Int32.toInt_inj.mp e)
  omega
theorem t_cl1 {i : Int32} {l : Int} {p : Nat} (a1 : l ≤ i.toInt) (h : decide ((p : Int) ≤ l) = true) : p ≤ i.toNatClampNeg := by
  have h := of_decide_eq_true h
  have := t_clamp (i := i) (by omega)
  omega
theorem t_cl2 {i : Int32} {l u : Int} {m : Nat} (a1 : l ≤ i.toInt) (a2 : i.toInt ≤ u) (h0 : decide (0 ≤ l) = true) (h : decide (u ≤ (m : Int)) = true) : i.toNatClampNeg ≤ m := by
  have h := of_decide_eq_true h
  have h0 := of_decide_eq_true h0
  have := t_clamp (i := i) (by omega)
  omega
theorem t_rz {x : Int32} (l0 : 0 ≤ x.toInt) (u1 : x.toInt ≤ 1) : x_ret (some .boolean) .ireturn [.int x] = some (some (.int x)) := by
  have h : x = 0 ∨ x = 1 := by
    have h : x.toInt = 0 ∨ x.toInt = 1 := by omega
    exact h.imp (fun h => Int32.toInt_inj.mp h) (fun h => Int32.toInt_inj.mp h)
  exact if_pos h
theorem t_known {v : Value} (h : t_KwN v) : x_known v = true := by
  rcases h with rfl | ⟨i, rfl, hi⟩
  · rfl
  · simp [x_known]; omega
theorem t_KwR {v : Value} (h : t_KwN v) : x_isR v = true := by
  rcases h with rfl | ⟨i, rfl, hi⟩
  · rfl
  · rfl
def t_Ty (sh : List (Nat ⊕ (Nat × Nat))) (gr : Nat → Nat → Value) (k : Nat) : Prop := sh[k]? = some (.inl 9) ∧ t_ar sh gr k 0 1 60
section TR3
variable {X : x_Ext} {d mi pc nx a b q len ml : Nat} {z : Int} {ins : Instr} {lo lo' : x_Lo} {st st' r : List Value} {G : x_G} {P : Option Value → x_G → Prop} {T : List (Nat × x_Row)} {rt : Option FieldType}
theorem ev_swt {x : Int32} {d0 l0 h0 c : Int} {offs : Array Int} (F : x_F mi T ml rt) (hr : T.lookup pc = some (.tableswitch d0 l0 h0 offs, len, a, b, q, z)) (hx : x.toInt = c) (hs : (if c < l0 ∨ h0 < c then (if 0 ≤ (pc : Int) + d0 then some ((pc : Int) + d0).toNat else none) else match offs.toList[(c - l0).toNat]? with | some o => if 0 ≤ (pc : Int) + o then some ((pc : Int) + o).toNat else none | none => none) = some nx) (kk : x_Ev X d mi nx lo r G P) : x_Ev X d mi pc lo (.int x :: r) G P := by
  refine ev_jmp F hr rfl ?_ kk
  subst hx
  show (if x.toInt < l0 ∨ h0 < x.toInt then (if 0 ≤ (pc : Int) + d0 then some (((pc : Int) + d0).toNat, r) else none) else match offs.toList[(x.toInt - l0).toNat]? with | some o => if 0 ≤ (pc : Int) + o then some (((pc : Int) + o).toNat, r) else none | none => none) = _
  split at hs
  · next h1 =>
    rw [if_pos h1]
    split at hs
    · next h2 => rw [if_pos h2]; cases hs; rfl
    · cases hs
  · next h1 =>
    rw [if_neg h1]
    split at hs
    · next o ho =>
      split at hs
      · next h2 => rw [ho]; dsimp only; rw [if_pos h2]; cases hs; rfl
      · cases hs
    · cases hs
theorem ev_swtd {x : Int32} {d0 l0 h0 : Int} {offs : Array Int} (F : x_F mi T ml rt) (hr : T.lookup pc = some (.tableswitch d0 l0 h0 offs, len, a, b, q, z)) (h : x.toInt < l0 ∨ h0 < x.toInt) (hp : 0 ≤ (pc : Int) + d0) (hn : ((pc : Int) + d0).toNat = nx) (kk : x_Ev X d mi nx lo r G P) : x_Ev X d mi pc lo (.int x :: r) G P := ev_swd F hr h hp hn kk
theorem ev_swl {x : Int32} {d0 c : Int} {ps : Array (Int × Int)} (F : x_F mi T ml rt) (hr : T.lookup pc = some (.lookupswitch d0 ps, len, a, b, q, z)) (hx : x.toInt = c) (hs : (if (ps.toList.zip (ps.toList.drop 1)).all (fun (a, next) => a.1 < next.1) = true ∧ 0 ≤ (pc : Int) + Op.lookupswitch.offset ps.toList d0 c then some ((pc : Int) + Op.lookupswitch.offset ps.toList d0 c).toNat else none) = some nx) (kk : x_Ev X d mi nx lo r G P) : x_Ev X d mi pc lo (.int x :: r) G P := by
  refine ev_jmp F hr rfl ?_ kk
  subst hx
  show (if (ps.toList.zip (ps.toList.drop 1)).all (fun (a, next) => a.1 < next.1) = true ∧ 0 ≤ (pc : Int) + Op.lookupswitch.offset ps.toList d0 x.toInt then some (((pc : Int) + Op.lookupswitch.offset ps.toList d0 x.toInt).toNat, r) else none) = _
  split at hs
  · next h1 => rw [if_pos h1]; cases hs; rfl
  · cases hs
theorem ev_nul {v : Value} {t1 t2 : Nat} (F : x_F mi T ml rt) (hr : T.lookup pc = some (ins, len, a, b, q, z)) (hc : x_cat ins = 2) (hs : x_br a pc ins (v :: r) = if x_known v = true then some (if v = .null then t1 else t2, r) else none) (hv : x_known v = true) (k1 : v = .null → x_Ev X d mi t1 lo r G P) (k2 : ¬ v = .null → x_Ev X d mi t2 lo r G P) : x_Ev X d mi pc lo (v :: r) G P := by
  rw [if_pos hv] at hs
  exact ev_if F hr hc hs k1 k2
theorem ev_ack {v w : Value} {t1 t2 : Nat} (F : x_F mi T ml rt) (hr : T.lookup pc = some (ins, len, a, b, q, z)) (hc : x_cat ins = 2) (hs : x_br a pc ins (w :: v :: r) = if x_known v = true ∧ x_known w = true then some (if v = w then t1 else t2, r) else none) (hv : x_known v = true) (hw : x_known w = true) (k1 : v = w → x_Ev X d mi t1 lo r G P) (k2 : ¬ v = w → x_Ev X d mi t2 lo r G P) : x_Ev X d mi pc lo (w :: v :: r) G P := by
  rw [if_pos ⟨hv, hw⟩] at hs
  exact ev_if F hr hc hs k1 k2
theorem ev_ackT {v w : Value} {t1 t2 : Nat} (F : x_F mi T ml rt) (hr : T.lookup pc = some (ins, len, a, b, q, z)) (hc : x_cat ins = 2) (hs : x_br a pc ins (w :: v :: r) = if x_known v = true ∧ x_known w = true then some (if v = w then t1 else t2, r) else none) (hv : x_known v = true) (hw : x_known w = true) (h : v = w) (k1 : x_Ev X d mi t1 lo r G P) : x_Ev X d mi pc lo (w :: v :: r) G P := ev_ack F hr hc hs hv hw (fun _ => k1) (fun n => absurd h n)
theorem ev_ackF {v w : Value} {t1 t2 : Nat} (F : x_F mi T ml rt) (hr : T.lookup pc = some (ins, len, a, b, q, z)) (hc : x_cat ins = 2) (hs : x_br a pc ins (w :: v :: r) = if x_known v = true ∧ x_known w = true then some (if v = w then t1 else t2, r) else none) (hv : x_known v = true) (hw : x_known w = true) (h : ¬ v = w) (k2 : x_Ev X d mi t2 lo r G P) : x_Ev X d mi pc lo (w :: v :: r) G P := ev_ack F hr hc hs hv hw (fun n => absurd n h) (fun _ => k2)
end TR3
section TR4
variable {sh : List (Nat ⊕ (Nat × Nat))} {gr gr' : Nat → Nat → Value}
theorem t_Tk.ext {k : Nat} (h : t_Tk sh gr k) (he : t_eqf sh gr gr') : t_Tk sh gr' k := ⟨h.1, by rw [he k 8 0 h.1 rfl]; exact h.2⟩
theorem t_RR.ext {k : Nat} (h : t_RR sh gr k) (he : t_eqf sh gr gr') : t_RR sh gr' k := by
  obtain ⟨h0, ⟨a, h1, h2⟩, ⟨b, h3, h4⟩, h5, h6⟩ := h
  exact ⟨h0, ⟨a, by rw [he k 5 0 h0 rfl]; exact h1, h2.ext he⟩, ⟨b, by rw [he k 5 1 h0 rfl]; exact h3, h4.ext he⟩, h5.ext h0 rfl he, h6.ext h0 rfl he⟩
theorem t_RL.ext {k : Nat} (h : t_RL sh gr k) (he : t_eqf sh gr gr') : t_RL sh gr' k := by
  obtain ⟨h0, ⟨a, h1, h2⟩, b, h3, h4⟩ := h
  exact ⟨h0, ⟨a, by rw [he k 7 0 h0 rfl]; exact h1, h2.ext he⟩, b, by rw [he k 7 1 h0 rfl]; exact h3, h4.ext he⟩
theorem t_Ty.ext {k : Nat} (h : t_Ty sh gr k) (he : t_eqf sh gr gr') : t_Ty sh gr' k := ⟨h.1, h.2.ext h.1 rfl he⟩
end TR4
