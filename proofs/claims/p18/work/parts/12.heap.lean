/-! ===== the shadow machine: the heap ===== -/
/-- the words that hold for whoever is called -/
noncomputable abbrev x_gw : List Cond := x_gw0
noncomputable def x_nr : Value → Value | .ref k => .ref k | .retAddr i => .retAddr i | _ => .null
theorem x_nr_isR {v : Value} (h : x_isR v = true) : x_nr v = v := by cases v <;> first | rfl | cases h
theorem x_nr_R (v : Value) : x_isR (x_nr v) = true := by cases v <;> rfl
theorem x_cv_R {bs : Nat} {xa : Nat → Option Nat} {v : Value} (h : x_isR v = true) : x_cv bs xa v = va_rf (x_ro bs xa v) := by
  cases v <;> first | rfl | cases h
noncomputable def x_toI : Value → Int32 | .int x => x | _ => 0
noncomputable def x_toL : Value → Int64 | .long x => x | _ => 0
/-- what a place holds at a slot, by the slot's type -/
noncomputable def x_fv (G : x_G) (k j : Nat) : FieldType → Value
  | .long => .long (G.2.2.1 k j)
  | .object _ => x_nr (G.2.2.2 k j)
  | .array _ => x_nr (G.2.2.2 k j)
  | _ => .int (G.2.1 k j)
noncomputable def x_up2 {α : Type} (f : Nat → Nat → α) (k j : Nat) (x : α) : Nat → Nat → α := fun a => if a = k then (fun b => if b = j then x else f k b) else f a
noncomputable def x_clr {α : Type} (f : Nat → Nat → α) (k : Nat) (d : α) : Nat → Nat → α := fun a => if a = k then (fun _ => d) else f a
theorem x_up2_same {α : Type} (f : Nat → Nat → α) (k j : Nat) (x : α) : x_up2 f k j x k = fun b => if b = j then x else f k b := if_pos rfl
theorem x_up2_at {α : Type} (f : Nat → Nat → α) (k j : Nat) (x : α) : x_up2 f k j x k j = x := by simp [x_up2]
theorem x_up2_ne {α : Type} {f : Nat → Nat → α} {k j a : Nat} {x : α} (h : a ≠ k) : x_up2 f k j x a = f a := if_neg h
theorem x_up2_off {α : Type} {f : Nat → Nat → α} {k j a b : Nat} {x : α} (h : a ≠ k ∨ b ≠ j) : x_up2 f k j x a b = f a b := by
  unfold x_up2
  by_cases ha : a = k
  · subst ha; rcases h with h | h
    · exact absurd rfl h
    · simp [h]
  · simp [ha]
theorem x_clr_ne {α : Type} {f : Nat → Nat → α} {k a : Nat} {d : α} (h : a ≠ k) : x_clr f k d a = f a := if_neg h
/-- a value comes to a slot of that type -/
noncomputable def x_put (G : x_G) (k j : Nat) (ty : FieldType) (v : Value) : x_G := match ty with
  | .long => (G.1, G.2.1, x_up2 G.2.2.1 k j (x_toL v), G.2.2.2)
  | .object _ => (G.1, G.2.1, G.2.2.1, x_up2 G.2.2.2 k j v)
  | .array _ => (G.1, G.2.1, G.2.2.1, x_up2 G.2.2.2 k j v)
  | _ => (G.1, x_up2 G.2.1 k j (x_toI v), G.2.2.1, G.2.2.2)
/-- may it? -/
noncomputable def x_fit : FieldType → Value → Bool
  | .int, .int _ => true
  | .long, .long _ => true
  | .object _, v => x_isR v
  | .array _, v => x_isR v
  | .boolean, .int x => decide (narrow .boolean (.int x) = .int x) && fits .boolean (.int x)
  | .byte, .int x => decide (narrow .byte (.int x) = .int x) && fits .byte (.int x)
  | .char, .int x => decide (narrow .char (.int x) = .int x) && fits .char (.int x)
  | .short, .int x => decide (narrow .short (.int x) = .int x) && fits .short (.int x)
  | _, _ => false
theorem x_fit_narrow {bs : Nat} {xa : Nat → Option Nat} {ty : FieldType} {v : Value} (h : x_fit ty v = true) : narrow ty (x_cv bs xa v) = x_cv bs xa v ∧ fits ty (x_cv bs xa v) = true := by
  have hr : ∀ v : Value, x_isR v = true → x_cv bs xa v = .null ∨ ∃ a, x_cv bs xa v = .ref a := by
    intro v hv
    rw [x_cv_R hv]
    cases x_ro bs xa v with
    | none => exact Or.inl rfl
    | some a => exact Or.inr ⟨a, rfl⟩
  unfold x_fit at h
  split at h
  case _ => exact ⟨rfl, rfl⟩
  case _ => exact ⟨rfl, rfl⟩
  case _ => rcases hr _ h with e | ⟨a, e⟩ <;> rw [e] <;> exact ⟨rfl, rfl⟩
  case _ => rcases hr _ h with e | ⟨a, e⟩ <;> rw [e] <;> exact ⟨rfl, rfl⟩
  case _ => simp only [Bool.and_eq_true, decide_eq_true_eq] at h; exact h
  case _ => simp only [Bool.and_eq_true, decide_eq_true_eq] at h; exact h
  case _ => simp only [Bool.and_eq_true, decide_eq_true_eq] at h; exact h
  case _ => simp only [Bool.and_eq_true, decide_eq_true_eq] at h; exact h
  case _ => cases h
theorem x_put_1 (G : x_G) (k j : Nat) (ty : FieldType) (v : Value) : (x_put G k j ty v).1 = G.1 := by cases ty <;> rfl
theorem x_fv_put {G : x_G} {k j : Nat} {ty : FieldType} {v : Value} (h : x_fit ty v = true) : x_fv (x_put G k j ty v) k j ty = v := by
  unfold x_fit at h
  split at h
  case _ => simp [x_fv, x_put, x_up2_at, x_toI]
  case _ => simp [x_fv, x_put, x_up2_at, x_toL]
  case _ => simp only [x_fv, x_put, x_up2_at]; exact x_nr_isR h
  case _ => simp only [x_fv, x_put, x_up2_at]; exact x_nr_isR h
  case _ => simp [x_fv, x_put, x_up2_at, x_toI]
  case _ => simp [x_fv, x_put, x_up2_at, x_toI]
  case _ => simp [x_fv, x_put, x_up2_at, x_toI]
  case _ => simp [x_fv, x_put, x_up2_at, x_toI]
  case _ => cases h
theorem x_fv_off {G : x_G} {k j a b : Nat} {ty ty' : FieldType} {v : Value} (h : a ≠ k ∨ b ≠ j) : x_fv (x_put G k j ty v) a b ty' = x_fv G a b ty' := by
  cases ty <;> cases ty' <;> simp only [x_fv, x_put, x_up2_off h]
/-- the types of arrays' elements -/
noncomputable def x_ety : Nat → FieldType | 0 => .int | 1 => .long | 2 => .byte | 3 => .boolean | 4 => .object RX10 | 5 => .object RX5 | _ => .object RX7
noncomputable abbrev x_Ad : Type := va_G × (Nat → ClassId) × Nat × (Nat → Option Nat)
/-- a place's cell, as the heap holds it -/
noncomputable def x_at (E : x_Ad) (G : x_G) (H : Heap) (k : Nat) : Nat ⊕ (Nat × Nat) → Prop
  | .inl ci => t_OB (E.2.2.1 + k) (E.1.1 ci) (x_fty ci).length (E.1.2 ci) H (fun j => x_cv E.2.2.1 E.2.2.2 (x_fv G k j ((x_fty ci).getD j .int)))
  | .inr (t, n) => H[E.2.2.1 + k]? = some (arrV (E.2.1 t) n (fun j => x_cv E.2.2.1 E.2.2.2 (x_fv G k j (x_ety t))))
noncomputable def x_HR (E : x_Ad) (G : x_G) (H : Heap) : Prop := H.size = E.2.2.1 + G.1.length ∧ ∀ k sh, G.1[k]? = some sh → x_at E G H k sh
/-- what is known of the tables -/
noncomputable def x_KA (E : x_Ad) (U : State) : Prop := (∀ ci q, vwCl[ci]? = some q → u_Kn U q.1 q.2.1 q.2.2 (E.1.1 ci) (E.1.2 ci)) ∧ ∀ t, t < 7 → ArrOfT U (E.2.1 t) (x_ety t) ∧ va_RA U (E.2.1 t) (x_ety t)
theorem x_KA.moved {E : x_Ad} {u U : State} (hvm : u.vm.Alike U.vm) (h : x_KA E u) : x_KA E U := ⟨fun ci q hq => u_Kn_moved hvm (h.1 ci q hq), fun t ht => ⟨arrOfT_moved hvm (h.2 t ht).1, (h.2 t ht).2.moved hvm⟩⟩
/-- what a class's rows of the tables say -/
noncomputable def x_CI (ci : Nat) (C : String) (T : u_T) (N : Nat) : Prop := vwCl[ci]? = some (C, T, N) ∧ (x_fty ci).length = N ∧ (∀ k, k < N → parseFieldDescriptor (T k).2.2.1 = some ((x_fty ci).getD k .int)) ∧ (∀ a, a < N → ∀ b, b < N → a ≠ b → (T a).2.1 ≠ (T b).2.1) ∧ ∀ w ∈ u_ws C T N, w ∈ x_gw
theorem x_at_kept {E : x_Ad} {G G' : x_G} {H H1 : Heap} {k : Nat} {sh : Nat ⊕ (Nat × Nat)} (h : x_at E G H k sh) (hq : H1[E.2.2.1 + k]? = H[E.2.2.1 + k]?) (hG : ∀ j ty, x_fv G' k j ty = x_fv G k j ty) : x_at E G' H1 k sh := by
  rcases sh with ci | ⟨t, n⟩
  · exact (t_OB.kept h hq).to (fun j _ => by rw [hG])
  · show H1[_]? = _
    rw [hq]
    exact h.trans (by simp only [hG])
theorem x_HR_put {E : x_Ad} {G : x_G} {H H1 : Heap} {k j : Nat} {ty : FieldType} {v : Value} {sh : Nat ⊕ (Nat × Nat)} (h : x_HR E G H) (hsh : G.1[k]? = some sh) (hz : H1.size = H.size) (ho : ∀ q, q ≠ E.2.2.1 + k → H1[q]? = H[q]?) (ha : x_at E (x_put G k j ty v) H1 k sh) : x_HR E (x_put G k j ty v) H1 := by
  refine ⟨by rw [hz, h.1, x_put_1], fun a sh' hs => ?_⟩
  rw [x_put_1] at hs
  by_cases hak : a = k
  · subst hak
    rw [hsh] at hs
    cases hs
    exact ha
  · exact x_at_kept (h.2 a sh' hs) (ho _ (by omega)) (fun j' ty' => x_fv_off (Or.inl hak))
/-- a new cell behind all others, with zeros -/
noncomputable def x_new (G : x_G) (sh : Nat ⊕ (Nat × Nat)) : x_G := (G.1 ++ [sh], x_clr G.2.1 G.1.length 0, x_clr G.2.2.1 G.1.length 0, x_clr G.2.2.2 G.1.length .null)
theorem x_fv_new {G : x_G} {sh : Nat ⊕ (Nat × Nat)} {k j : Nat} {ty : FieldType} (h : k ≠ G.1.length) : x_fv (x_new G sh) k j ty = x_fv G k j ty := by
  cases ty <;> simp only [x_fv, x_new, x_clr_ne h]
theorem x_fv_new0 {G : x_G} {sh : Nat ⊕ (Nat × Nat)} {j : Nat} {ty : FieldType} (h : ty ≠ .float) (h2 : ty ≠ .double) : x_fv (x_new G sh) G.1.length j ty = defaultValue ty := by
  cases ty <;> simp_all [x_fv, x_new, x_clr, defaultValue, x_nr]
theorem x_HR_new {E : x_Ad} {G : x_G} {H H1 : Heap} {sh : Nat ⊕ (Nat × Nat)} (h : x_HR E G H) (hz : H1.size = H.size + 1) (ho : ∀ q, q < H.size → H1[q]? = H[q]?) (ha : x_at E (x_new G sh) H1 G.1.length sh) : x_HR E (x_new G sh) H1 := by
  refine ⟨by rw [hz, h.1]; simp [x_new]; omega, fun a sh' hs => ?_⟩
  by_cases hal : a < G.1.length
  · rw [show (x_new G sh).1 = G.1 ++ [sh] from rfl, List.getElem?_append_left hal] at hs
    exact x_at_kept (h.2 a sh' hs) (ho _ (by rw [h.1]; omega)) (fun j' ty' => x_fv_new (by omega))
  · rw [show (x_new G sh).1 = G.1 ++ [sh] from rfl, List.getElem?_append_right (by omega)] at hs
    have hz : a - G.1.length < 1 := (List.getElem?_eq_some_iff.mp hs).1
    have ha' : a = G.1.length := by omega
    subst ha'
    rw [Nat.sub_self] at hs
    cases hs
    exact ha
section XHEAP
variable {p : Program} {l : Launch} {e : Env} {R : Room} {s : State} {m : MethodId} {args : Array Value} {below : List Frame} {meth : Method} {c : Code} {H : Heap} {locs : List Loc} {cells slots : Nat} {Q : State → Prop}
variable {cc : ByteArray} {pc : Nat} {ls : Array Slot} {rest : List Value} {E : x_Ad} {G : x_G}
theorem x_getf (hx : p.tables.exec = Jvm.exec) (hb : c.code = cc) (hts : ∀ w ∈ x_gw, w.before args s = true) {own C : String} {T : u_T} {N ci index k j : Nat} (hC : x_CI ci C T N) (hown : s.vm.findClass own = some m.cls) (hK : x_KA E s) (hH : x_HR E G H) (hk : G.1[k]? = some (.inl ci)) (hj : j < N)
    (hlink : (Cond.fieldLink own index (T j).1 (T j).2.1 (T j).2.2.1).before args s = true ∨ ∃ host, (Cond.fieldLinkNest own index (T j).1 (T j).2.1 (T j).2.2.1 host).before args s = true) (hdg : decode cc pc = .ok (.getfield index, 3))
    (kk : W p l e R s m args below meth c H locs cells slots Q (F0 m (pc + 3) ls (x_cv E.2.2.1 E.2.2.2 (x_fv G k j ((x_fty ci).getD j .int)) :: rest))) : W p l e R s m args below meth c H locs cells slots Q (F0 m pc ls (.ref (E.2.2.1 + k) :: rest)) := by
  obtain ⟨hc, hN, -, -, hin⟩ := hC
  obtain ⟨cell, q1, q2, q3, q4⟩ := hH.2 k _ hk
  obtain ⟨hS, hfc, kC, hkC, hkind⟩ := hK.1 ci _ hc
  obtain ⟨cf, kf, fi, f, hi, hsl⟩ := hS j hj
  have h1 : cell.vm ≠ .unknown := by rw [q3]; exact fun h => by cases h
  have h2 := q4 j (by rw [hN]; exact hj)
  rw [← hsl] at h2
  rcases hlink with hlink | ⟨host, hlink⟩
  · exact W.getf hx hb hown hlink hi (u_facts hfc hkC (u_lays hts hin hj) hi).1 q1 h1 h2 rfl rfl hdg kk
  · exact va_Wgetf hx hb hown hlink hi (u_facts hfc hkC (u_lays hts hin hj) hi).1 q1 h1 h2 rfl rfl hdg kk
theorem x_putf (hx : p.tables.exec = Jvm.exec) (hb : c.code = cc) (hts : ∀ w ∈ x_gw, w.before args s = true) {own C : String} {T : u_T} {N ci index k j : Nat} {v : Value} (hC : x_CI ci C T N) (hown : s.vm.findClass own = some m.cls) (hK : x_KA E s) (hH : x_HR E G H) (hk : G.1[k]? = some (.inl ci)) (hj : j < N)
    (hfit : x_fit ((x_fty ci).getD j .int) v = true)
    (hlink : ((T j).2.2.2 = false ∧ ((Cond.fieldLink own index (T j).1 (T j).2.1 (T j).2.2.1).before args s = true ∨ ∃ host, (Cond.fieldLinkNest own index (T j).1 (T j).2.1 (T j).2.2.1 host).before args s = true)) ∨ ((T j).2.2.2 = true ∧ meth.name = "<init>" ∧ (T j).1 = own ∧ (Cond.fieldLink own index (T j).1 (T j).2.1 (T j).2.2.1).before args s = true)) (hdg : decode cc pc = .ok (.putfield index, 3))
    (kk : ∀ (H1 : Heap) (z : Loc), z.base = E.2.2.1 + k → x_HR E (x_put G k j ((x_fty ci).getD j .int) v) H1 → (∀ q, q < E.2.2.1 → H1[q]? = H[q]?) → W p l e R s m args below meth c H1 (locs ++ [z]) cells slots Q (F0 m (pc + 3) ls rest)) : W p l e R s m args below meth c H locs cells slots Q (F0 m pc ls (x_cv E.2.2.1 E.2.2.2 v :: .ref (E.2.2.1 + k) :: rest)) := by
  obtain ⟨hc, hN, hty, hnm, hin⟩ := hC
  have hap := va_apart (own := own) (tys := []) hts hin (fun k => (x_fty ci).getD k .int) hty hnm (D := E.1) ⟨hK.1, fun k q h => by simp at h⟩ hc
  obtain ⟨cell, q1, q2, q3, q4⟩ := hH.2 k _ hk
  obtain ⟨hS, hfc, kC, hkC, hkind⟩ := hK.1 ci _ hc
  obtain ⟨cf, kf, fi, f, hi, hsl⟩ := hS j hj
  have hst := (u_facts hfc hkC (u_lays hts hin hj) hi).1
  obtain ⟨hn, hf⟩ := x_fit_narrow (bs := E.2.2.1) (xa := E.2.2.2) hfit
  have hlt : f.slot < cell.slots.size := by rw [hsl]; exact k2_hasslot (q4 j (by rw [hN]; exact hj))
  have key : ∀ H1 : Heap, H1[E.2.2.1 + k]? = some (cell.setSlot f.slot (x_cv E.2.2.1 E.2.2.2 v)) → H1.size = H.size → (∀ q, q ≠ E.2.2.1 + k → H1[q]? = H[q]?) → x_HR E (x_put G k j ((x_fty ci).getD j .int) v) H1 := by
    intro H1 e1 e2 e3
    rw [hsl] at e1
    refine x_HR_put hH hk e2 e3 ?_
    refine ⟨_, e1, q2, q3, fun a ha => ?_⟩
    rw [t_set q4 (fun a b ha hb => hap a b (by rw [← hN]; exact ha) (by rw [← hN]; exact hb)) (by rw [hN]; exact hj) _ a ha]
    congr 1
    unfold updV
    by_cases haj : a = j
    · subst haj
      rw [if_pos rfl]; dsimp only; rw [x_fv_put hfit]
    · rw [if_neg haj]; dsimp only; rw [x_fv_off (Or.inr haj)]
  have hlow : ∀ H1 : Heap, (∀ q, q ≠ E.2.2.1 + k → H1[q]? = H[q]?) → ∀ q, q < E.2.2.1 → H1[q]? = H[q]? := fun H1 h q hq => h q (by omega)
  rcases hlink with ⟨hfin, hlink⟩ | ⟨hfin, hin2, hdecl, hlink⟩
  · have hlay := hts _ (hin _ (u_in_lay hj))
    unfold u_lay at hlay
    rw [if_neg (by rw [hfin]; decide)] at hlay
    have h6 := u_store hfc hkC hkind hlay hi (hty j hj) hn hf
    rcases hlink with hlink | ⟨host, hlink⟩
    · exact W.putK hx hb (f := f) ⟨hown, hlink, ⟨_, _, _, hi⟩, hst⟩ (by rw [q2]; exact h6) q1 q3 hlt rfl rfl hdg fun H' e1 e2 e3 => kk H' _ rfl (key H' e1 e2 e3) (hlow H' e3)
    · exact va_WputK hx hb (f := f) hown hlink hi hst (by rw [q2]; exact h6) q1 q3 hlt rfl rfl hdg fun H' e1 e2 e3 => kk H' _ rfl (key H' e1 e2 e3) (hlow H' e3)
  · have hlay := hts _ (hin _ (u_in_lay hj))
    unfold u_lay at hlay
    rw [if_pos hfin] at hlay
    have hcf : m.cls = cf := by
      obtain ⟨_, _, c', _, _, _, -, -, hf', -, -, -, hown2, -⟩ := Cond.laysFinal_spec hlay
      have e1 : c' = cf := by have := hi.symm.trans hf'; simp at this; exact this.1.symm
      rw [hdecl] at hown2
      rw [← e1]; exact Option.some.inj (hown.symm.trans hown2)
    have h6 := u_fits hfc hkC hkind (Or.inr hlay) hi (hty j hj) hn hf
    exact W.putFinK hx hb hown hlink hi hst hcf hin2 (by rw [q2]; exact h6) q1 q3 hlt rfl rfl hdg fun H' e1 e2 e3 => kk H' _ rfl (key H' e1 e2 e3) (hlow H' e3)
end XHEAP
