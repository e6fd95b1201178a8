noncomputable def R_law : String := "HornBridgeLaw"
noncomputable def lw_P (b : Addr) (xs : List Int32) (args : Array Value) (s : State) : Prop := args = #[.ref b] ∧ s.IntsAt b xs ∧ xs.length ≤ 3072 ∧ (Jvm.Cond.and given_1 narrow_1).before args s = true
noncomputable def lw_Q (_ : Array Value) (s : State) (o : Outcome) (t : State) : Prop := o = .returned (some (.int 1)) ∧ Framed s o t [] 600000 7302250
noncomputable def lw_Z (below : List Frame) (a : Array Value) (s : State) : State → Prop := fun t => ∃ o, t.status = .running ∧ Ended t below o ∧ lw_Q a s o t
/-- the law's own end, with 1 on the stack, nothing written that was there before, its room as the claim has it -/
theorem lw_ret {p : Program} {l : Launch} {e : Env} {s : State} {m : MethodId} {below : List Frame} {meth : Method} {c : Code} {b : Nat} (hx : p.tables.exec = Jvm.exec) (hb : c.code = code) (hr : meth.sig.returnType = ret) (hlocks : meth.locks = false) {pc : Nat} {H : Heap} {ls : Array Slot} (hdg : decode code pc = .ok (.ireturn, 1)) : W p l e room_1 s m #[Value.ref b] below meth c H [] 600000 7302250 (lw_Z below #[Value.ref b] s) (F0 m pc ls [.int 1]) := by
  intro T hT X
  obtain ⟨fs, hret, hrun, hended, hW, hframe⟩ := X.leave (v := some (.int 1)) (hlocks := hlocks) (fun h => by rw [hr] at h; cases h)
  have hmeth' : T.vm.method? m = some meth := X.method'
  refine ⟨T.setFrames fs, ?_, .returned (some (.int 1)), hrun, hended, rfl, ⟨_, rfl⟩, hW, hframe⟩
  jvm_step X.here [X.here.top, hx, hb, hdg, hmeth', hr, ret, narrow_b1]
  (try refine ⟨rfl, ?_⟩); (try refine ⟨rfl, ?_⟩)
  first | (intro acts; rw [hret _ acts rfl rfl rfl]) | rw [hret _ _ rfl rfl rfl]
  exact Steps.refl _
/-- what holds at the law's entry: the machine, the code, the tables' words (any of lw_tbl by 'hts w (by decide +kernel)'), the script of L ints xs at the cell b, what the Statement gives of the start (any of its parts by flat_of_before) -/
noncomputable def lw_At (p : Program) (s : State) (m : MethodId) (meth : Method) (c : Code) (b L : Nat) (xs : Nat → Int32) : Prop :=
  p.tables.exec = Jvm.exec ∧ c.code = code ∧ meth.sig.returnType = ret ∧ c.maxLocals = 4 ∧ s.vm.findClass R_law = some m.cls ∧ (∀ w ∈ lw_tbl, w.before #[Value.ref b] s = true) ∧ va_X b L xs s s.heap ∧ b < s.heap.size ∧ meth.locks = false ∧ (Jvm.Cond.and given_1 narrow_1).before #[Value.ref b] s = true
/-! ===== the law by the shadow machine ===== -/
noncomputable def x_G0 : x_G := ([], fun _ _ => 0, fun _ _ => 0, fun _ _ => .null)
/-- what is left to show: the shadow machine runs the law to 1, on every script, in its room -/
noncomputable def x_GOAL : Prop := ∀ (L : Nat) (xs : Nat → Int32), L ≤ 3072 → ∃ (n : Nat) (Gf : x_G), x_exec (L, xs) n 1000 n_L_law 0 [(0, .retAddr 30)] [] x_G0 = some (some (.int 1), Gf) ∧ Gf.1.length ≤ 600000 ∧ x_nS Gf ≤ 7302250
theorem x_law_inf : x_y n_L_law = yL_law ∧ x_b n_L_law = code ∧ x_ml n_L_law = 4 ∧ x_rt n_L_law = some .boolean := ⟨rfl, rfl, rfl, rfl⟩

theorem x_lawEnd {p : Program} {l : Launch} {e : Env} {s : State} {m : MethodId} {below : List Frame} {meth : Method} {c : Code} {b : Nat} {E : x_Ad} (hE1 : E.2.2.1 = s.heap.size) (hx : p.tables.exec = Jvm.exec) (hb : c.code = code) (hr : meth.sig.returnType = ret) (hlocks : meth.locks = false) {pc : Nat} {H : Heap} {locs : List Loc} {ls : Array Slot} {fc fs : Nat} (hS : va_S (x_Ao E) s.heap H locs) (h1 : fc ≤ 600000) (h2 : fs ≤ 7302250) (hdg : decode (x_b n_L_law) pc = .ok (.ireturn, 1)) : W p l e room_1 s m #[Value.ref b] below meth c H locs fc fs (lw_Z below #[Value.ref b] s) (F0 m pc ls ([.int 1].map (x_cv E.2.2.1 E.2.2.2))) := by
  refine va_forget (fun q hq => by rw [← hE1]; exact hS.2.2 q hq) ?_
  refine W.widen (k := 600000) (n := 7302250) h1 h2 ?_
  exact lw_ret hx hb hr hlocks (by rw [← x_law_inf.2.1]; exact hdg)

theorem x_whole (hgoal : x_GOAL) {p : Program} {e : Env} {s : State} {m : MethodId} {below : List Frame} {meth : Method} {c : Code} (l : Launch) (hflags : l.flags = flags0) {b L : Nat} {xs : Nat → Int32} (hL : L ≤ 3072) (C0 : lw_At p s m meth c b L xs) : W p l e room_1 s m #[Value.ref b] below meth c s.heap [] 0 0 (lw_Z below #[Value.ref b] s) (entryFrame m ([Value.ref b] : List Value).toArray 4) := by
  obtain ⟨hx, hb, hr, hml, hown, hts, hX, hbl, hlocks, hgv⟩ := id C0
  obtain ⟨E, hE1, hE2, hK, hF⟩ := x_init hts hgv hX (by omega) hbl
  obtain ⟨n, Gf, hex, hz1, hz2⟩ := hgoal L xs hL
  have hgood : ∀ w ∈ x_gw, w.before #[Value.ref b] s = true := fun w hw => hts w (List.mem_filter.mp hw).1
  have hl := lv_entry ([.ref b]) (n := 4) (Nat.le_of_ble_eq_true rfl)
  rw [lg_entry_eq]
  generalize (lg_sl ([.ref b]) ++ List.replicate (4 - (lg_sl ([.ref b])).length) Slot.unset).toArray = ls at hl ⊢
  have hl : lv_has ls (x_ml n_L_law) (x_cl E.2.2.1 E.2.2.2 [(0, .retAddr 30)]) := by
    rw [x_law_inf.2.2.1]
    have h1 : x_cl E.2.2.1 E.2.2.2 [(0, .retAddr 30)] = lv_args 0 [.ref b] := by
      show [(0, x_cv E.2.2.1 E.2.2.2 (.retAddr 30))] = [(0, .ref b)]
      rw [x_cv_ext hE2]
    rw [h1]
    exact hl
  have hH : x_HR E x_G0 s.heap := ⟨hE1.symm, fun k sh h => by simp [x_G0] at h⟩
  have hS : va_S (x_Ao E) s.heap s.heap [] := va_S.rf
  refine x_sound x_CHK_ok n 1000 n_L_law 0 _ [] x_G0 _ Gf hex (cells := 0) (slots := 0) (fc := Gf.1.length) (fs := x_nS Gf) ⟨hx, hb, by rw [hml]; exact x_law_inf.2.2.1.symm, hown, hgood, fun h => absurd h (by decide)⟩ hK hF hH hS hl (Nat.le_of_ble_eq_true rfl) (Nat.le_of_ble_eq_true rfl) (Nat.zero_add _).symm ((Nat.add_zero _).trans (Nat.zero_add _).symm) hz1 hz2 ?_
  intro pc' ls' st' H' locs' ins' hdec hret hH' hS'
  unfold x_ret at hret
  split at hret
  · split at hret
    · cases hret; exact x_lawEnd hE1 hx hb hr hlocks hS' hz1 hz2 hdec
    · split at hret
      · cases hret; exact x_lawEnd hE1 hx hb hr hlocks hS' hz1 hz2 hdec
      · cases hret
    · split at hret
      · cases hret; exact x_lawEnd hE1 hx hb hr hlocks hS' hz1 hz2 hdec
      · cases hret
    · split at hret
      · cases hret; exact x_lawEnd hE1 hx hb hr hlocks hS' hz1 hz2 hdec
      · cases hret
    · cases hret
  · split at hret
    · cases hret
    · cases hret
  · split at hret
    · cases hret
    · cases hret
  · cases hret

