/-! ===== the shadow machine: locals and branches ===== -/
noncomputable def x_get : x_Lo → Nat → Option Value
  | [], _ => none
  | (j, v) :: r, i => if j = i then some v else x_get r i
noncomputable def x_set1 (lo : x_Lo) (i : Nat) (v : Value) : x_Lo := (i, v) :: lo.filter (fun q => !(q.1 == i) && !(q.1 + 1 == i && q.2.category == 2))
noncomputable def x_set2 (lo : x_Lo) (i : Nat) (v : Value) : x_Lo := (i, v) :: lo.filter (fun q => !(q.1 == i) && (!(q.1 == i + 1) && !(q.1 + 1 == i && q.2.category == 2)))
theorem x_get_mem : ∀ {lo : x_Lo} {i : Nat} {v : Value}, x_get lo i = some v → (i, v) ∈ lo
  | (j, w) :: r, i, v, h => by
    unfold x_get at h
    split at h
    next hj => subst hj; cases h; exact List.mem_cons_self
    next hj => exact List.mem_cons_of_mem _ (x_get_mem h)
theorem x_get_at {ls : Array Slot} {nL bs : Nat} {xa : Nat → Option Nat} {lo : x_Lo} {i : Nat} {v : Value} (hl : lv_has ls nL (x_cl bs xa lo)) (h : x_get lo i = some v) : ls[i]? = some (.val (x_cv bs xa v)) :=
  hl.2.2 (i, x_cv bs xa v) (List.mem_map.mpr ⟨(i, v), x_get_mem h, rfl⟩)
theorem x_cl_set1 (bs : Nat) (xa : Nat → Option Nat) (lo : x_Lo) (i : Nat) (v : Value) : (i, x_cv bs xa v) :: (x_cl bs xa lo).filter (fun q => !(q.1 == i) && !(q.1 + 1 == i && q.2.category == 2)) = x_cl bs xa (x_set1 lo i v) := by
  unfold x_cl x_set1
  rw [List.filter_map, List.map_cons]
  congr 2
  congr 1
  funext q
  simp [Function.comp, x_cv_cat]
theorem x_cl_set2 (bs : Nat) (xa : Nat → Option Nat) (lo : x_Lo) (i : Nat) (v : Value) : (i, x_cv bs xa v) :: (x_cl bs xa lo).filter (fun q => !(q.1 == i) && (!(q.1 == i + 1) && !(q.1 + 1 == i && q.2.category == 2))) = x_cl bs xa (x_set2 lo i v) := by
  unfold x_cl x_set2
  rw [List.filter_map, List.map_cons]
  congr 2
  congr 1
  funext q
  simp [Function.comp, x_cv_cat]
noncomputable def x_isI : Value → Bool | .int _ => true | _ => false
noncomputable def x_isL : Value → Bool | .long _ => true | _ => false
/-- references: places, null, the known things outside -/
noncomputable def x_isR : Value → Bool | .ref _ => true | .null => true | .retAddr _ => true | _ => false
noncomputable def x_ld (t : Value → Bool) (lo : x_Lo) (i : Nat) (st : List Value) : Option (x_Lo × List Value) := match x_get lo i with
  | some v => if t v = true then some (lo, v :: st) else none
  | none => none
noncomputable def x_st (nL : Nat) (t : Value → Bool) (lo : x_Lo) (i : Nat) : List Value → Option (x_Lo × List Value)
  | v :: r => if t v = true ∧ i < nL then some (x_set1 lo i v, r) else none
  | [] => none
noncomputable def x_st2 (nL : Nat) (lo : x_Lo) (i : Nat) : List Value → Option (x_Lo × List Value)
  | .long x :: r => if i + 1 < nL then some (x_set2 lo i (.long x), r) else none
  | _ => none
noncomputable def x_loc (nL : Nat) : Instr → x_Lo → List Value → Option (x_Lo × List Value)
  | .iload_n k, lo, st => x_ld x_isI lo k st
  | .iload i, lo, st => x_ld x_isI lo i st
  | .lload_n k, lo, st => x_ld x_isL lo k st
  | .lload i, lo, st => x_ld x_isL lo i st
  | .aload_n k, lo, st => x_ld x_isR lo k st
  | .aload i, lo, st => x_ld x_isR lo i st
  | .istore_n k, lo, st => x_st nL x_isI lo k st
  | .istore i, lo, st => x_st nL x_isI lo i st
  | .astore_n k, lo, st => x_st nL x_isR lo k st
  | .astore i, lo, st => x_st nL x_isR lo i st
  | .lstore_n k, lo, st => x_st2 nL lo k st
  | .lstore i, lo, st => x_st2 nL lo i st
  | .iinc i n, lo, st => match x_get lo i with
    | some (.int x) => if i < nL then some (x_set1 lo i (.int (x + Int32.ofInt n)), st) else none
    | _ => none
  | _, _, _ => none
theorem x_ld_spec {t : Value → Bool} {lo lo' : x_Lo} {i : Nat} {st st' : List Value} (h : x_ld t lo i st = some (lo', st')) : ∃ v, x_get lo i = some v ∧ t v = true ∧ lo' = lo ∧ st' = v :: st := by
  unfold x_ld at h
  split at h
  next v hv =>
    split at h
    next ht => cases h; exact ⟨v, hv, ht, rfl, rfl⟩
    next => cases h
  next => cases h
theorem x_st_spec {nL : Nat} {t : Value → Bool} {lo lo' : x_Lo} {i : Nat} {st st' : List Value} (h : x_st nL t lo i st = some (lo', st')) : ∃ v, st = v :: st' ∧ t v = true ∧ i < nL ∧ lo' = x_set1 lo i v := by
  unfold x_st at h
  split at h
  next v r =>
    split at h
    next ht => cases h; exact ⟨v, rfl, ht.1, ht.2, rfl⟩
    next => cases h
  next => cases h
theorem x_st2_spec {nL : Nat} {lo lo' : x_Lo} {i : Nat} {st st' : List Value} (h : x_st2 nL lo i st = some (lo', st')) : ∃ x, st = .long x :: st' ∧ i + 1 < nL ∧ lo' = x_set2 lo i (.long x) := by
  unfold x_st2 at h
  split at h
  next x r =>
    split at h
    next ht => cases h; exact ⟨x, rfl, ht, rfl⟩
    next => cases h
  next => cases h
section XLOC
variable {p : Program} {l : Launch} {e : Env} {R : Room} {s : State} {m : MethodId} {args : Array Value} {below : List Frame} {meth : Method} {c : Code} {H : Heap} {locs : List Loc} {cells slots : Nat} {Q : State → Prop}
variable {cc : ByteArray} {pc : Nat} {ls : Array Slot} {bs : Nat} {xa : Nat → Option Nat} {rest : List Value}
theorem x_aload_n (hx : p.tables.exec = Jvm.exec) (hb : c.code = cc) {k : Fin 4} {v : Value} (hdg : decode cc pc = .ok (.aload_n k, 1)) (ht : x_isR v = true) (hl : ls[(k : Nat)]? = some (.val (x_cv bs xa v)))
    (kk : W p l e R s m args below meth c H locs cells slots Q (F0 m (pc + 1) ls (x_cv bs xa v :: rest))) : W p l e R s m args below meth c H locs cells slots Q (F0 m pc ls rest) := by
  cases v with
  | ref a => exact lv_aload_n hx hb hdg rfl hl kk
  | null => exact lv_aload_nN hx hb hdg rfl hl kk
  | retAddr i =>
    revert hl kk
    simp only [x_cv]
    cases xa i with
    | none => exact fun hl kk => lv_aload_nN hx hb hdg rfl hl kk
    | some a => exact fun hl kk => lv_aload_n hx hb hdg rfl hl kk
  | _ => cases ht
theorem x_aload (hx : p.tables.exec = Jvm.exec) (hb : c.code = cc) {k : Nat} {v : Value} (hdg : decode cc pc = .ok (.aload k, 2)) (ht : x_isR v = true) (hl : ls[k]? = some (.val (x_cv bs xa v)))
    (kk : W p l e R s m args below meth c H locs cells slots Q (F0 m (pc + 2) ls (x_cv bs xa v :: rest))) : W p l e R s m args below meth c H locs cells slots Q (F0 m pc ls rest) := by
  cases v with
  | ref a => exact lv_aload hx hb hdg hl kk
  | null => exact lv_aloadN hx hb hdg hl kk
  | retAddr i =>
    revert hl kk
    simp only [x_cv]
    cases xa i with
    | none => exact fun hl kk => lv_aloadN hx hb hdg hl kk
    | some a => exact fun hl kk => lv_aload hx hb hdg hl kk
  | _ => cases ht
theorem x_astore_n (hx : p.tables.exec = Jvm.exec) (hb : c.code = cc) {k : Fin 4} {nL : Nat} {lo : x_Lo} {v : Value} (hdg : decode cc pc = .ok (.astore_n k, 1)) (ht : x_isR v = true) (hl : lv_has ls nL (x_cl bs xa lo)) (hn : (k : Nat) < nL)
    (kk : ∀ ls' : Array Slot, lv_has ls' nL (x_cl bs xa (x_set1 lo k v)) → W p l e R s m args below meth c H locs cells slots Q (F0 m (pc + 1) ls' rest)) : W p l e R s m args below meth c H locs cells slots Q (F0 m pc ls (x_cv bs xa v :: rest)) := by
  have hs := x_cl_set1 bs xa lo k v
  cases v with
  | ref a => exact lv_astore_n hx hb hdg rfl hl hn hs kk
  | null => exact lv_astore_nN hx hb hdg rfl hl hn hs kk
  | retAddr i =>
    revert hs
    simp only [x_cv]
    cases xa i with
    | none => exact fun hs => lv_astore_nN hx hb hdg rfl hl hn hs kk
    | some a => exact fun hs => lv_astore_n hx hb hdg rfl hl hn hs kk
  | _ => cases ht
theorem x_astore (hx : p.tables.exec = Jvm.exec) (hb : c.code = cc) {k : Nat} {nL : Nat} {lo : x_Lo} {v : Value} (hdg : decode cc pc = .ok (.astore k, 2)) (ht : x_isR v = true) (hl : lv_has ls nL (x_cl bs xa lo)) (hn : k < nL)
    (kk : ∀ ls' : Array Slot, lv_has ls' nL (x_cl bs xa (x_set1 lo k v)) → W p l e R s m args below meth c H locs cells slots Q (F0 m (pc + 2) ls' rest)) : W p l e R s m args below meth c H locs cells slots Q (F0 m pc ls (x_cv bs xa v :: rest)) := by
  have hs := x_cl_set1 bs xa lo k v
  cases v with
  | ref a => exact lv_astore hx hb hdg hl hn hs kk
  | null => exact lv_astoreN hx hb hdg hl hn hs kk
  | retAddr i =>
    revert hs
    simp only [x_cv]
    cases xa i with
    | none => exact fun hs => lv_astoreN hx hb hdg hl hn hs kk
    | some a => exact fun hs => lv_astore hx hb hdg hl hn hs kk
  | _ => cases ht
theorem x_isI_spec {v : Value} (h : x_isI v = true) : ∃ x, v = .int x := by cases v <;> first | exact ⟨_, rfl⟩ | cases h
theorem x_isL_spec {v : Value} (h : x_isL v = true) : ∃ x, v = .long x := by cases v <;> first | exact ⟨_, rfl⟩ | cases h
set_option maxHeartbeats 4000000 in
theorem x_loc_ok (hx : p.tables.exec = Jvm.exec) (hb : c.code = cc) {ins : Instr} {nL : Nat} {lo lo' : x_Lo} {st st' : List Value} (hdg : decode cc pc = .ok (ins, x_len ins)) (h : x_loc nL ins lo st = some (lo', st')) (hl : lv_has ls nL (x_cl bs xa lo))
    (k : ∀ ls' : Array Slot, lv_has ls' nL (x_cl bs xa lo') → W p l e R s m args below meth c H locs cells slots Q (F0 m (pc + x_len ins) ls' (st'.map (x_cv bs xa)))) : W p l e R s m args below meth c H locs cells slots Q (F0 m pc ls (st.map (x_cv bs xa))) := by
  unfold x_loc at h
  split at h
  case _ => obtain ⟨v, h1, h2, rfl, rfl⟩ := x_ld_spec h; obtain ⟨x, rfl⟩ := x_isI_spec h2; exact lv_iload_n hx hb hdg rfl (x_get_at hl h1) (k _ hl)
  case _ => obtain ⟨v, h1, h2, rfl, rfl⟩ := x_ld_spec h; obtain ⟨x, rfl⟩ := x_isI_spec h2; exact lv_iload hx hb hdg (x_get_at hl h1) (k _ hl)
  case _ => obtain ⟨v, h1, h2, rfl, rfl⟩ := x_ld_spec h; obtain ⟨x, rfl⟩ := x_isL_spec h2; exact lv_lload_n hx hb hdg rfl (x_get_at hl h1) (k _ hl)
  case _ => obtain ⟨v, h1, h2, rfl, rfl⟩ := x_ld_spec h; obtain ⟨x, rfl⟩ := x_isL_spec h2; exact lv_lload hx hb hdg (x_get_at hl h1) (k _ hl)
  case _ => obtain ⟨v, h1, h2, rfl, rfl⟩ := x_ld_spec h; exact x_aload_n hx hb hdg h2 (x_get_at hl h1) (k _ hl)
  case _ => obtain ⟨v, h1, h2, rfl, rfl⟩ := x_ld_spec h; exact x_aload hx hb hdg h2 (x_get_at hl h1) (k _ hl)
  case _ => obtain ⟨v, rfl, h2, h3, rfl⟩ := x_st_spec h; obtain ⟨x, rfl⟩ := x_isI_spec h2; exact lv_istore_n hx hb hdg rfl hl h3 (x_cl_set1 bs xa _ _ (.int x)) k
  case _ => obtain ⟨v, rfl, h2, h3, rfl⟩ := x_st_spec h; obtain ⟨x, rfl⟩ := x_isI_spec h2; exact lv_istore hx hb hdg hl h3 (x_cl_set1 bs xa _ _ (.int x)) k
  case _ => obtain ⟨v, rfl, h2, h3, rfl⟩ := x_st_spec h; exact x_astore_n hx hb hdg h2 hl h3 k
  case _ => obtain ⟨v, rfl, h2, h3, rfl⟩ := x_st_spec h; exact x_astore hx hb hdg h2 hl h3 k
  case _ => obtain ⟨x, rfl, h3, rfl⟩ := x_st2_spec h; exact lv_lstore_n hx hb hdg rfl hl h3 (x_cl_set2 bs xa _ _ (.long x)) k
  case _ => obtain ⟨x, rfl, h3, rfl⟩ := x_st2_spec h; exact lv_lstore hx hb hdg hl h3 (x_cl_set2 bs xa _ _ (.long x)) k
  case _ =>
    split at h
    next x hg =>
      split at h
      next hn =>
        cases h
        have hm := x_get_mem hg
        obtain ⟨j, hj⟩ := List.getElem?_of_mem hm
        exact lv_iinc (k := j) hx hb hdg hl (by unfold x_cl; rw [List.getElem?_map, hj]; rfl) rfl hn (x_cl_set1 bs xa _ _ (.int (x + Int32.ofInt _))) k
      next => cases h
    next => cases h
  case _ => cases h
/-- what is known of the things outside: the first 40 are references below the world, all different -/
noncomputable def x_XA (bs : Nat) (xa : Nat → Option Nat) : Prop := (∀ i, i < 27 → ∃ a, xa i = some a ∧ a < bs) ∧ ∀ i j, i < 27 → j < 27 → xa i = xa j → i = j
noncomputable def x_known : Value → Bool | .ref _ => true | .null => true | .retAddr i => decide (i < 27) | _ => false
noncomputable def x_ro (bs : Nat) (xa : Nat → Option Nat) : Value → Option Nat | .ref k => some (bs + k) | .retAddr i => xa i | _ => none
theorem x_ro_cv {bs : Nat} {xa : Nat → Option Nat} {v : Value} (h : x_known v = true) : x_cv bs xa v = va_rf (x_ro bs xa v) := by
  cases v <;> first | rfl | cases h
theorem x_ro_eq {bs : Nat} {xa : Nat → Option Nat} (hX : x_XA bs xa) {v w : Value} (h : x_known v = true) (h2 : x_known w = true) : x_ro bs xa v = x_ro bs xa w ↔ v = w := by
  constructor
  · intro he
    match v, w, h, h2, he with
    | .ref a, .ref b, _, _, he => rw [Nat.add_left_cancel (Option.some.inj he : bs + a = bs + b)]
    | .ref a, .null, _, _, he => cases he
    | .null, .ref a, _, _, he => cases he
    | .null, .null, _, _, _ => rfl
    | .ref a, .retAddr i, _, h2, he =>
      obtain ⟨q, h3, h4⟩ := hX.1 i (by simpa [x_known] using h2)
      simp only [x_ro, h3, Option.some.injEq] at he
      omega
    | .retAddr i, .ref a, h, _, he =>
      obtain ⟨q, h3, h4⟩ := hX.1 i (by simpa [x_known] using h)
      simp only [x_ro, h3, Option.some.injEq] at he
      omega
    | .null, .retAddr i, _, h2, he =>
      obtain ⟨q, h3, h4⟩ := hX.1 i (by simpa [x_known] using h2)
      simp [x_ro, h3] at he
    | .retAddr i, .null, h, _, he =>
      obtain ⟨q, h3, h4⟩ := hX.1 i (by simpa [x_known] using h)
      simp [x_ro, h3] at he
    | .retAddr i, .retAddr j, h, h2, he => rw [hX.2 i j (by simpa [x_known] using h) (by simpa [x_known] using h2) he]
  · intro he; rw [he]
/-- branches: 'a' is the target -/
noncomputable def x_br (a pc : Nat) : Instr → List Value → Option (Nat × List Value)
  | .ifCond .eq _, .int x :: r => some (if x = 0 then a else pc + 3, r)
  | .ifCond .ne _, .int x :: r => some (if x = 0 then pc + 3 else a, r)
  | .ifCond .lt _, .int x :: r => some (if x < 0 then a else pc + 3, r)
  | .ifCond .ge _, .int x :: r => some (if 0 ≤ x then a else pc + 3, r)
  | .ifCond .gt _, .int x :: r => some (if 0 < x then a else pc + 3, r)
  | .ifCond .le _, .int x :: r => some (if x ≤ 0 then a else pc + 3, r)
  | .if_icmp .eq _, .int y :: .int x :: r => some (if x = y then a else pc + 3, r)
  | .if_icmp .ne _, .int y :: .int x :: r => some (if x = y then pc + 3 else a, r)
  | .if_icmp .lt _, .int y :: .int x :: r => some (if x < y then a else pc + 3, r)
  | .if_icmp .ge _, .int y :: .int x :: r => some (if y ≤ x then a else pc + 3, r)
  | .if_icmp .gt _, .int y :: .int x :: r => some (if y < x then a else pc + 3, r)
  | .if_icmp .le _, .int y :: .int x :: r => some (if x ≤ y then a else pc + 3, r)
  | .goto _, st => some (a, st)
  | .ifnull _, v :: r => if x_known v = true then some (if v = .null then a else pc + 3, r) else none
  | .ifnonnull _, v :: r => if x_known v = true then some (if v = .null then pc + 3 else a, r) else none
  | .if_acmp .eq _, w :: v :: r => if x_known v = true ∧ x_known w = true then some (if v = w then a else pc + 3, r) else none
  | .if_acmp .ne _, w :: v :: r => if x_known v = true ∧ x_known w = true then some (if v = w then pc + 3 else a, r) else none
  | .tableswitch d lo hi offs, .int x :: r => if x.toInt < lo ∨ hi < x.toInt then (if 0 ≤ (pc : Int) + d then some (((pc : Int) + d).toNat, r) else none) else match offs.toList[(x.toInt - lo).toNat]? with
    | some o => if 0 ≤ (pc : Int) + o then some (((pc : Int) + o).toNat, r) else none
    | none => none
  | .lookupswitch d ps, .int x :: r => if (ps.toList.zip (ps.toList.drop 1)).all (fun (a, next) => a.1 < next.1) = true ∧ 0 ≤ (pc : Int) + Op.lookupswitch.offset ps.toList d x.toInt then some (((pc : Int) + Op.lookupswitch.offset ps.toList d x.toInt).toNat, r) else none
  | _, _ => none
/-- the offset of a branch that has one -/
noncomputable def x_off : Instr → Option Int
  | .ifCond _ o | .if_icmp _ o | .goto o | .ifnull o | .ifnonnull o | .if_acmp _ o => some o
  | _ => none
theorem x_if {A : Prop} [Decidable A] {a b : Nat} {P : Nat → Prop} (k : P (if A then a else b)) : (A → P a) ∧ (¬ A → P b) := by
  by_cases h : A
  · rw [if_pos h] at k; exact ⟨fun _ => k, fun n => absurd h n⟩
  · rw [if_neg h] at k; exact ⟨fun n => absurd n h, fun _ => k⟩
set_option maxHeartbeats 4000000 in
theorem x_br_ok (hx : p.tables.exec = Jvm.exec) (hb : c.code = cc) (hX : x_XA bs xa) {ins : Instr} {a len pc' : Nat} {st st' : List Value} (hdg : decode cc pc = .ok (ins, len)) (hlen : x_off ins ≠ none → len = 3) (hoff : ∀ o, x_off ins = some o → (pc : Int) + o = (a : Int)) (h : x_br a pc ins st = some (pc', st'))
    (k : W p l e R s m args below meth c H locs cells slots Q (F0 m pc' ls (st'.map (x_cv bs xa)))) : W p l e R s m args below meth c H locs cells slots Q (F0 m pc ls (st.map (x_cv bs xa))) := by
  unfold x_br at h
  split at h
  case _ => cases h; cases hlen (by simp [x_off]); have k := x_if (P := fun q => W p l e R s m args below meth c H locs cells slots Q (F0 m q ls _)) k; exact lv_if_eq hx hb hdg (hoff _ rfl) k.1 k.2
  case _ => cases h; cases hlen (by simp [x_off]); have k := x_if (P := fun q => W p l e R s m args below meth c H locs cells slots Q (F0 m q ls _)) k; exact lv_if_ne hx hb hdg (hoff _ rfl) k.2 k.1
  case _ => cases h; cases hlen (by simp [x_off]); have k := x_if (P := fun q => W p l e R s m args below meth c H locs cells slots Q (F0 m q ls _)) k; exact lv_if_lt hx hb hdg (hoff _ rfl) k.1 k.2
  case _ => cases h; cases hlen (by simp [x_off]); have k := x_if (P := fun q => W p l e R s m args below meth c H locs cells slots Q (F0 m q ls _)) k; exact lv_if_ge hx hb hdg (hoff _ rfl) k.1 k.2
  case _ => cases h; cases hlen (by simp [x_off]); have k := x_if (P := fun q => W p l e R s m args below meth c H locs cells slots Q (F0 m q ls _)) k; exact lv_if_gt hx hb hdg (hoff _ rfl) k.1 k.2
  case _ => cases h; cases hlen (by simp [x_off]); have k := x_if (P := fun q => W p l e R s m args below meth c H locs cells slots Q (F0 m q ls _)) k; exact lv_if_le hx hb hdg (hoff _ rfl) k.1 k.2
  case _ => cases h; cases hlen (by simp [x_off]); have k := x_if (P := fun q => W p l e R s m args below meth c H locs cells slots Q (F0 m q ls _)) k; exact lv_icmp_eq hx hb hdg (hoff _ rfl) k.1 k.2
  case _ => cases h; cases hlen (by simp [x_off]); have k := x_if (P := fun q => W p l e R s m args below meth c H locs cells slots Q (F0 m q ls _)) k; exact lv_icmp_ne hx hb hdg (hoff _ rfl) k.2 k.1
  case _ => cases h; cases hlen (by simp [x_off]); have k := x_if (P := fun q => W p l e R s m args below meth c H locs cells slots Q (F0 m q ls _)) k; exact lv_icmp_lt hx hb hdg (hoff _ rfl) k.1 k.2
  case _ => cases h; cases hlen (by simp [x_off]); have k := x_if (P := fun q => W p l e R s m args below meth c H locs cells slots Q (F0 m q ls _)) k; exact lv_icmp_ge hx hb hdg (hoff _ rfl) k.1 k.2
  case _ => cases h; cases hlen (by simp [x_off]); have k := x_if (P := fun q => W p l e R s m args below meth c H locs cells slots Q (F0 m q ls _)) k; exact lv_icmp_gt hx hb hdg (hoff _ rfl) k.1 k.2
  case _ => cases h; cases hlen (by simp [x_off]); have k := x_if (P := fun q => W p l e R s m args below meth c H locs cells slots Q (F0 m q ls _)) k; exact lv_icmp_le hx hb hdg (hoff _ rfl) k.1 k.2
  case _ => cases h; cases hlen (by simp [x_off]); exact lv_goto hx hb hdg (hoff _ rfl) k
  case _ o v r =>
    split at h
    next hk =>
      cases h; cases hlen (by simp [x_off])
      show W p l e R s m args below meth c H locs cells slots Q (F0 m pc ls (x_cv bs xa v :: _))
      cases v with
      | null => exact lv_ifnullN hx hb hdg (hoff _ rfl) k
      | ref q => exact lv_ifnull hx hb hdg (by rw [if_neg (by intro q; cases q)] at k; exact k)
      | retAddr i =>
        obtain ⟨q, h3, -⟩ := hX.1 i (by simpa [x_known] using hk)
        simp only [x_cv, h3, va_rf]
        exact lv_ifnull hx hb hdg (by rw [if_neg (by intro q; cases q)] at k; exact k)
      | _ => cases hk
    next => cases h
  case _ o v r =>
    split at h
    next hk =>
      cases h; cases hlen (by simp [x_off])
      show W p l e R s m args below meth c H locs cells slots Q (F0 m pc ls (x_cv bs xa v :: _))
      cases v with
      | null => exact lv_ifnonnullN hx hb hdg k
      | ref q => exact lv_ifnonnull hx hb hdg (hoff _ rfl) (by rw [if_neg (by intro q; cases q)] at k; exact k)
      | retAddr i =>
        obtain ⟨q, h3, -⟩ := hX.1 i (by simpa [x_known] using hk)
        simp only [x_cv, h3, va_rf]
        exact lv_ifnonnull hx hb hdg (hoff _ rfl) (by rw [if_neg (by intro q; cases q)] at k; exact k)
      | _ => cases hk
    next => cases h
  case _ o w v r =>
    split at h
    next hk =>
      cases h; cases hlen (by simp [x_off])
      have k := x_if (P := fun q => W p l e R s m args below meth c H locs cells slots Q (F0 m q ls _)) k
      show W p l e R s m args below meth c H locs cells slots Q (F0 m pc ls (x_cv bs xa w :: x_cv bs xa v :: _))
      rw [x_ro_cv hk.1, x_ro_cv hk.2]
      exact lv_acmp_eq hx hb hdg (hoff _ rfl) (fun q => k.1 ((x_ro_eq hX hk.1 hk.2).mp q)) (fun q => k.2 (fun z => q ((x_ro_eq hX hk.1 hk.2).mpr z)))
    next => cases h
  case _ o w v r =>
    split at h
    next hk =>
      cases h; cases hlen (by simp [x_off])
      have k := x_if (P := fun q => W p l e R s m args below meth c H locs cells slots Q (F0 m q ls _)) k
      show W p l e R s m args below meth c H locs cells slots Q (F0 m pc ls (x_cv bs xa w :: x_cv bs xa v :: _))
      rw [x_ro_cv hk.1, x_ro_cv hk.2]
      exact lv_acmp_ne hx hb hdg (hoff _ rfl) (fun q => k.2 (fun z => q ((x_ro_eq hX hk.1 hk.2).mpr z))) (fun q => k.1 ((x_ro_eq hX hk.1 hk.2).mp q))
    next => cases h
  case _ d lo hi offs x r =>
    split at h
    next hr =>
      split at h
      next h0 => cases h; exact lv_tableOut hx hb hdg hr (Int.toNat_of_nonneg h0).symm k
      next => cases h
    next hr =>
      split at h
      next o ho =>
        split at h
        next h0 => cases h; exact lv_tableIn hx hb hdg (fun q => hr (Or.inl q)) (fun q => hr (Or.inr q)) (by rw [← Array.getElem?_toList]; exact ho) (Int.toNat_of_nonneg h0).symm k
        next => cases h
      next => cases h
  case _ d ps x r =>
    split at h
    next h0 => cases h; exact lv_lookup hx hb hdg h0.1 rfl (Int.toNat_of_nonneg h0.2).symm k
    next => cases h
  case _ => cases h
end XLOC
