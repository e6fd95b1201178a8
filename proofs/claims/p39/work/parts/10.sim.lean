/-! ===== the shadow machine: values, worlds, pure instructions ===== -/
noncomputable abbrev x_Lo : Type := List (Nat × Value)
/-- a world: the cells' shapes (an object of a class, or an array of a type and a length), the ints, the longs, the references that they hold -/
noncomputable abbrev x_G : Type := List (Nat ⊕ (Nat × Nat)) × (Nat → Nat → Int32) × (Nat → Nat → Int64) × (Nat → Nat → Value)
/-- a shadow value: a reference is a place of the world; 'retAddr i' is the i-th thing that stands outside of it -/
noncomputable def x_cv (bs : Nat) (xa : Nat → Option Nat) : Value → Value
  | .ref k => .ref (bs + k)
  | .retAddr i => va_rf (xa i)
  | v => v
theorem x_cv_cat (bs : Nat) (xa : Nat → Option Nat) (v : Value) : (x_cv bs xa v).category = v.category := by
  cases v <;> try rfl
  rename_i i
  show (va_rf (xa i)).category = 1
  cases xa i <;> rfl
noncomputable def x_cl (bs : Nat) (xa : Nat → Option Nat) (lo : x_Lo) : x_Lo := lo.map (fun q => (q.1, x_cv bs xa q.2))
/-- instructions of the stack alone -/
noncomputable def x_alu : Instr → List Value → Option (List Value)
  | .aconst_null, st => some (.null :: st)
  | .iconst n, st => some (.int (Int32.ofInt n) :: st)
  | .bipush n, st => some (.int (Int8.ofInt n).toInt32 :: st)
  | .sipush n, st => some (.int (Int16.ofInt n).toInt32 :: st)
  | .lconst n, st => some (.long (Int64.ofNat (n : Nat)) :: st)
  | .iadd, .int y :: .int x :: r => some (.int (x + y) :: r)
  | .isub, .int y :: .int x :: r => some (.int (x - y) :: r)
  | .imul, .int y :: .int x :: r => some (.int (x * y) :: r)
  | .iand, .int y :: .int x :: r => some (.int (x &&& y) :: r)
  | .ior, .int y :: .int x :: r => some (.int (x ||| y) :: r)
  | .ixor, .int y :: .int x :: r => some (.int (x ^^^ y) :: r)
  | .idiv, .int y :: .int x :: r => if y = 0 then none else some (.int (x / y) :: r)
  | .irem, .int y :: .int x :: r => if y = 0 then none else some (.int (x - x / y * y) :: r)
  | .ishl, .int y :: .int x :: r => some (.int (x <<< (y &&& 31)) :: r)
  | .ishr, .int y :: .int x :: r => some (.int (x >>> (y &&& 31)) :: r)
  | .iushr, .int y :: .int x :: r => some (.int (x.toUInt32 >>> (y.toUInt32 &&& Int32.toUInt32 31)).toInt32 :: r)
  | .ladd, .long y :: .long x :: r => some (.long (x + y) :: r)
  | .lsub, .long y :: .long x :: r => some (.long (x - y) :: r)
  | .lmul, .long y :: .long x :: r => some (.long (x * y) :: r)
  | .land, .long y :: .long x :: r => some (.long (x &&& y) :: r)
  | .lor, .long y :: .long x :: r => some (.long (x ||| y) :: r)
  | .lxor, .long y :: .long x :: r => some (.long (x ^^^ y) :: r)
  | .ldiv, .long y :: .long x :: r => if y = 0 then none else some (.long (x / y) :: r)
  | .lrem, .long y :: .long x :: r => if y = 0 then none else some (.long (x - x / y * y) :: r)
  | .lshl, .int y :: .long x :: r => some (.long (x <<< (y.toInt64 &&& 63)) :: r)
  | .lshr, .int y :: .long x :: r => some (.long (x >>> (y.toInt64 &&& 63)) :: r)
  | .lushr, .int y :: .long x :: r => some (.long (x.toUInt64 >>> (y.toInt64.toUInt64 &&& Int64.toUInt64 63)).toInt64 :: r)
  | .lcmp, .long y :: .long x :: r => some (.int (lg_cmp x y) :: r)
  | .i2l, .int x :: r => some (.long x.toInt64 :: r)
  | .l2i, .long x :: r => some (.int x.toInt32 :: r)
  | .i2b, .int x :: r => some (.int x.toInt8.toInt32 :: r)
  | .i2s, .int x :: r => some (.int x.toInt16.toInt32 :: r)
  | .i2c, .int x :: r => some (.int (x.toUInt32 % 65536).toInt32 :: r)
  | .dup, v :: r => if v.category = 1 then some (v :: v :: r) else none
  | .pop, v :: r => if v.category = 1 then some r else none
  | .pop2, v :: r => if v.category = 2 then some r else none
  | .dup_x1, v :: w :: r => if v.category = 1 ∧ w.category = 1 then some (v :: w :: v :: r) else none
  | .dup2, v :: w :: r => if v.category = 1 ∧ w.category = 1 then some (v :: w :: v :: w :: r) else none
  | _, _ => none
/-- how long such an instruction is -/
noncomputable def x_len : Instr → Nat
  | .bipush _ | .iload _ | .lload _ | .aload _ | .istore _ | .lstore _ | .astore _ | .ldc _ | .newarray _ => 2
  | .sipush _ | .iinc _ _ | .ifCond _ _ | .if_icmp _ _ | .if_acmp _ _ | .ifnull _ | .ifnonnull _ | .goto _ | .ldc_w _ | .ldc2_w _ | .getfield _ | .putfield _ | .getstatic _ | .new _ | .anewarray _ | .invokevirtual _ | .invokespecial _ | .invokestatic _ => 3
  | _ => 1
section XALU
variable {p : Program} {l : Launch} {e : Env} {R : Room} {s : State} {m : MethodId} {args : Array Value} {below : List Frame} {meth : Method} {c : Code} {H : Heap} {locs : List Loc} {cells slots : Nat} {Q : State → Prop}
variable {cc : ByteArray} {pc : Nat} {ls : Array Slot} {bs : Nat} {xa : Nat → Option Nat}
set_option maxHeartbeats 4000000 in
theorem x_alu_ok (hx : p.tables.exec = Jvm.exec) (hb : c.code = cc) {ins : Instr} {st st' : List Value} (hdg : decode cc pc = .ok (ins, x_len ins)) (h : x_alu ins st = some st')
    (k : W p l e R s m args below meth c H locs cells slots Q (F0 m (pc + x_len ins) ls (st'.map (x_cv bs xa)))) : W p l e R s m args below meth c H locs cells slots Q (F0 m pc ls (st.map (x_cv bs xa))) := by
  unfold x_alu at h
  split at h
  case _ => cases h; exact lv_null hx hb hdg k
  case _ => cases h; exact lv_iconst hx hb hdg rfl k
  case _ => cases h; exact lv_bipush hx hb hdg rfl k
  case _ => cases h; exact lv_sipush hx hb hdg rfl k
  case _ => cases h; exact lv_lconst hx hb hdg rfl k
  case _ => cases h; exact lv_iadd hx hb hdg k
  case _ => cases h; exact lv_isub hx hb hdg k
  case _ => cases h; exact lv_imul hx hb hdg k
  case _ => cases h; exact lv_iand hx hb hdg k
  case _ => cases h; exact lv_ior hx hb hdg k
  case _ => cases h; exact lv_ixor hx hb hdg k
  case _ => split at h; · cases h
            next hne => cases h; exact lv_idiv hx hb hdg hne k
  case _ => split at h; · cases h
            next hne => cases h; exact lv_irem hx hb hdg hne k
  case _ => cases h; exact lv_ishl hx hb hdg k
  case _ => cases h; exact lv_ishr hx hb hdg k
  case _ => cases h; exact lv_iushr hx hb hdg rfl k
  case _ => cases h; exact lv_ladd hx hb hdg k
  case _ => cases h; exact lv_lsub hx hb hdg k
  case _ => cases h; exact lv_lmul hx hb hdg k
  case _ => cases h; exact lv_land hx hb hdg k
  case _ => cases h; exact lv_lor hx hb hdg k
  case _ => cases h; exact lv_lxor hx hb hdg k
  case _ => split at h; · cases h
            next hne => cases h; exact lv_ldiv hx hb hdg hne k
  case _ => split at h; · cases h
            next hne => cases h; exact lv_lrem hx hb hdg hne k
  case _ => cases h; exact lv_lshl hx hb hdg rfl k
  case _ => cases h; exact lv_lshr hx hb hdg rfl k
  case _ => cases h; exact lv_lushr hx hb hdg rfl k
  case _ => cases h; exact W.lcmp hx hb hdg k
  case _ => cases h; exact lv_i2l hx hb hdg rfl k
  case _ => cases h; exact lv_l2i hx hb hdg rfl k
  case _ => cases h; exact lv_i2b hx hb hdg rfl k
  case _ => cases h; exact lv_i2s hx hb hdg rfl k
  case _ => cases h; exact lv_i2c hx hb hdg rfl k
  case _ => split at h
            · next hc => cases h; exact lv_dup hx hb hdg (by rw [x_cv_cat]; exact hc) k
            · cases h
  case _ => split at h
            · next hc => cases h; exact lv_pop hx hb hdg (by rw [x_cv_cat]; exact hc) k
            · cases h
  case _ => split at h
            · next hc => cases h; exact lv_pop2_2 hx hb hdg (by rw [x_cv_cat]; exact hc) k
            · cases h
  case _ => split at h
            · next hc => cases h; exact lv_dup_x1 hx hb hdg (by rw [x_cv_cat]; exact hc.1) (by rw [x_cv_cat]; exact hc.2) k
            · cases h
  case _ => split at h
            · next hc => cases h; exact lv_dup2_11 hx hb hdg (by rw [x_cv_cat]; exact hc.1) (by rw [x_cv_cat]; exact hc.2) k
            · cases h
  case _ => cases h
end XALU
/-! ===== the shadow machine: locals and branches ===== -/
noncomputable def x_get : x_Lo → Nat → Option Value
  | [], _ => none
  | (j, v) :: r, i => if j = i then some v else x_get r i
noncomputable def x_set1 (lo : x_Lo) (i : Nat) (v : Value) : x_Lo := (i, v) :: lo.filter (fun q => !(q.1 == i) && !(q.1 + 1 == i && q.2.category == 2))
noncomputable def x_set2 (lo : x_Lo) (i : Nat) (v : Value) : x_Lo := (i, v) :: lo.filter (fun q => !(q.1 == i) && (!(q.1 == i + 1) && !(q.1 + 1 == i && q.2.category == 2)))
theorem x_get_mem : ∀ {lo : x_Lo} {i : Nat} {v : Value}, x_get lo i = some v → (i, v) ∈ lo
  | (j, w) :: r, i, v, h => by
    unfold x_get at h
    split at h
    next hj => subst hj; cases h; exact List.mem_cons_self
    next hj => exact List.mem_cons_of_mem _ (x_get_mem h)
theorem x_get_at {ls : Array Slot} {nL bs : Nat} {xa : Nat → Option Nat} {lo : x_Lo} {i : Nat} {v : Value} (hl : lv_has ls nL (x_cl bs xa lo)) (h : x_get lo i = some v) : ls[i]? = some (.val (x_cv bs xa v)) :=
  hl.2.2 (i, x_cv bs xa v) (List.mem_map.mpr ⟨(i, v), x_get_mem h, rfl⟩)
theorem x_cl_set1 (bs : Nat) (xa : Nat → Option Nat) (lo : x_Lo) (i : Nat) (v : Value) : (i, x_cv bs xa v) :: (x_cl bs xa lo).filter (fun q => !(q.1 == i) && !(q.1 + 1 == i && q.2.category == 2)) = x_cl bs xa (x_set1 lo i v) := by
  unfold x_cl x_set1
  rw [List.filter_map, List.map_cons]
  congr 2
  congr 1
  funext q
  simp [Function.comp, x_cv_cat]
theorem x_cl_set2 (bs : Nat) (xa : Nat → Option Nat) (lo : x_Lo) (i : Nat) (v : Value) : (i, x_cv bs xa v) :: (x_cl bs xa lo).filter (fun q => !(q.1 == i) && (!(q.1 == i + 1) && !(q.1 + 1 == i && q.2.category == 2))) = x_cl bs xa (x_set2 lo i v) := by
  unfold x_cl x_set2
  rw [List.filter_map, List.map_cons]
  congr 2
  congr 1
  funext q
  simp [Function.comp, x_cv_cat]
noncomputable def x_isI : Value → Bool | .int _ => true | _ => false
noncomputable def x_isL : Value → Bool | .long _ => true | _ => false
/-- references: places, null, the known things outside -/
noncomputable def x_isR : Value → Bool | .ref _ => true | .null => true | .retAddr _ => true | _ => false
noncomputable def x_ld (t : Value → Bool) (lo : x_Lo) (i : Nat) (st : List Value) : Option (x_Lo × List Value) := match x_get lo i with
  | some v => if t v = true then some (lo, v :: st) else none
  | none => none
noncomputable def x_st (nL : Nat) (t : Value → Bool) (lo : x_Lo) (i : Nat) : List Value → Option (x_Lo × List Value)
  | v :: r => if t v = true ∧ i < nL then some (x_set1 lo i v, r) else none
  | [] => none
noncomputable def x_st2 (nL : Nat) (lo : x_Lo) (i : Nat) : List Value → Option (x_Lo × List Value)
  | .long x :: r => if i + 1 < nL then some (x_set2 lo i (.long x), r) else none
  | _ => none
noncomputable def x_loc (nL : Nat) : Instr → x_Lo → List Value → Option (x_Lo × List Value)
  | .iload_n k, lo, st => x_ld x_isI lo k st
  | .iload i, lo, st => x_ld x_isI lo i st
  | .lload_n k, lo, st => x_ld x_isL lo k st
  | .lload i, lo, st => x_ld x_isL lo i st
  | .aload_n k, lo, st => x_ld x_isR lo k st
  | .aload i, lo, st => x_ld x_isR lo i st
  | .istore_n k, lo, st => x_st nL x_isI lo k st
  | .istore i, lo, st => x_st nL x_isI lo i st
  | .astore_n k, lo, st => x_st nL x_isR lo k st
  | .astore i, lo, st => x_st nL x_isR lo i st
  | .lstore_n k, lo, st => x_st2 nL lo k st
  | .lstore i, lo, st => x_st2 nL lo i st
  | .iinc i n, lo, st => match x_get lo i with
    | some (.int x) => if i < nL then some (x_set1 lo i (.int (x + Int32.ofInt n)), st) else none
    | _ => none
  | _, _, _ => none
theorem x_ld_spec {t : Value → Bool} {lo lo' : x_Lo} {i : Nat} {st st' : List Value} (h : x_ld t lo i st = some (lo', st')) : ∃ v, x_get lo i = some v ∧ t v = true ∧ lo' = lo ∧ st' = v :: st := by
  unfold x_ld at h
  split at h
  next v hv =>
    split at h
    next ht => cases h; exact ⟨v, hv, ht, rfl, rfl⟩
    next => cases h
  next => cases h
theorem x_st_spec {nL : Nat} {t : Value → Bool} {lo lo' : x_Lo} {i : Nat} {st st' : List Value} (h : x_st nL t lo i st = some (lo', st')) : ∃ v, st = v :: st' ∧ t v = true ∧ i < nL ∧ lo' = x_set1 lo i v := by
  unfold x_st at h
  split at h
  next v r =>
    split at h
    next ht => cases h; exact ⟨v, rfl, ht.1, ht.2, rfl⟩
    next => cases h
  next => cases h
theorem x_st2_spec {nL : Nat} {lo lo' : x_Lo} {i : Nat} {st st' : List Value} (h : x_st2 nL lo i st = some (lo', st')) : ∃ x, st = .long x :: st' ∧ i + 1 < nL ∧ lo' = x_set2 lo i (.long x) := by
  unfold x_st2 at h
  split at h
  next x r =>
    split at h
    next ht => cases h; exact ⟨x, rfl, ht, rfl⟩
    next => cases h
  next => cases h
section XLOC
variable {p : Program} {l : Launch} {e : Env} {R : Room} {s : State} {m : MethodId} {args : Array Value} {below : List Frame} {meth : Method} {c : Code} {H : Heap} {locs : List Loc} {cells slots : Nat} {Q : State → Prop}
variable {cc : ByteArray} {pc : Nat} {ls : Array Slot} {bs : Nat} {xa : Nat → Option Nat} {rest : List Value}
theorem x_aload_n (hx : p.tables.exec = Jvm.exec) (hb : c.code = cc) {k : Fin 4} {v : Value} (hdg : decode cc pc = .ok (.aload_n k, 1)) (ht : x_isR v = true) (hl : ls[(k : Nat)]? = some (.val (x_cv bs xa v)))
    (kk : W p l e R s m args below meth c H locs cells slots Q (F0 m (pc + 1) ls (x_cv bs xa v :: rest))) : W p l e R s m args below meth c H locs cells slots Q (F0 m pc ls rest) := by
  cases v with
  | ref a => exact lv_aload_n hx hb hdg rfl hl kk
  | null => exact lv_aload_nN hx hb hdg rfl hl kk
  | retAddr i =>
    revert hl kk
    simp only [x_cv]
    cases xa i with
    | none => exact fun hl kk => lv_aload_nN hx hb hdg rfl hl kk
    | some a => exact fun hl kk => lv_aload_n hx hb hdg rfl hl kk
  | _ => cases ht
theorem x_aload (hx : p.tables.exec = Jvm.exec) (hb : c.code = cc) {k : Nat} {v : Value} (hdg : decode cc pc = .ok (.aload k, 2)) (ht : x_isR v = true) (hl : ls[k]? = some (.val (x_cv bs xa v)))
    (kk : W p l e R s m args below meth c H locs cells slots Q (F0 m (pc + 2) ls (x_cv bs xa v :: rest))) : W p l e R s m args below meth c H locs cells slots Q (F0 m pc ls rest) := by
  cases v with
  | ref a => exact lv_aload hx hb hdg hl kk
  | null => exact lv_aloadN hx hb hdg hl kk
  | retAddr i =>
    revert hl kk
    simp only [x_cv]
    cases xa i with
    | none => exact fun hl kk => lv_aloadN hx hb hdg hl kk
    | some a => exact fun hl kk => lv_aload hx hb hdg hl kk
  | _ => cases ht
theorem x_astore_n (hx : p.tables.exec = Jvm.exec) (hb : c.code = cc) {k : Fin 4} {nL : Nat} {lo : x_Lo} {v : Value} (hdg : decode cc pc = .ok (.astore_n k, 1)) (ht : x_isR v = true) (hl : lv_has ls nL (x_cl bs xa lo)) (hn : (k : Nat) < nL)
    (kk : ∀ ls' : Array Slot, lv_has ls' nL (x_cl bs xa (x_set1 lo k v)) → W p l e R s m args below meth c H locs cells slots Q (F0 m (pc + 1) ls' rest)) : W p l e R s m args below meth c H locs cells slots Q (F0 m pc ls (x_cv bs xa v :: rest)) := by
  have hs := x_cl_set1 bs xa lo k v
  cases v with
  | ref a => exact lv_astore_n hx hb hdg rfl hl hn hs kk
  | null => exact lv_astore_nN hx hb hdg rfl hl hn hs kk
  | retAddr i =>
    revert hs
    simp only [x_cv]
    cases xa i with
    | none => exact fun hs => lv_astore_nN hx hb hdg rfl hl hn hs kk
    | some a => exact fun hs => lv_astore_n hx hb hdg rfl hl hn hs kk
  | _ => cases ht
theorem x_astore (hx : p.tables.exec = Jvm.exec) (hb : c.code = cc) {k : Nat} {nL : Nat} {lo : x_Lo} {v : Value} (hdg : decode cc pc = .ok (.astore k, 2)) (ht : x_isR v = true) (hl : lv_has ls nL (x_cl bs xa lo)) (hn : k < nL)
    (kk : ∀ ls' : Array Slot, lv_has ls' nL (x_cl bs xa (x_set1 lo k v)) → W p l e R s m args below meth c H locs cells slots Q (F0 m (pc + 2) ls' rest)) : W p l e R s m args below meth c H locs cells slots Q (F0 m pc ls (x_cv bs xa v :: rest)) := by
  have hs := x_cl_set1 bs xa lo k v
  cases v with
  | ref a => exact lv_astore hx hb hdg hl hn hs kk
  | null => exact lv_astoreN hx hb hdg hl hn hs kk
  | retAddr i =>
    revert hs
    simp only [x_cv]
    cases xa i with
    | none => exact fun hs => lv_astoreN hx hb hdg hl hn hs kk
    | some a => exact fun hs => lv_astore hx hb hdg hl hn hs kk
  | _ => cases ht
theorem x_isI_spec {v : Value} (h : x_isI v = true) : ∃ x, v = .int x := by cases v <;> first | exact ⟨_, rfl⟩ | cases h
theorem x_isL_spec {v : Value} (h : x_isL v = true) : ∃ x, v = .long x := by cases v <;> first | exact ⟨_, rfl⟩ | cases h
set_option maxHeartbeats 4000000 in
theorem x_loc_ok (hx : p.tables.exec = Jvm.exec) (hb : c.code = cc) {ins : Instr} {nL : Nat} {lo lo' : x_Lo} {st st' : List Value} (hdg : decode cc pc = .ok (ins, x_len ins)) (h : x_loc nL ins lo st = some (lo', st')) (hl : lv_has ls nL (x_cl bs xa lo))
    (k : ∀ ls' : Array Slot, lv_has ls' nL (x_cl bs xa lo') → W p l e R s m args below meth c H locs cells slots Q (F0 m (pc + x_len ins) ls' (st'.map (x_cv bs xa)))) : W p l e R s m args below meth c H locs cells slots Q (F0 m pc ls (st.map (x_cv bs xa))) := by
  unfold x_loc at h
  split at h
  case _ => obtain ⟨v, h1, h2, rfl, rfl⟩ := x_ld_spec h; obtain ⟨x, rfl⟩ := x_isI_spec h2; exact lv_iload_n hx hb hdg rfl (x_get_at hl h1) (k _ hl)
  case _ => obtain ⟨v, h1, h2, rfl, rfl⟩ := x_ld_spec h; obtain ⟨x, rfl⟩ := x_isI_spec h2; exact lv_iload hx hb hdg (x_get_at hl h1) (k _ hl)
  case _ => obtain ⟨v, h1, h2, rfl, rfl⟩ := x_ld_spec h; obtain ⟨x, rfl⟩ := x_isL_spec h2; exact lv_lload_n hx hb hdg rfl (x_get_at hl h1) (k _ hl)
  case _ => obtain ⟨v, h1, h2, rfl, rfl⟩ := x_ld_spec h; obtain ⟨x, rfl⟩ := x_isL_spec h2; exact lv_lload hx hb hdg (x_get_at hl h1) (k _ hl)
  case _ => obtain ⟨v, h1, h2, rfl, rfl⟩ := x_ld_spec h; exact x_aload_n hx hb hdg h2 (x_get_at hl h1) (k _ hl)
  case _ => obtain ⟨v, h1, h2, rfl, rfl⟩ := x_ld_spec h; exact x_aload hx hb hdg h2 (x_get_at hl h1) (k _ hl)
  case _ => obtain ⟨v, rfl, h2, h3, rfl⟩ := x_st_spec h; obtain ⟨x, rfl⟩ := x_isI_spec h2; exact lv_istore_n hx hb hdg rfl hl h3 (x_cl_set1 bs xa _ _ (.int x)) k
  case _ => obtain ⟨v, rfl, h2, h3, rfl⟩ := x_st_spec h; obtain ⟨x, rfl⟩ := x_isI_spec h2; exact lv_istore hx hb hdg hl h3 (x_cl_set1 bs xa _ _ (.int x)) k
  case _ => obtain ⟨v, rfl, h2, h3, rfl⟩ := x_st_spec h; exact x_astore_n hx hb hdg h2 hl h3 k
  case _ => obtain ⟨v, rfl, h2, h3, rfl⟩ := x_st_spec h; exact x_astore hx hb hdg h2 hl h3 k
  case _ => obtain ⟨x, rfl, h3, rfl⟩ := x_st2_spec h; exact lv_lstore_n hx hb hdg rfl hl h3 (x_cl_set2 bs xa _ _ (.long x)) k
  case _ => obtain ⟨x, rfl, h3, rfl⟩ := x_st2_spec h; exact lv_lstore hx hb hdg hl h3 (x_cl_set2 bs xa _ _ (.long x)) k
  case _ =>
    split at h
    next x hg =>
      split at h
      next hn =>
        cases h
        have hm := x_get_mem hg
        obtain ⟨j, hj⟩ := List.getElem?_of_mem hm
        exact lv_iinc (k := j) hx hb hdg hl (by unfold x_cl; rw [List.getElem?_map, hj]; rfl) rfl hn (x_cl_set1 bs xa _ _ (.int (x + Int32.ofInt _))) k
      next => cases h
    next => cases h
  case _ => cases h
/-- what is known of the things outside: the first 40 are references below the world, all different -/
noncomputable def x_XA (bs : Nat) (xa : Nat → Option Nat) : Prop := (∀ i, i < 27 → ∃ a, xa i = some a ∧ a < bs) ∧ ∀ i j, i < 27 → j < 27 → xa i = xa j → i = j
noncomputable def x_known : Value → Bool | .ref _ => true | .null => true | .retAddr i => decide (i < 27) | _ => false
noncomputable def x_ro (bs : Nat) (xa : Nat → Option Nat) : Value → Option Nat | .ref k => some (bs + k) | .retAddr i => xa i | _ => none
theorem x_ro_cv {bs : Nat} {xa : Nat → Option Nat} {v : Value} (h : x_known v = true) : x_cv bs xa v = va_rf (x_ro bs xa v) := by
  cases v <;> first | rfl | cases h
theorem x_ro_eq {bs : Nat} {xa : Nat → Option Nat} (hX : x_XA bs xa) {v w : Value} (h : x_known v = true) (h2 : x_known w = true) : x_ro bs xa v = x_ro bs xa w ↔ v = w := by
  constructor
  · intro he
    match v, w, h, h2, he with
    | .ref a, .ref b, _, _, he => rw [Nat.add_left_cancel (Option.some.inj he : bs + a = bs + b)]
    | .ref a, .null, _, _, he => cases he
    | .null, .ref a, _, _, he => cases he
    | .null, .null, _, _, _ => rfl
    | .ref a, .retAddr i, _, h2, he =>
      obtain ⟨q, h3, h4⟩ := hX.1 i (by simpa [x_known] using h2)
      simp only [x_ro, h3, Option.some.injEq] at he
      omega
    | .retAddr i, .ref a, h, _, he =>
      obtain ⟨q, h3, h4⟩ := hX.1 i (by simpa [x_known] using h)
      simp only [x_ro, h3, Option.some.injEq] at he
      omega
    | .null, .retAddr i, _, h2, he =>
      obtain ⟨q, h3, h4⟩ := hX.1 i (by simpa [x_known] using h2)
      simp [x_ro, h3] at he
    | .retAddr i, .null, h, _, he =>
      obtain ⟨q, h3, h4⟩ := hX.1 i (by simpa [x_known] using h)
      simp [x_ro, h3] at he
    | .retAddr i, .retAddr j, h, h2, he => rw [hX.2 i j (by simpa [x_known] using h) (by simpa [x_known] using h2) he]
  · intro he; rw [he]
/-- branches: 'a' is the target -/
noncomputable def x_br (a pc : Nat) : Instr → List Value → Option (Nat × List Value)
  | .ifCond .eq _, .int x :: r => some (if x = 0 then a else pc + 3, r)
  | .ifCond .ne _, .int x :: r => some (if x = 0 then pc + 3 else a, r)
  | .ifCond .lt _, .int x :: r => some (if x < 0 then a else pc + 3, r)
  | .ifCond .ge _, .int x :: r => some (if 0 ≤ x then a else pc + 3, r)
  | .ifCond .gt _, .int x :: r => some (if 0 < x then a else pc + 3, r)
  | .ifCond .le _, .int x :: r => some (if x ≤ 0 then a else pc + 3, r)
  | .if_icmp .eq _, .int y :: .int x :: r => some (if x = y then a else pc + 3, r)
  | .if_icmp .ne _, .int y :: .int x :: r => some (if x = y then pc + 3 else a, r)
  | .if_icmp .lt _, .int y :: .int x :: r => some (if x < y then a else pc + 3, r)
  | .if_icmp .ge _, .int y :: .int x :: r => some (if y ≤ x then a else pc + 3, r)
  | .if_icmp .gt _, .int y :: .int x :: r => some (if y < x then a else pc + 3, r)
  | .if_icmp .le _, .int y :: .int x :: r => some (if x ≤ y then a else pc + 3, r)
  | .goto _, st => some (a, st)
  | .ifnull _, v :: r => if x_known v = true then some (if v = .null then a else pc + 3, r) else none
  | .ifnonnull _, v :: r => if x_known v = true then some (if v = .null then pc + 3 else a, r) else none
  | .if_acmp .eq _, w :: v :: r => if x_known v = true ∧ x_known w = true then some (if v = w then a else pc + 3, r) else none
  | .if_acmp .ne _, w :: v :: r => if x_known v = true ∧ x_known w = true then some (if v = w then pc + 3 else a, r) else none
  | .tableswitch d lo hi offs, .int x :: r => if x.toInt < lo ∨ hi < x.toInt then (if 0 ≤ (pc : Int) + d then some (((pc : Int) + d).toNat, r) else none) else match offs.toList[(x.toInt - lo).toNat]? with
    | some o => if 0 ≤ (pc : Int) + o then some (((pc : Int) + o).toNat, r) else none
    | none => none
  | .lookupswitch d ps, .int x :: r => if (ps.toList.zip (ps.toList.drop 1)).all (fun (a, next) => a.1 < next.1) = true ∧ 0 ≤ (pc : Int) + Op.lookupswitch.offset ps.toList d x.toInt then some (((pc : Int) + Op.lookupswitch.offset ps.toList d x.toInt).toNat, r) else none
  | _, _ => none
/-- the offset of a branch that has one -/
noncomputable def x_off : Instr → Option Int
  | .ifCond _ o | .if_icmp _ o | .goto o | .ifnull o | .ifnonnull o | .if_acmp _ o => some o
  | _ => none
theorem x_if {A : Prop} [Decidable A] {a b : Nat} {P : Nat → Prop} (k : P (if A then a else b)) : (A → P a) ∧ (¬ A → P b) := by
  by_cases h : A
  · rw [if_pos h] at k; exact ⟨fun _ => k, fun n => absurd h n⟩
  · rw [if_neg h] at k; exact ⟨fun n => absurd n h, fun _ => k⟩
set_option maxHeartbeats 4000000 in
theorem x_br_ok (hx : p.tables.exec = Jvm.exec) (hb : c.code = cc) (hX : x_XA bs xa) {ins : Instr} {a len pc' : Nat} {st st' : List Value} (hdg : decode cc pc = .ok (ins, len)) (hlen : x_off ins ≠ none → len = 3) (hoff : ∀ o, x_off ins = some o → (pc : Int) + o = (a : Int)) (h : x_br a pc ins st = some (pc', st'))
    (k : W p l e R s m args below meth c H locs cells slots Q (F0 m pc' ls (st'.map (x_cv bs xa)))) : W p l e R s m args below meth c H locs cells slots Q (F0 m pc ls (st.map (x_cv bs xa))) := by
  unfold x_br at h
  split at h
  case _ => cases h; cases hlen (by simp [x_off]); have k := x_if (P := fun q => W p l e R s m args below meth c H locs cells slots Q (F0 m q ls _)) k; exact lv_if_eq hx hb hdg (hoff _ rfl) k.1 k.2
  case _ => cases h; cases hlen (by simp [x_off]); have k := x_if (P := fun q => W p l e R s m args below meth c H locs cells slots Q (F0 m q ls _)) k; exact lv_if_ne hx hb hdg (hoff _ rfl) k.2 k.1
  case _ => cases h; cases hlen (by simp [x_off]); have k := x_if (P := fun q => W p l e R s m args below meth c H locs cells slots Q (F0 m q ls _)) k; exact lv_if_lt hx hb hdg (hoff _ rfl) k.1 k.2
  case _ => cases h; cases hlen (by simp [x_off]); have k := x_if (P := fun q => W p l e R s m args below meth c H locs cells slots Q (F0 m q ls _)) k; exact lv_if_ge hx hb hdg (hoff _ rfl) k.1 k.2
  case _ => cases h; cases hlen (by simp [x_off]); have k := x_if (P := fun q => W p l e R s m args below meth c H locs cells slots Q (F0 m q ls _)) k; exact lv_if_gt hx hb hdg (hoff _ rfl) k.1 k.2
  case _ => cases h; cases hlen (by simp [x_off]); have k := x_if (P := fun q => W p l e R s m args below meth c H locs cells slots Q (F0 m q ls _)) k; exact lv_if_le hx hb hdg (hoff _ rfl) k.1 k.2
  case _ => cases h; cases hlen (by simp [x_off]); have k := x_if (P := fun q => W p l e R s m args below meth c H locs cells slots Q (F0 m q ls _)) k; exact lv_icmp_eq hx hb hdg (hoff _ rfl) k.1 k.2
  case _ => cases h; cases hlen (by simp [x_off]); have k := x_if (P := fun q => W p l e R s m args below meth c H locs cells slots Q (F0 m q ls _)) k; exact lv_icmp_ne hx hb hdg (hoff _ rfl) k.2 k.1
  case _ => cases h; cases hlen (by simp [x_off]); have k := x_if (P := fun q => W p l e R s m args below meth c H locs cells slots Q (F0 m q ls _)) k; exact lv_icmp_lt hx hb hdg (hoff _ rfl) k.1 k.2
  case _ => cases h; cases hlen (by simp [x_off]); have k := x_if (P := fun q => W p l e R s m args below meth c H locs cells slots Q (F0 m q ls _)) k; exact lv_icmp_ge hx hb hdg (hoff _ rfl) k.1 k.2
  case _ => cases h; cases hlen (by simp [x_off]); have k := x_if (P := fun q => W p l e R s m args below meth c H locs cells slots Q (F0 m q ls _)) k; exact lv_icmp_gt hx hb hdg (hoff _ rfl) k.1 k.2
  case _ => cases h; cases hlen (by simp [x_off]); have k := x_if (P := fun q => W p l e R s m args below meth c H locs cells slots Q (F0 m q ls _)) k; exact lv_icmp_le hx hb hdg (hoff _ rfl) k.1 k.2
  case _ => cases h; cases hlen (by simp [x_off]); exact lv_goto hx hb hdg (hoff _ rfl) k
  case _ o v r =>
    split at h
    next hk =>
      cases h; cases hlen (by simp [x_off])
      show W p l e R s m args below meth c H locs cells slots Q (F0 m pc ls (x_cv bs xa v :: _))
      cases v with
      | null => exact lv_ifnullN hx hb hdg (hoff _ rfl) k
      | ref q => exact lv_ifnull hx hb hdg (by rw [if_neg (by intro q; cases q)] at k; exact k)
      | retAddr i =>
        obtain ⟨q, h3, -⟩ := hX.1 i (by simpa [x_known] using hk)
        simp only [x_cv, h3, va_rf]
        exact lv_ifnull hx hb hdg (by rw [if_neg (by intro q; cases q)] at k; exact k)
      | _ => cases hk
    next => cases h
  case _ o v r =>
    split at h
    next hk =>
      cases h; cases hlen (by simp [x_off])
      show W p l e R s m args below meth c H locs cells slots Q (F0 m pc ls (x_cv bs xa v :: _))
      cases v with
      | null => exact lv_ifnonnullN hx hb hdg k
      | ref q => exact lv_ifnonnull hx hb hdg (hoff _ rfl) (by rw [if_neg (by intro q; cases q)] at k; exact k)
      | retAddr i =>
        obtain ⟨q, h3, -⟩ := hX.1 i (by simpa [x_known] using hk)
        simp only [x_cv, h3, va_rf]
        exact lv_ifnonnull hx hb hdg (hoff _ rfl) (by rw [if_neg (by intro q; cases q)] at k; exact k)
      | _ => cases hk
    next => cases h
  case _ o w v r =>
    split at h
    next hk =>
      cases h; cases hlen (by simp [x_off])
      have k := x_if (P := fun q => W p l e R s m args below meth c H locs cells slots Q (F0 m q ls _)) k
      show W p l e R s m args below meth c H locs cells slots Q (F0 m pc ls (x_cv bs xa w :: x_cv bs xa v :: _))
      rw [x_ro_cv hk.1, x_ro_cv hk.2]
      exact lv_acmp_eq hx hb hdg (hoff _ rfl) (fun q => k.1 ((x_ro_eq hX hk.1 hk.2).mp q)) (fun q => k.2 (fun z => q ((x_ro_eq hX hk.1 hk.2).mpr z)))
    next => cases h
  case _ o w v r =>
    split at h
    next hk =>
      cases h; cases hlen (by simp [x_off])
      have k := x_if (P := fun q => W p l e R s m args below meth c H locs cells slots Q (F0 m q ls _)) k
      show W p l e R s m args below meth c H locs cells slots Q (F0 m pc ls (x_cv bs xa w :: x_cv bs xa v :: _))
      rw [x_ro_cv hk.1, x_ro_cv hk.2]
      exact lv_acmp_ne hx hb hdg (hoff _ rfl) (fun q => k.2 (fun z => q ((x_ro_eq hX hk.1 hk.2).mpr z))) (fun q => k.1 ((x_ro_eq hX hk.1 hk.2).mp q))
    next => cases h
  case _ d lo hi offs x r =>
    split at h
    next hr =>
      split at h
      next h0 => cases h; exact lv_tableOut hx hb hdg hr (Int.toNat_of_nonneg h0).symm k
      next => cases h
    next hr =>
      split at h
      next o ho =>
        split at h
        next h0 => cases h; exact lv_tableIn hx hb hdg (fun q => hr (Or.inl q)) (fun q => hr (Or.inr q)) (by rw [← Array.getElem?_toList]; exact ho) (Int.toNat_of_nonneg h0).symm k
        next => cases h
      next => cases h
  case _ d ps x r =>
    split at h
    next h0 => cases h; exact lv_lookup hx hb hdg h0.1 rfl (Int.toNat_of_nonneg h0.2).symm k
    next => cases h
  case _ => cases h
end XLOC
/-! ===== the shadow machine: the heap ===== -/
/-- the words that hold for whoever is called -/
noncomputable abbrev x_gw : List Cond := x_gw0
noncomputable def x_nr : Value → Value | .ref k => .ref k | .retAddr i => .retAddr i | _ => .null
theorem x_nr_isR {v : Value} (h : x_isR v = true) : x_nr v = v := by cases v <;> first | rfl | cases h
theorem x_nr_R (v : Value) : x_isR (x_nr v) = true := by cases v <;> rfl
theorem x_cv_R {bs : Nat} {xa : Nat → Option Nat} {v : Value} (h : x_isR v = true) : x_cv bs xa v = va_rf (x_ro bs xa v) := by
  cases v <;> first | rfl | cases h
noncomputable def x_toI : Value → Int32 | .int x => x | _ => 0
noncomputable def x_toL : Value → Int64 | .long x => x | _ => 0
/-- what a place holds at a slot, by the slot's type -/
noncomputable def x_fv (G : x_G) (k j : Nat) : FieldType → Value
  | .long => .long (G.2.2.1 k j)
  | .object _ => x_nr (G.2.2.2 k j)
  | .array _ => x_nr (G.2.2.2 k j)
  | _ => .int (G.2.1 k j)
noncomputable def x_up2 {α : Type} (f : Nat → Nat → α) (k j : Nat) (x : α) : Nat → Nat → α := fun a => if a = k then (fun b => if b = j then x else f k b) else f a
noncomputable def x_clr {α : Type} (f : Nat → Nat → α) (k : Nat) (d : α) : Nat → Nat → α := fun a => if a = k then (fun _ => d) else f a
theorem x_up2_same {α : Type} (f : Nat → Nat → α) (k j : Nat) (x : α) : x_up2 f k j x k = fun b => if b = j then x else f k b := if_pos rfl
theorem x_up2_at {α : Type} (f : Nat → Nat → α) (k j : Nat) (x : α) : x_up2 f k j x k j = x := by simp [x_up2]
theorem x_up2_ne {α : Type} {f : Nat → Nat → α} {k j a : Nat} {x : α} (h : a ≠ k) : x_up2 f k j x a = f a := if_neg h
theorem x_up2_off {α : Type} {f : Nat → Nat → α} {k j a b : Nat} {x : α} (h : a ≠ k ∨ b ≠ j) : x_up2 f k j x a b = f a b := by
  unfold x_up2
  by_cases ha : a = k
  · subst ha; rcases h with h | h
    · exact absurd rfl h
    · simp [h]
  · simp [ha]
theorem x_clr_ne {α : Type} {f : Nat → Nat → α} {k a : Nat} {d : α} (h : a ≠ k) : x_clr f k d a = f a := if_neg h
/-- a value comes to a slot of that type -/
noncomputable def x_put (G : x_G) (k j : Nat) (ty : FieldType) (v : Value) : x_G := match ty with
  | .long => (G.1, G.2.1, x_up2 G.2.2.1 k j (x_toL v), G.2.2.2)
  | .object _ => (G.1, G.2.1, G.2.2.1, x_up2 G.2.2.2 k j v)
  | .array _ => (G.1, G.2.1, G.2.2.1, x_up2 G.2.2.2 k j v)
  | _ => (G.1, x_up2 G.2.1 k j (x_toI v), G.2.2.1, G.2.2.2)
/-- may it? -/
noncomputable def x_fit : FieldType → Value → Bool
  | .int, .int _ => true
  | .long, .long _ => true
  | .object _, v => x_isR v
  | .array _, v => x_isR v
  | .boolean, .int x => decide (narrow .boolean (.int x) = .int x) && fits .boolean (.int x)
  | .byte, .int x => decide (narrow .byte (.int x) = .int x) && fits .byte (.int x)
  | .char, .int x => decide (narrow .char (.int x) = .int x) && fits .char (.int x)
  | .short, .int x => decide (narrow .short (.int x) = .int x) && fits .short (.int x)
  | _, _ => false
theorem x_fit_narrow {bs : Nat} {xa : Nat → Option Nat} {ty : FieldType} {v : Value} (h : x_fit ty v = true) : narrow ty (x_cv bs xa v) = x_cv bs xa v ∧ fits ty (x_cv bs xa v) = true := by
  have hr : ∀ v : Value, x_isR v = true → x_cv bs xa v = .null ∨ ∃ a, x_cv bs xa v = .ref a := by
    intro v hv
    rw [x_cv_R hv]
    cases x_ro bs xa v with
    | none => exact Or.inl rfl
    | some a => exact Or.inr ⟨a, rfl⟩
  unfold x_fit at h
  split at h
  case _ => exact ⟨rfl, rfl⟩
  case _ => exact ⟨rfl, rfl⟩
  case _ => rcases hr _ h with e | ⟨a, e⟩ <;> rw [e] <;> exact ⟨rfl, rfl⟩
  case _ => rcases hr _ h with e | ⟨a, e⟩ <;> rw [e] <;> exact ⟨rfl, rfl⟩
  case _ => simp only [Bool.and_eq_true, decide_eq_true_eq] at h; exact h
  case _ => simp only [Bool.and_eq_true, decide_eq_true_eq] at h; exact h
  case _ => simp only [Bool.and_eq_true, decide_eq_true_eq] at h; exact h
  case _ => simp only [Bool.and_eq_true, decide_eq_true_eq] at h; exact h
  case _ => cases h
theorem x_put_1 (G : x_G) (k j : Nat) (ty : FieldType) (v : Value) : (x_put G k j ty v).1 = G.1 := by cases ty <;> rfl
theorem x_fv_put {G : x_G} {k j : Nat} {ty : FieldType} {v : Value} (h : x_fit ty v = true) : x_fv (x_put G k j ty v) k j ty = v := by
  unfold x_fit at h
  split at h
  case _ => simp [x_fv, x_put, x_up2_at, x_toI]
  case _ => simp [x_fv, x_put, x_up2_at, x_toL]
  case _ => simp only [x_fv, x_put, x_up2_at]; exact x_nr_isR h
  case _ => simp only [x_fv, x_put, x_up2_at]; exact x_nr_isR h
  case _ => simp [x_fv, x_put, x_up2_at, x_toI]
  case _ => simp [x_fv, x_put, x_up2_at, x_toI]
  case _ => simp [x_fv, x_put, x_up2_at, x_toI]
  case _ => simp [x_fv, x_put, x_up2_at, x_toI]
  case _ => cases h
theorem x_fv_off {G : x_G} {k j a b : Nat} {ty ty' : FieldType} {v : Value} (h : a ≠ k ∨ b ≠ j) : x_fv (x_put G k j ty v) a b ty' = x_fv G a b ty' := by
  cases ty <;> cases ty' <;> simp only [x_fv, x_put, x_up2_off h]
/-- the types of arrays' elements -/
noncomputable def x_ety : Nat → FieldType | 0 => .int | 1 => .long | 2 => .byte | 3 => .boolean | 4 => .object RX10 | 5 => .object RX5 | _ => .object RX7
noncomputable abbrev x_Ad : Type := va_G × (Nat → ClassId) × Nat × (Nat → Option Nat)
/-- a place's cell, as the heap holds it -/
noncomputable def x_at (E : x_Ad) (G : x_G) (H : Heap) (k : Nat) : Nat ⊕ (Nat × Nat) → Prop
  | .inl ci => t_OB (E.2.2.1 + k) (E.1.1 ci) (x_fty ci).length (E.1.2 ci) H (fun j => x_cv E.2.2.1 E.2.2.2 (x_fv G k j ((x_fty ci).getD j .int)))
  | .inr (t, n) => H[E.2.2.1 + k]? = some (arrV (E.2.1 t) n (fun j => x_cv E.2.2.1 E.2.2.2 (x_fv G k j (x_ety t))))
noncomputable def x_HR (E : x_Ad) (G : x_G) (H : Heap) : Prop := H.size = E.2.2.1 + G.1.length ∧ ∀ k sh, G.1[k]? = some sh → x_at E G H k sh
/-- what is known of the tables -/
noncomputable def x_KA (E : x_Ad) (U : State) : Prop := (∀ ci q, vwCl[ci]? = some q → u_Kn U q.1 q.2.1 q.2.2 (E.1.1 ci) (E.1.2 ci)) ∧ ∀ t, t < 7 → ArrOfT U (E.2.1 t) (x_ety t) ∧ va_RA U (E.2.1 t) (x_ety t)
theorem x_KA.moved {E : x_Ad} {u U : State} (hvm : u.vm.Alike U.vm) (h : x_KA E u) : x_KA E U := ⟨fun ci q hq => u_Kn_moved hvm (h.1 ci q hq), fun t ht => ⟨arrOfT_moved hvm (h.2 t ht).1, (h.2 t ht).2.moved hvm⟩⟩
/-- what a class's rows of the tables say -/
noncomputable def x_CI (ci : Nat) (C : String) (T : u_T) (N : Nat) : Prop := vwCl[ci]? = some (C, T, N) ∧ (x_fty ci).length = N ∧ (∀ k, k < N → parseFieldDescriptor (T k).2.2.1 = some ((x_fty ci).getD k .int)) ∧ (∀ a, a < N → ∀ b, b < N → a ≠ b → (T a).2.1 ≠ (T b).2.1) ∧ ∀ w ∈ u_ws C T N, w ∈ x_gw
theorem x_at_kept {E : x_Ad} {G G' : x_G} {H H1 : Heap} {k : Nat} {sh : Nat ⊕ (Nat × Nat)} (h : x_at E G H k sh) (hq : H1[E.2.2.1 + k]? = H[E.2.2.1 + k]?) (hG : ∀ j ty, x_fv G' k j ty = x_fv G k j ty) : x_at E G' H1 k sh := by
  rcases sh with ci | ⟨t, n⟩
  · exact (t_OB.kept h hq).to (fun j _ => by rw [hG])
  · show H1[_]? = _
    rw [hq]
    exact h.trans (by simp only [hG])
theorem x_HR_put {E : x_Ad} {G : x_G} {H H1 : Heap} {k j : Nat} {ty : FieldType} {v : Value} {sh : Nat ⊕ (Nat × Nat)} (h : x_HR E G H) (hsh : G.1[k]? = some sh) (hz : H1.size = H.size) (ho : ∀ q, q ≠ E.2.2.1 + k → H1[q]? = H[q]?) (ha : x_at E (x_put G k j ty v) H1 k sh) : x_HR E (x_put G k j ty v) H1 := by
  refine ⟨by rw [hz, h.1, x_put_1], fun a sh' hs => ?_⟩
  rw [x_put_1] at hs
  by_cases hak : a = k
  · subst hak
    rw [hsh] at hs
    cases hs
    exact ha
  · exact x_at_kept (h.2 a sh' hs) (ho _ (by omega)) (fun j' ty' => x_fv_off (Or.inl hak))
/-- a new cell behind all others, with zeros -/
noncomputable def x_new (G : x_G) (sh : Nat ⊕ (Nat × Nat)) : x_G := (G.1 ++ [sh], x_clr G.2.1 G.1.length 0, x_clr G.2.2.1 G.1.length 0, x_clr G.2.2.2 G.1.length .null)
theorem x_fv_new {G : x_G} {sh : Nat ⊕ (Nat × Nat)} {k j : Nat} {ty : FieldType} (h : k ≠ G.1.length) : x_fv (x_new G sh) k j ty = x_fv G k j ty := by
  cases ty <;> simp only [x_fv, x_new, x_clr_ne h]
theorem x_fv_new0 {G : x_G} {sh : Nat ⊕ (Nat × Nat)} {j : Nat} {ty : FieldType} (h : ty ≠ .float) (h2 : ty ≠ .double) : x_fv (x_new G sh) G.1.length j ty = defaultValue ty := by
  cases ty <;> simp_all [x_fv, x_new, x_clr, defaultValue, x_nr]
theorem x_HR_new {E : x_Ad} {G : x_G} {H H1 : Heap} {sh : Nat ⊕ (Nat × Nat)} (h : x_HR E G H) (hz : H1.size = H.size + 1) (ho : ∀ q, q < H.size → H1[q]? = H[q]?) (ha : x_at E (x_new G sh) H1 G.1.length sh) : x_HR E (x_new G sh) H1 := by
  refine ⟨by rw [hz, h.1]; simp [x_new]; omega, fun a sh' hs => ?_⟩
  by_cases hal : a < G.1.length
  · rw [show (x_new G sh).1 = G.1 ++ [sh] from rfl, List.getElem?_append_left hal] at hs
    exact x_at_kept (h.2 a sh' hs) (ho _ (by rw [h.1]; omega)) (fun j' ty' => x_fv_new (by omega))
  · rw [show (x_new G sh).1 = G.1 ++ [sh] from rfl, List.getElem?_append_right (by omega)] at hs
    have hz : a - G.1.length < 1 := (List.getElem?_eq_some_iff.mp hs).1
    have ha' : a = G.1.length := by omega
    subst ha'
    rw [Nat.sub_self] at hs
    cases hs
    exact ha
section XHEAP
variable {p : Program} {l : Launch} {e : Env} {R : Room} {s : State} {m : MethodId} {args : Array Value} {below : List Frame} {meth : Method} {c : Code} {H : Heap} {locs : List Loc} {cells slots : Nat} {Q : State → Prop}
variable {cc : ByteArray} {pc : Nat} {ls : Array Slot} {rest : List Value} {E : x_Ad} {G : x_G}
theorem x_getf (hx : p.tables.exec = Jvm.exec) (hb : c.code = cc) (hts : ∀ w ∈ x_gw, w.before args s = true) {own C : String} {T : u_T} {N ci index k j : Nat} (hC : x_CI ci C T N) (hown : s.vm.findClass own = some m.cls) (hK : x_KA E s) (hH : x_HR E G H) (hk : G.1[k]? = some (.inl ci)) (hj : j < N)
    (hlink : (Cond.fieldLink own index (T j).1 (T j).2.1 (T j).2.2.1).before args s = true ∨ ∃ host, (Cond.fieldLinkNest own index (T j).1 (T j).2.1 (T j).2.2.1 host).before args s = true) (hdg : decode cc pc = .ok (.getfield index, 3))
    (kk : W p l e R s m args below meth c H locs cells slots Q (F0 m (pc + 3) ls (x_cv E.2.2.1 E.2.2.2 (x_fv G k j ((x_fty ci).getD j .int)) :: rest))) : W p l e R s m args below meth c H locs cells slots Q (F0 m pc ls (.ref (E.2.2.1 + k) :: rest)) := by
  obtain ⟨hc, hN, -, -, hin⟩ := hC
  obtain ⟨cell, q1, q2, q3, q4⟩ := hH.2 k _ hk
  obtain ⟨hS, hfc, kC, hkC, hkind⟩ := hK.1 ci _ hc
  obtain ⟨cf, kf, fi, f, hi, hsl⟩ := hS j hj
  have h1 : cell.vm ≠ .unknown := by rw [q3]; exact fun h => by cases h
  have h2 := q4 j (by rw [hN]; exact hj)
  rw [← hsl] at h2
  rcases hlink with hlink | ⟨host, hlink⟩
  · exact W.getf hx hb hown hlink hi (u_facts hfc hkC (u_lays hts hin hj) hi).1 q1 h1 h2 rfl rfl hdg kk
  · exact va_Wgetf hx hb hown hlink hi (u_facts hfc hkC (u_lays hts hin hj) hi).1 q1 h1 h2 rfl rfl hdg kk
theorem x_putf (hx : p.tables.exec = Jvm.exec) (hb : c.code = cc) (hts : ∀ w ∈ x_gw, w.before args s = true) {own C : String} {T : u_T} {N ci index k j : Nat} {v : Value} (hC : x_CI ci C T N) (hown : s.vm.findClass own = some m.cls) (hK : x_KA E s) (hH : x_HR E G H) (hk : G.1[k]? = some (.inl ci)) (hj : j < N)
    (hfit : x_fit ((x_fty ci).getD j .int) v = true)
    (hlink : ((T j).2.2.2 = false ∧ ((Cond.fieldLink own index (T j).1 (T j).2.1 (T j).2.2.1).before args s = true ∨ ∃ host, (Cond.fieldLinkNest own index (T j).1 (T j).2.1 (T j).2.2.1 host).before args s = true)) ∨ ((T j).2.2.2 = true ∧ meth.name = "<init>" ∧ (T j).1 = own ∧ (Cond.fieldLink own index (T j).1 (T j).2.1 (T j).2.2.1).before args s = true)) (hdg : decode cc pc = .ok (.putfield index, 3))
    (kk : ∀ (H1 : Heap) (z : Loc), z.base = E.2.2.1 + k → x_HR E (x_put G k j ((x_fty ci).getD j .int) v) H1 → (∀ q, q < E.2.2.1 → H1[q]? = H[q]?) → W p l e R s m args below meth c H1 (locs ++ [z]) cells slots Q (F0 m (pc + 3) ls rest)) : W p l e R s m args below meth c H locs cells slots Q (F0 m pc ls (x_cv E.2.2.1 E.2.2.2 v :: .ref (E.2.2.1 + k) :: rest)) := by
  obtain ⟨hc, hN, hty, hnm, hin⟩ := hC
  have hap := va_apart (own := own) (tys := []) hts hin (fun k => (x_fty ci).getD k .int) hty hnm (D := E.1) ⟨hK.1, fun k q h => by simp at h⟩ hc
  obtain ⟨cell, q1, q2, q3, q4⟩ := hH.2 k _ hk
  obtain ⟨hS, hfc, kC, hkC, hkind⟩ := hK.1 ci _ hc
  obtain ⟨cf, kf, fi, f, hi, hsl⟩ := hS j hj
  have hst := (u_facts hfc hkC (u_lays hts hin hj) hi).1
  obtain ⟨hn, hf⟩ := x_fit_narrow (bs := E.2.2.1) (xa := E.2.2.2) hfit
  have hlt : f.slot < cell.slots.size := by rw [hsl]; exact k2_hasslot (q4 j (by rw [hN]; exact hj))
  have key : ∀ H1 : Heap, H1[E.2.2.1 + k]? = some (cell.setSlot f.slot (x_cv E.2.2.1 E.2.2.2 v)) → H1.size = H.size → (∀ q, q ≠ E.2.2.1 + k → H1[q]? = H[q]?) → x_HR E (x_put G k j ((x_fty ci).getD j .int) v) H1 := by
    intro H1 e1 e2 e3
    rw [hsl] at e1
    refine x_HR_put hH hk e2 e3 ?_
    refine ⟨_, e1, q2, q3, fun a ha => ?_⟩
    rw [t_set q4 (fun a b ha hb => hap a b (by rw [← hN]; exact ha) (by rw [← hN]; exact hb)) (by rw [hN]; exact hj) _ a ha]
    congr 1
    unfold updV
    by_cases haj : a = j
    · subst haj
      rw [if_pos rfl]; dsimp only; rw [x_fv_put hfit]
    · rw [if_neg haj]; dsimp only; rw [x_fv_off (Or.inr haj)]
  have hlow : ∀ H1 : Heap, (∀ q, q ≠ E.2.2.1 + k → H1[q]? = H[q]?) → ∀ q, q < E.2.2.1 → H1[q]? = H[q]? := fun H1 h q hq => h q (by omega)
  rcases hlink with ⟨hfin, hlink⟩ | ⟨hfin, hin2, hdecl, hlink⟩
  · have hlay := hts _ (hin _ (u_in_lay hj))
    unfold u_lay at hlay
    rw [if_neg (by rw [hfin]; decide)] at hlay
    have h6 := u_store hfc hkC hkind hlay hi (hty j hj) hn hf
    rcases hlink with hlink | ⟨host, hlink⟩
    · exact W.putK hx hb (f := f) ⟨hown, hlink, ⟨_, _, _, hi⟩, hst⟩ (by rw [q2]; exact h6) q1 q3 hlt rfl rfl hdg fun H' e1 e2 e3 => kk H' _ rfl (key H' e1 e2 e3) (hlow H' e3)
    · exact va_WputK hx hb (f := f) hown hlink hi hst (by rw [q2]; exact h6) q1 q3 hlt rfl rfl hdg fun H' e1 e2 e3 => kk H' _ rfl (key H' e1 e2 e3) (hlow H' e3)
  · have hlay := hts _ (hin _ (u_in_lay hj))
    unfold u_lay at hlay
    rw [if_pos hfin] at hlay
    have hcf : m.cls = cf := by
      obtain ⟨_, _, c', _, _, _, -, -, hf', -, -, -, hown2, -⟩ := Cond.laysFinal_spec hlay
      have e1 : c' = cf := by have := hi.symm.trans hf'; simp at this; exact this.1.symm
      rw [hdecl] at hown2
      rw [← e1]; exact Option.some.inj (hown.symm.trans hown2)
    have h6 := u_fits hfc hkC hkind (Or.inr hlay) hi (hty j hj) hn hf
    exact W.putFinK hx hb hown hlink hi hst hcf hin2 (by rw [q2]; exact h6) q1 q3 hlt rfl rfl hdg fun H' e1 e2 e3 => kk H' _ rfl (key H' e1 e2 e3) (hlow H' e3)
end XHEAP
/-! ===== the shadow machine: arrays, new cells ===== -/
section XARR
variable {p : Program} {l : Launch} {e : Env} {R : Room} {s : State} {m : MethodId} {args : Array Value} {below : List Frame} {meth : Method} {c : Code} {H : Heap} {locs : List Loc} {cells slots : Nat} {Q : State → Prop}
variable {cc : ByteArray} {pc : Nat} {ls : Array Slot} {rest : List Value} {E : x_Ad} {G : x_G}
theorem x_alen (hx : p.tables.exec = Jvm.exec) (hb : c.code = cc) (hK : x_KA E s) (hH : x_HR E G H) {k t n : Nat} (hk : G.1[k]? = some (.inr (t, n))) (ht : t < 7) (hdg : decode cc pc = .ok (.arraylength, 1))
    (kk : W p l e R s m args below meth c H locs cells slots Q (F0 m (pc + 1) ls (.int (Int32.ofNat n) :: rest))) : W p l e R s m args below meth c H locs cells slots Q (F0 m pc ls (.ref (E.2.2.1 + k) :: rest)) :=
  W.alen (n := Int32.ofNat n) hx hb (hH.2 k _ hk) ((hK.2 t ht).1 n _) (by rw [arrV_size] <;> rfl) rfl rfl hdg kk
noncomputable def x_ald : Nat → Instr | 0 => .iaload | 1 => .laload | 2 => .baload | 3 => .baload | _ => .aaload
theorem x_ald_ok (hx : p.tables.exec = Jvm.exec) (hb : c.code = cc) (hK : x_KA E s) (hH : x_HR E G H) {k t n : Nat} (hk : G.1[k]? = some (.inr (t, n))) (ht : t < 7) {i : Int32} (hi : vp_in i n) (hdg : decode cc pc = .ok (x_ald t, 1))
    (kk : W p l e R s m args below meth c H locs cells slots Q (F0 m (pc + 1) ls (x_cv E.2.2.1 E.2.2.2 (x_fv G k i.toNatClampNeg (x_ety t)) :: rest))) : W p l e R s m args below meth c H locs cells slots Q (F0 m pc ls (.int i :: .ref (E.2.2.1 + k) :: rest)) := by
  have hlt : i.toNatClampNeg < n := Nat.not_le.mp fun q => hi (Or.inr q)
  have hc := hH.2 k _ hk
  have ha := (hK.2 t ht).1 n (fun j => x_cv E.2.2.1 E.2.2.2 (x_fv G k j (x_ety t)))
  have hsz : ¬ (i < 0 ∨ (arrV (E.2.1 t) n (fun j => x_cv E.2.2.1 E.2.2.2 (x_fv G k j (x_ety t)))).slots.size ≤ i.toNatClampNeg) := by rw [arrV_size]; exact hi
  have hv : (arrV (E.2.1 t) n (fun j => x_cv E.2.2.1 E.2.2.2 (x_fv G k j (x_ety t)))).slots[i.toNatClampNeg]? = some (x_cv E.2.2.1 E.2.2.2 (x_fv G k i.toNatClampNeg (x_ety t))) := arrV_read _ _ hlt
  have hu : (arrV (E.2.1 t) n (fun j => x_cv E.2.2.1 E.2.2.2 (x_fv G k j (x_ety t)))).vm ≠ .unknown := fun q => by cases q
  obtain rfl | rfl | rfl | rfl | rfl | rfl | rfl : t = 0 ∨ t = 1 ∨ t = 2 ∨ t = 3 ∨ t = 4 ∨ t = 5 ∨ t = 6 := by omega
  · exact W.iald hx hb hc ha hu hsz hv rfl rfl hdg kk
  · exact W.lald hx hb hc ha hu hsz hv rfl rfl hdg kk
  · exact W.bald hx hb hc ha hu hsz hv rfl rfl hdg kk
  · exact W.zald hx hb hc ha hu hsz hv rfl rfl hdg kk
  · exact W.aald hx hb hc ha rfl hu hsz hv rfl rfl hdg kk
  · exact W.aald hx hb hc ha rfl hu hsz hv rfl rfl hdg kk
  · exact W.aald hx hb hc ha rfl hu hsz hv rfl rfl hdg kk
theorem x_low {b k : Nat} {H H1 : Heap} (h : ∀ q : Nat, q ≠ b + k → H1[q]? = H[q]?) : ∀ q : Nat, q < b → H1[q]? = H[q]? := fun q hq => h q (by omega)
/-- an array's cell behind a store -/
theorem x_stored {k t n j : Nat} {v : Value} {H1 : Heap} (hH : x_HR E G H) (hk : G.1[k]? = some (.inr (t, n))) (hfit : x_fit (x_ety t) v = true) (e1 : H1[E.2.2.1 + k]? = some ((arrV (E.2.1 t) n (fun j => x_cv E.2.2.1 E.2.2.2 (x_fv G k j (x_ety t)))).setSlot j (x_cv E.2.2.1 E.2.2.2 v))) (e2 : H1.size = H.size) (e3 : ∀ q, q ≠ E.2.2.1 + k → H1[q]? = H[q]?) : x_HR E (x_put G k j (x_ety t) v) H1 := by
  refine x_HR_put hH hk e2 e3 ?_
  show H1[_]? = _
  rw [e1, arrV_store]
  congr 2
  funext q
  unfold updV
  by_cases hq : q = j
  · subst hq; rw [if_pos rfl, x_fv_put hfit]
  · rw [if_neg hq]; dsimp only; rw [x_fv_off (Or.inr hq)]
theorem x_iast_ok (hx : p.tables.exec = Jvm.exec) (hb : c.code = cc) (hK : x_KA E s) (hH : x_HR E G H) {k n : Nat} (hk : G.1[k]? = some (.inr (0, n))) {i x : Int32} (hi : vp_in i n) (hdg : decode cc pc = .ok (.iastore, 1))
    (kk : ∀ (H1 : Heap) (z : Loc), z.base = E.2.2.1 + k → x_HR E (x_put G k i.toNatClampNeg .int (.int x)) H1 → (∀ q, q < E.2.2.1 → H1[q]? = H[q]?) → W p l e R s m args below meth c H1 (locs ++ [z]) cells slots Q (F0 m (pc + 1) ls rest)) : W p l e R s m args below meth c H locs cells slots Q (F0 m pc ls (.int x :: .int i :: .ref (E.2.2.1 + k) :: rest)) :=
  W.iast hx hb (hH.2 k _ hk) ((hK.2 0 (by omega)).1 n _) (fun q => by cases q) (by rw [arrV_size]; exact hi) rfl rfl hdg fun H1 e1 e2 e3 => kk H1 _ rfl (x_stored (t := 0) hH hk rfl e1 e2 e3) (x_low e3)
theorem x_last_ok (hx : p.tables.exec = Jvm.exec) (hb : c.code = cc) (hK : x_KA E s) (hH : x_HR E G H) {k n : Nat} (hk : G.1[k]? = some (.inr (1, n))) {i : Int32} {x : Int64} (hi : vp_in i n) (hdg : decode cc pc = .ok (.lastore, 1))
    (kk : ∀ (H1 : Heap) (z : Loc), z.base = E.2.2.1 + k → x_HR E (x_put G k i.toNatClampNeg .long (.long x)) H1 → (∀ q, q < E.2.2.1 → H1[q]? = H[q]?) → W p l e R s m args below meth c H1 (locs ++ [z]) cells slots Q (F0 m (pc + 1) ls rest)) : W p l e R s m args below meth c H locs cells slots Q (F0 m pc ls (.long x :: .int i :: .ref (E.2.2.1 + k) :: rest)) :=
  W.last hx hb (hH.2 k _ hk) ((hK.2 1 (by omega)).1 n _) (fun q => by cases q) (by rw [arrV_size]; exact hi) rfl rfl hdg fun H1 e1 e2 e3 => kk H1 _ rfl (x_stored (t := 1) hH hk rfl e1 e2 e3) (x_low e3)
theorem x_nb_fit (x : Int32) : x_fit .byte (narrow .byte (.int x)) = true := by
  show (decide (narrow .byte (.int x.toInt8.toInt32) = .int x.toInt8.toInt32) && fits .byte (.int x.toInt8.toInt32)) = true
  rw [pk_nb, pk_fb]; simp
theorem x_nz_fit (x : Int32) : x_fit .boolean (narrow .boolean (.int x)) = true := by
  show (decide (narrow .boolean (.int (x &&& 1)) = .int (x &&& 1)) && fits .boolean (.int (x &&& 1))) = true
  have h : x &&& 1 = 0 ∨ x &&& 1 = 1 := by
    have h1 : (x &&& 1).toBitVec = x.toBitVec &&& 1#32 := rfl
    rcases Nat.mod_two_eq_zero_or_one x.toBitVec.toNat with q | q
    · left
      apply Int32.toBitVec_inj.mp
      apply BitVec.eq_of_toNat_eq
      rw [h1, BitVec.toNat_and]
      simpa using q
    · right
      apply Int32.toBitVec_inj.mp
      apply BitVec.eq_of_toNat_eq
      rw [h1, BitVec.toNat_and]
      simpa using q
  rcases h with h | h <;> rw [h] <;> decide
theorem x_bast_ok (hx : p.tables.exec = Jvm.exec) (hb : c.code = cc) (hK : x_KA E s) (hH : x_HR E G H) {k n : Nat} (hk : G.1[k]? = some (.inr (2, n))) {i x : Int32} (hi : vp_in i n) (hdg : decode cc pc = .ok (.bastore, 1))
    (kk : ∀ (H1 : Heap) (z : Loc), z.base = E.2.2.1 + k → x_HR E (x_put G k i.toNatClampNeg .byte (narrow .byte (.int x))) H1 → (∀ q, q < E.2.2.1 → H1[q]? = H[q]?) → W p l e R s m args below meth c H1 (locs ++ [z]) cells slots Q (F0 m (pc + 1) ls rest)) : W p l e R s m args below meth c H locs cells slots Q (F0 m pc ls (.int x :: .int i :: .ref (E.2.2.1 + k) :: rest)) :=
  W.bast hx hb (hH.2 k _ hk) ((hK.2 2 (by omega)).1 n _) (fun q => by cases q) (by rw [arrV_size]; exact hi) rfl rfl hdg fun H1 e1 e2 e3 => kk H1 _ rfl (x_stored (t := 2) hH hk (x_nb_fit x) e1 e2 e3) (x_low e3)
theorem x_zast_ok (hx : p.tables.exec = Jvm.exec) (hb : c.code = cc) (hK : x_KA E s) (hH : x_HR E G H) {k n : Nat} (hk : G.1[k]? = some (.inr (3, n))) {i x : Int32} (hi : vp_in i n) (hdg : decode cc pc = .ok (.bastore, 1))
    (kk : ∀ (H1 : Heap) (z : Loc), z.base = E.2.2.1 + k → x_HR E (x_put G k i.toNatClampNeg .boolean (narrow .boolean (.int x))) H1 → (∀ q, q < E.2.2.1 → H1[q]? = H[q]?) → W p l e R s m args below meth c H1 (locs ++ [z]) cells slots Q (F0 m (pc + 1) ls rest)) : W p l e R s m args below meth c H locs cells slots Q (F0 m pc ls (.int x :: .int i :: .ref (E.2.2.1 + k) :: rest)) :=
  W.zast hx hb (hH.2 k _ hk) ((hK.2 3 (by omega)).1 n _) (fun q => by cases q) (by rw [arrV_size]; exact hi) rfl rfl hdg fun H1 e1 e2 e3 => kk H1 _ rfl (x_stored (t := 3) hH hk (x_nz_fit x) e1 e2 e3) (x_low e3)
/-- the class of the elements of an array of references -/
noncomputable def x_eci : Nat → Nat | 4 => 9 | 5 => 4 | _ => 6
theorem x_aast_ok (hx : p.tables.exec = Jvm.exec) (hb : c.code = cc) (hK : x_KA E s) (hH : x_HR E G H) {k t n k2 : Nat} (hk : G.1[k]? = some (.inr (t, n))) (ht4 : 4 ≤ t) (ht : t < 7) {i : Int32} (hi : vp_in i n) (hk2 : G.1[k2]? = some (.inl (x_eci t))) (hdg : decode cc pc = .ok (.aastore, 1))
    (kk : ∀ (H1 : Heap) (z : Loc), z.base = E.2.2.1 + k → x_HR E (x_put G k i.toNatClampNeg (x_ety t) (.ref k2)) H1 → (∀ q, q < E.2.2.1 → H1[q]? = H[q]?) → W p l e R s m args below meth c H1 (locs ++ [z]) cells slots Q (F0 m (pc + 1) ls rest)) : W p l e R s m args below meth c H locs cells slots Q (F0 m pc ls (.ref (E.2.2.1 + k2) :: .int i :: .ref (E.2.2.1 + k) :: rest)) := by
  have hlt : i.toNatClampNeg < n := Nat.not_le.mp fun q => hi (Or.inr q)
  have h0 : ¬ i < 0 := fun q => hi (Or.inl q)
  have hcl : ∃ C T N, vwCl[x_eci t]? = some (C, T, N) ∧ x_ety t = .object C := by
    match t, ht4, ht with
    | 4, _, _ => exact ⟨_, _, _, rfl, rfl⟩
    | 5, _, _ => exact ⟨_, _, _, rfl, rfl⟩
    | 6, _, _ => exact ⟨_, _, _, rfl, rfl⟩
  obtain ⟨C, T, N, hvw, hty⟩ := hcl
  have hcls := (hK.1 (x_eci t) _ hvw).2
  have hra := (hK.2 t ht).2
  rw [hty] at hra
  obtain ⟨kA, comp, k1, k2', k3, -⟩ := hra
  have hcomp : comp = E.1.1 (x_eci t) := Option.some.inj (k3.symm.trans hcls.1)
  subst hcomp
  obtain ⟨cellV, g1, g2, g3, -⟩ := hH.2 k2 _ hk2
  obtain ⟨kC, hkC, -⟩ := hcls.2
  refine W.aast hx hb (hH.2 k _ hk) (fun q h => by cases h) (fun h => by cases h) k1 k2' rfl hkC ⟨h0, by rw [arrV_size]; exact hlt⟩ g1 (fun q h => by rw [g3] at h; cases h) (by rw [g2]; exact hkC) (by rw [g2]; exact va_assign hcls) rfl rfl hdg fun H1 e1 e2 e3 => ?_
  exact kk H1 _ rfl (x_stored hH hk (by rw [hty]; rfl) e1 e2 e3) (x_low e3)
theorem x_aastN_ok (hx : p.tables.exec = Jvm.exec) (hb : c.code = cc) (hK : x_KA E s) (hH : x_HR E G H) {k t n : Nat} (hk : G.1[k]? = some (.inr (t, n))) (ht4 : 4 ≤ t) (ht : t < 7) {i : Int32} (hi : vp_in i n) (hdg : decode cc pc = .ok (.aastore, 1))
    (kk : ∀ (H1 : Heap) (z : Loc), z.base = E.2.2.1 + k → x_HR E (x_put G k i.toNatClampNeg (x_ety t) .null) H1 → (∀ q, q < E.2.2.1 → H1[q]? = H[q]?) → W p l e R s m args below meth c H1 (locs ++ [z]) cells slots Q (F0 m (pc + 1) ls rest)) : W p l e R s m args below meth c H locs cells slots Q (F0 m pc ls (.null :: .int i :: .ref (E.2.2.1 + k) :: rest)) := by
  have hcl : ∃ C, x_ety t = .object C := by
    match t, ht4, ht with
    | 4, _, _ => exact ⟨_, rfl⟩
    | 5, _, _ => exact ⟨_, rfl⟩
    | 6, _, _ => exact ⟨_, rfl⟩
  obtain ⟨C, hty⟩ := hcl
  have ha := (hK.2 t ht).1
  rw [hty] at ha
  refine va_WaastN (C := C) hx hb (hH.2 k _ hk) (ha n _) (fun h => by cases h) (by rw [arrV_size]; exact hi) rfl rfl hdg fun H1 e1 e2 e3 => ?_
  exact kk H1 _ rfl (x_stored hH hk (by rw [hty]; rfl) e1 e2 e3) (x_low e3)
theorem x_new_ok (hx : p.tables.exec = Jvm.exec) (hb : c.code = cc) (hts : ∀ w ∈ x_gw, w.before args s = true) {own C : String} {T : u_T} {N ci index : Nat} (hC : x_CI ci C T N) (hnf : ∀ j, (x_fty ci).getD j .int ≠ .float ∧ (x_fty ci).getD j .int ≠ .double) (hown : s.vm.findClass own = some m.cls) (hK : x_KA E s) (hH : x_HR E G H)
    (hcl : (Cond.classLink own index C).before args s = true) (hinst : (Cond.instantiable C N).before args s = true) (hini : (Cond.initialized C).before args s = true) (hcells : cells + 1 ≤ R.cells) (hslots : slots + N ≤ R.slots) (hdg : decode cc pc = .ok (.new index, 3))
    (kk : ∀ H1 : Heap, x_HR E (x_new G (.inl ci)) H1 → (∀ q, q < E.2.2.1 → H1[q]? = H[q]?) → W p l e R s m args below meth c H1 locs (cells + 1) (slots + N) Q (F0 m (pc + 3) ls (.ref (E.2.2.1 + G.1.length) :: rest))) : W p l e R s m args below meth c H locs cells slots Q (F0 m pc ls rest) := by
  obtain ⟨hc, hN, hty, -, hin⟩ := hC
  have hKn := hK.1 ci _ hc
  refine W.newcK hx hb hown hcl hinst hini rfl hdg hcells hslots hKn.2.1 hH.1 fun H1 kC hkC e1 z1 o1 => ?_
  refine kk H1 (x_HR_new hH (by rw [z1, hH.1]) (fun q hq => o1 q (by rw [← hH.1]; exact hq)) ?_) (fun q hq => o1 q (by omega))
  have hb := u_born (fun k => (x_fty ci).getD k .int) hts hin hKn hkC e1 hty
  show t_OB _ _ (x_fty ci).length _ _ _
  rw [hN]
  refine hb.to fun j hj => ?_
  rw [x_fv_new0 (hnf j).1 (hnf j).2]
  cases (x_fty ci).getD j .int <;> rfl
noncomputable def x_atn : ArrayType → Option Nat | .int => some 0 | .long => some 1 | .byte => some 2 | .boolean => some 3 | _ => none
theorem x_newa_ok (hx : p.tables.exec = Jvm.exec) (hb : c.code = cc) (hK : x_KA E s) (hH : x_HR E G H) {at_ : ArrayType} {t : Nat} (hat : x_atn at_ = some t) {n : Int32} (harr : (Cond.arrayClass (newarray.typeOf at_)).before args s = true) (hn : ¬ n < 0) (hN : n.toNatClampNeg ≤ 100000)
    (hcells : cells + 1 ≤ R.cells) (hslots : slots + n.toNatClampNeg ≤ R.slots) (hdg : decode cc pc = .ok (.newarray at_, 2))
    (kk : ∀ H1 : Heap, x_HR E (x_new G (.inr (t, n.toNatClampNeg))) H1 → (∀ q, q < E.2.2.1 → H1[q]? = H[q]?) → W p l e R s m args below meth c H1 locs (cells + 1) (slots + n.toNatClampNeg) Q (F0 m (pc + 2) ls (.ref (E.2.2.1 + G.1.length) :: rest))) : W p l e R s m args below meth c H locs cells slots Q (F0 m pc ls (.int n :: rest)) := by
  have h4 : t < 4 ∧ newarray.typeOf at_ = x_ety t := by cases at_ <;> cases hat <;> exact ⟨by omega, rfl⟩
  refine va_newaK hx hb harr rfl hdg rfl hn rfl (by
    have : componentBytes (newarray.typeOf at_) ≤ 8 := by cases at_ <;> decide
    calc n.toNatClampNeg * componentBytes (newarray.typeOf at_) ≤ 100000 * 8 := Nat.mul_le_mul hN this
      _ ≤ 536870912 := by decide) hcells hslots hH.1 fun H1 cA e1 z1 o1 hAr hNm => ?_
  have hcA : cA = E.2.1 t := by
    have h5 := (hK.2 t (by omega)).2
    rw [← h4.2] at h5
    have h6 : s.vm.findClass ("[" ++ (newarray.typeOf at_).toString) = some (E.2.1 t) := by cases at_ <;> cases hat <;> exact h5
    exact Option.some.inj (hNm.symm.trans h6)
  subst hcA
  refine kk H1 (x_HR_new hH (by rw [z1, hH.1]) (fun q hq => o1 q (by rw [← hH.1]; exact hq)) ?_) (fun q hq => o1 q (by omega))
  show H1[_]? = _
  rw [e1, h4.2]
  congr 2
  funext j
  rw [x_fv_new0]
  · cases at_ <;> cases hat <;> rfl
  · cases at_ <;> cases hat <;> decide
  · cases at_ <;> cases hat <;> decide
theorem x_newq_ok (hx : p.tables.exec = Jvm.exec) (hb : c.code = cc) (hK : x_KA E s) (hH : x_HR E G H) {own C : String} {index t : Nat} (ht4 : 4 ≤ t) (ht : t < 7) (hty : x_ety t = .object C) (hown : s.vm.findClass own = some m.cls) (hclink : (Cond.classLink own index C).before args s = true) (hover : (Cond.arrayOver (.object C)).before args s = true) {n : Int32} (hn : ¬ n < 0) (hN : n.toNatClampNeg ≤ 100000)
    (hcells : cells + 1 ≤ R.cells) (hslots : slots + n.toNatClampNeg ≤ R.slots) (hdg : decode cc pc = .ok (.anewarray index, 3))
    (kk : ∀ H1 : Heap, x_HR E (x_new G (.inr (t, n.toNatClampNeg))) H1 → (∀ q, q < E.2.2.1 → H1[q]? = H[q]?) → W p l e R s m args below meth c H1 locs (cells + 1) (slots + n.toNatClampNeg) Q (F0 m (pc + 3) ls (.ref (E.2.2.1 + G.1.length) :: rest))) : W p l e R s m args below meth c H locs cells slots Q (F0 m pc ls (.int n :: rest)) := by
  refine W.anew hx hb hown hclink hover rfl hdg rfl hn (by omega) hcells hslots fun cA kA comp f1 f2 f3 f4 => ?_
  have hra := (hK.2 t ht).2
  rw [hty] at hra
  obtain ⟨kA', comp', -, -, -, k4⟩ := hra
  have hcA : cA = E.2.1 t := Option.some.inj (f1.symm.trans k4)
  subst hcA
  rw [show F0 m pc ls (.int n :: rest) = F0 m pc ls (.int n :: rest) from rfl, hH.1]
  refine kk _ (x_HR_new hH (by rw [Array.size_push]) (fun q hq => by rw [Array.getElem?_push, if_neg (Nat.ne_of_lt hq)]) ?_) (fun q hq => by rw [Array.getElem?_push, if_neg (by have := hH.1; omega)])
  show (H.push _)[_]? = _
  rw [← hH.1, Array.getElem?_push_size, arrV_new]
  congr 2
  funext j
  rw [hty, x_fv_new0 (by intro h; cases h) (by intro h; cases h)]
  rfl
/-- System.arraycopy of ints or longs -/
noncomputable def x_cpy (G : x_G) (k0 k1 t sp dp n : Nat) : x_G := if t = 1 then (G.1, G.2.1, (fun a => if a = k1 then va_cpy (G.2.2.1 k0) (G.2.2.1 k1) sp dp n else G.2.2.1 a), G.2.2.2) else (G.1, (fun a => if a = k1 then va_cpy (G.2.1 k0) (G.2.1 k1) sp dp n else G.2.1 a), G.2.2.1, G.2.2.2)
theorem x_cpy_ok (hx : p.tables.exec = Jvm.exec) (hb : c.code = cc) (hml : c.maxLocals = ls.size) (hK : x_KA E s) (hH : x_HR E G H) {own : String} {index k0 k1 t n0 n1 : Nat} (hown : s.vm.findClass own = some m.cls) (hlink : (Cond.methodLink own index arraycopyName).before args s = true) (hnat : (Cond.native arraycopyName).before args s = true) (hstat : (Cond.static arraycopyName).before args s = true) (hini : (Cond.initialized "java/lang/System").before args s = true)
    (ht : t < 2) (hk0 : G.1[k0]? = some (.inr (t, n0))) (hk1 : G.1[k1]? = some (.inr (t, n1))) {sp dp n : Int32} (h1 : ¬ sp < 0) (h2 : ¬ dp < 0) (h3 : ¬ n < 0) (h4 : sp.toNatClampNeg + n.toNatClampNeg ≤ n0) (h5 : dp.toNatClampNeg + n.toNatClampNeg ≤ n1)
    (hframes : 1 ≤ R.frames) (hlocals : 64 ≤ R.locals) (hdg : decode cc pc = .ok (.invokestatic index, 3))
    (kk : ∀ (H1 : Heap) (L : List Loc), (∀ z ∈ L, z.base = E.2.2.1 + k1) → x_HR E (x_cpy G k0 k1 t sp.toNatClampNeg dp.toNatClampNeg n.toNatClampNeg) H1 → (∀ q, q < E.2.2.1 → H1[q]? = H[q]?) → W p l e R s m args below meth c H1 (locs ++ L) cells slots Q (F0 m (pc + 3) ls [])) : W p l e R s m args below meth c H locs cells slots Q (F0 m pc ls [.int n, .int dp, .ref (E.2.2.1 + k1), .int sp, .ref (E.2.2.1 + k0)]) := by
  have nn : ∀ z : Int32, ¬ z < 0 → z.toInt = (z.toNatClampNeg : Int) := by
    intro z hz
    have hz0 : (0 : Int) ≤ z.toInt := by
      have := Int32.not_lt.mp hz
      simpa using Int32.le_iff_toInt_le.mp this
    show z.toInt = ((z.toInt.toNat : Nat) : Int)
    omega
  intro T hT X
  generalize hF0 : (fun j => x_cv E.2.2.1 E.2.2.2 (x_fv G k0 j (x_ety t))) = f0
  generalize hF1 : (fun j => x_cv E.2.2.1 E.2.2.2 (x_fv G k1 j (x_ety t))) = f1
  have hc0 : H[E.2.2.1 + k0]? = some (arrV (E.2.1 t) n0 f0) := by rw [← hF0]; exact hH.2 k0 _ hk0
  have hc1 : H[E.2.2.1 + k1]? = some (arrV (E.2.1 t) n1 f1) := by rw [← hF1]; exact hH.2 k1 _ hk1
  obtain ⟨-, q0, hq0, cm0, hkk0⟩ := (hK.2 t (by omega)).1 n0 f0
  obtain ⟨-, q1, hq1, cm1, hkk1⟩ := (hK.2 t (by omega)).1 n1 f1
  have hprim : refKind (x_ety t) = false := by
    match t, ht with
    | 0, _ => rfl
    | 1, _ => rfl
  obtain ⟨vm', X', step⟩ := X.arraycopy hx hown hlink hnat hstat hini (src := E.2.2.1 + k0) (dst := E.2.2.1 + k1) (cs := arrV (E.2.1 t) n0 f0) (cd := arrV (E.2.1 t) n1 f1) (srcPos := sp) (destPos := dp) (n := n) (by rw [hT]; exact hc0) (by rw [hT]; exact hc1)
    (fun _ h => by cases h) (fun _ h => by cases h) (fun h => by cases h) (fun h => by cases h) hq0 hq1 hkk0 hkk1 (by simp [hprim]) h1 h2 h3
    (by rw [nn sp h1, nn n h3, arrV_size]; omega)
    (by rw [nn dp h2, nn n h3, arrV_size]; omega)
    (fun vm₁ _ i hi => by
      have e : (arrV (E.2.1 t) n0 f0).slots.getD (sp.toNatClampNeg + i) .null = f0 (sp.toNatClampNeg + i) := by
        rw [Array.getD_eq_getD_getElem?, arrV_read _ _ (by omega)]
        rfl
      rw [e, ← hF0]
      match t, ht with
      | 0, _ => exact ⟨rfl, trivial⟩
      | 1, _ => exact ⟨rfl, trivial⟩)
    (g := F0 m pc ls [.int n, .int dp, .ref (E.2.2.1 + k1), .int sp, .ref (E.2.2.1 + k0)]) rfl (by rw [hml]) (rest := []) rfl (by rw [hb]; exact hdg) hframes (by
      have : nativeFrameWords "java/lang/System" "arraycopy" 5 + 11 ≤ 64 := by decide
      show 2 * 0 + _ + _ ≤ _
      simp only [List.map_nil, List.sum_nil]
      omega)
  have e1 : copied (arrV (E.2.1 t) n0 f0) (arrV (E.2.1 t) n1 f1) sp dp n = arrV (E.2.1 t) n1 (va_cpy f0 f1 sp.toNatClampNeg dp.toNatClampNeg n.toNatClampNeg) := va_copied (fun z => z) (E.2.1 t) (E.2.1 t) f0 f1 h4
  rw [e1] at X' step
  have hl : E.2.2.1 + k1 < H.size := (Array.getElem?_eq_some_iff.mp hc1).1
  generalize hcell : arrV (E.2.1 t) n1 (va_cpy f0 f1 sp.toNatClampNeg dp.toNatClampNeg n.toNatClampNeg) = cell at X' step
  have hheap : ((T.setVm vm').setCell (E.2.2.1 + k1) cell).heap = H.setIfInBounds (E.2.2.1 + k1) cell := by rw [← hT]; rfl
  have oq : ∀ q : Nat, q ≠ E.2.2.1 + k1 → (H.setIfInBounds (E.2.2.1 + k1) cell)[q]? = H[q]? := fun q hq => by simp [Array.getElem?_setIfInBounds, Ne.symm hq]
  have hHR : x_HR E (x_cpy G k0 k1 t sp.toNatClampNeg dp.toNatClampNeg n.toNatClampNeg) (H.setIfInBounds (E.2.2.1 + k1) cell) := by
    have hG1 : (x_cpy G k0 k1 t sp.toNatClampNeg dp.toNatClampNeg n.toNatClampNeg).1 = G.1 := by unfold x_cpy; split <;> rfl
    refine ⟨by rw [hG1]; simpa using hH.1, fun a sh hs => ?_⟩
    rw [hG1] at hs
    by_cases hak : a = k1
    · subst hak
      rw [hk1] at hs
      cases hs
      show (H.setIfInBounds (E.2.2.1 + a) cell)[E.2.2.1 + a]? = _
      rw [Array.getElem?_setIfInBounds, if_pos rfl, if_pos hl, ← hcell]
      congr 2
      funext j
      rw [← hF0, ← hF1]
      obtain rfl | rfl : t = 0 ∨ t = 1 := by omega
      · have h9 : (x_cpy G k0 a 0 sp.toNatClampNeg dp.toNatClampNeg n.toNatClampNeg).2.1 a = va_cpy (G.2.1 k0) (G.2.1 a) sp.toNatClampNeg dp.toNatClampNeg n.toNatClampNeg := by simp [x_cpy]
        refine Eq.symm ?_
        show x_cv _ _ (.int ((x_cpy G k0 a 0 sp.toNatClampNeg dp.toNatClampNeg n.toNatClampNeg).2.1 a j)) = _
        rw [h9]
        unfold va_cpy
        split <;> rfl
      · have h9 : (x_cpy G k0 a 1 sp.toNatClampNeg dp.toNatClampNeg n.toNatClampNeg).2.2.1 a = va_cpy (G.2.2.1 k0) (G.2.2.1 a) sp.toNatClampNeg dp.toNatClampNeg n.toNatClampNeg := by simp [x_cpy]
        refine Eq.symm ?_
        show x_cv _ _ (.long ((x_cpy G k0 a 1 sp.toNatClampNeg dp.toNatClampNeg n.toNatClampNeg).2.2.1 a j)) = _
        rw [h9]
        unfold va_cpy
        split <;> rfl
    · refine x_at_kept (hH.2 a sh hs) (oq _ (by omega)) (fun j' ty' => ?_)
      unfold x_cpy
      split <;> cases ty' <;> simp [x_fv, hak]
  obtain ⟨t', a1, b1⟩ := kk _ _ (fun z hz => by
    obtain ⟨w, -, hw⟩ := List.mem_map.mp hz
    rw [← hw]) hHR (fun q hq => oq q (by omega)) _ hheap X'
  exact ⟨t', step t' a1, b1⟩
end XARR
/-! ===== the shadow machine: the whole ===== -/
noncomputable def x_inf (mi : Nat) : x_Inf := (x_infs[mi]?).getD (yL_law, code, 4, some .boolean, (0, 0, 0, 0), true, 99)
noncomputable def x_y (mi : Nat) : MethodName := (x_inf mi).1
noncomputable def x_b (mi : Nat) : ByteArray := (x_inf mi).2.1
noncomputable def x_ml (mi : Nat) : Nat := (x_inf mi).2.2.1
noncomputable def x_rt (mi : Nat) : Option FieldType := (x_inf mi).2.2.2.1
noncomputable def x_pl (mi : Nat) : Nat × Nat × Nat × Nat := (x_inf mi).2.2.2.2.1
noncomputable def x_stat (mi : Nat) : Bool := (x_inf mi).2.2.2.2.2.1
noncomputable def x_mci (mi : Nat) : Nat := (x_inf mi).2.2.2.2.2.2
noncomputable def x_tab (mi : Nat) : List (Nat × x_Row) := (x_tabs[mi]?).getD []
noncomputable def x_row (mi pc : Nat) : Option x_Row := (x_tab mi).lookup pc
/-- the script: its length and its numbers -/
noncomputable abbrev x_Ext : Type := Nat × (Nat → Int32)
/-- fields of things outside -/
noncomputable def x_xf (b i : Nat) : Option Value := match b with
  | 0 => if i < 27 then some (.long (x_kwl.getD i 0)) else none
  | 1 => if i = 28 then some (.retAddr 29) else none
  | _ => if i = 28 then some (.int 0) else none
noncomputable def x_xn : Nat → String × String × String
  | 0 => ("HornBridge$Keyword", "letters", "J")
  | 1 => ("java/lang/String", "value", "[B")
  | _ => ("java/lang/String", "coder", "B")
/-- arrays outside -/
noncomputable def x_xar (X : x_Ext) (i : Nat) : Option (FieldType × Nat × (Nat → Value)) :=
  if i = 27 then some (.object "HornBridge$Keyword", 27, fun j => .retAddr j)
  else if i = 29 then some (.byte, x_keys.length, fun j => .int (x_keys.getD j 0))
  else if i = 30 then some (.int, X.1, fun j => .int (X.2 j)) else none
noncomputable def x_ldA (p : Nat → Bool) (G : x_G) (k : Nat) (i : Int32) : Option Value := match G.1[k]? with
  | some (.inr (t, n)) => if p t = true ∧ ¬ (i < 0 ∨ n ≤ i.toNatClampNeg) then some (x_fv G k i.toNatClampNeg (x_ety t)) else none
  | _ => none
noncomputable def x_ldX (ok : FieldType → Bool) (X : x_Ext) (e : Nat) (i : Int32) : Option Value := match x_xar X e with
  | some (ty, n, f) => if ok ty = true ∧ ¬ (i < 0 ∨ n ≤ i.toNatClampNeg) then some (f i.toNatClampNeg) else none
  | none => none
noncomputable def x_isObj : FieldType → Bool | .object _ => true | _ => false
noncomputable def x_stA (G : x_G) (k : Nat) (i : Int32) (t : Nat) (v : Value) : Option x_G := match G.1[k]? with
  | some (.inr (t', n)) => if t' = t ∧ ¬ (i < 0 ∨ n ≤ i.toNatClampNeg) then some (x_put G k i.toNatClampNeg (x_ety t) v) else none
  | _ => none
noncomputable def x_aty (G : x_G) (k : Nat) : Nat := match G.1[k]? with | some (.inr (t, _)) => t | _ => 99
noncomputable def x_heap (X : x_Ext) (a b : Nat) (z : Int) : Instr → List Value → x_G → Option (List Value × x_G)
  | .ldc _, st, G => if a = 0 then some (.int (Int32.ofInt z) :: st, G) else some (.retAddr 28 :: st, G)
  | .ldc_w _, st, G => some (.int (Int32.ofInt z) :: st, G)
  | .ldc2_w _, st, G => some (.long (Int64.ofInt z) :: st, G)
  | .getstatic _, st, G => match x_sts[a]? with | some s => some (s.2.2.2.1 :: st, G) | none => none
  | .getfield _, .ref k :: r, G => if G.1[k]? = some (.inl a) ∧ b < (x_fty a).length then some (x_fv G k b ((x_fty a).getD b .int) :: r, G) else none
  | .getfield _, .retAddr i :: r, G => if a = 200 then (match x_xf b i with | some v => some (v :: r, G) | none => none) else none
  | .putfield _, v :: .ref k :: r, G => if G.1[k]? = some (.inl a) ∧ b < (x_fty a).length ∧ x_fit ((x_fty a).getD b .int) v = true then some (r, x_put G k b ((x_fty a).getD b .int) v) else none
  | .arraylength, .ref k :: r, G => match G.1[k]? with | some (.inr (t, n)) => if t < 7 then some (.int (Int32.ofNat n) :: r, G) else none | _ => none
  | .arraylength, .retAddr i :: r, G => match x_xar X i with | some q => some (.int (Int32.ofNat q.2.1) :: r, G) | none => none
  | .iaload, .int i :: .ref k :: r, G => match x_ldA (fun t => t == 0) G k i with | some v => some (v :: r, G) | none => none
  | .laload, .int i :: .ref k :: r, G => match x_ldA (fun t => t == 1) G k i with | some v => some (v :: r, G) | none => none
  | .baload, .int i :: .ref k :: r, G => match x_ldA (fun t => t == 2 || t == 3) G k i with | some v => some (v :: r, G) | none => none
  | .aaload, .int i :: .ref k :: r, G => match x_ldA (fun t => decide (4 ≤ t) && decide (t < 7)) G k i with | some v => some (v :: r, G) | none => none
  | .iaload, .int i :: .retAddr e :: r, G => match x_ldX (fun t => t == .int) X e i with | some v => some (v :: r, G) | none => none
  | .baload, .int i :: .retAddr e :: r, G => match x_ldX (fun t => t == .byte) X e i with | some v => some (v :: r, G) | none => none
  | .aaload, .int i :: .retAddr e :: r, G => match x_ldX x_isObj X e i with | some v => some (v :: r, G) | none => none
  | .iastore, .int x :: .int i :: .ref k :: r, G => match x_stA G k i 0 (.int x) with | some G' => some (r, G') | none => none
  | .lastore, .long x :: .int i :: .ref k :: r, G => match x_stA G k i 1 (.long x) with | some G' => some (r, G') | none => none
  | .bastore, .int x :: .int i :: .ref k :: r, G => if x_aty G k = 2 then (match x_stA G k i 2 (narrow .byte (.int x)) with | some G' => some (r, G') | none => none) else match x_stA G k i 3 (narrow .boolean (.int x)) with | some G' => some (r, G') | none => none
  | .aastore, .null :: .int i :: .ref k :: r, G => if 4 ≤ x_aty G k ∧ x_aty G k < 7 then (match x_stA G k i (x_aty G k) .null with | some G' => some (r, G') | none => none) else none
  | .aastore, .ref k2 :: .int i :: .ref k :: r, G => if 4 ≤ x_aty G k ∧ x_aty G k < 7 ∧ G.1[k2]? = some (.inl (x_eci (x_aty G k))) then (match x_stA G k i (x_aty G k) (.ref k2) with | some G' => some (r, G') | none => none) else none
  | .new _, st, G => if a < 12 then some (.ref G.1.length :: st, x_new G (.inl a)) else none
  | .newarray at_, .int n :: r, G => match x_atn at_ with | some t => if ¬ n < 0 ∧ n.toNatClampNeg ≤ 100000 then some (.ref G.1.length :: r, x_new G (.inr (t, n.toNatClampNeg))) else none | none => none
  | .anewarray _, .int n :: r, G => if 4 ≤ a ∧ a < 7 ∧ ¬ n < 0 ∧ n.toNatClampNeg ≤ 100000 then some (.ref G.1.length :: r, x_new G (.inr (a, n.toNatClampNeg))) else none
  | _, _, _ => none
noncomputable def x_cat : Instr → Nat
  | .iload_n _ | .iload _ | .lload_n _ | .lload _ | .aload_n _ | .aload _ | .istore_n _ | .istore _ | .astore_n _ | .astore _ | .lstore_n _ | .lstore _ | .iinc _ _ => 1
  | .ifCond _ _ | .if_icmp _ _ | .if_acmp _ _ | .goto _ | .ifnull _ | .ifnonnull _ | .tableswitch _ _ _ _ | .lookupswitch _ _ => 2
  | .getfield _ | .putfield _ | .getstatic _ | .new _ | .newarray _ | .anewarray _ | .arraylength | .iaload | .laload | .baload | .aaload | .iastore | .lastore | .bastore | .aastore | .ldc _ | .ldc_w _ | .ldc2_w _ => 3
  | .invokevirtual _ | .invokespecial _ | .invokestatic _ => 4
  | .ireturn | .lreturn | .return_ => 5
  | _ => 0
/-- a result that fits the method's type -/
noncomputable def x_ret (rt : Option FieldType) : Instr → List Value → Option (Option Value)
  | .ireturn, [.int x] => match rt with
    | some .int => some (some (.int x))
    | some .boolean => if x = 0 ∨ x = 1 then some (some (.int x)) else none
    | some .byte => if narrow .byte (.int x) = .int x then some (some (.int x)) else none
    | some .char => if narrow .char (.int x) = .int x then some (some (.int x)) else none
    | _ => none
  | .lreturn, [.long x] => if rt = some .long then some (some (.long x)) else none
  | .return_, [] => if rt = none then some none else none
  | _, _ => none
noncomputable def x_words (as : List Value) : Nat := (as.map fun v => v.category).sum
/-- the receiver is an object of the method's class -/
noncomputable def x_rcv (mi : Nat) (G : x_G) : List Value → Bool
  | .ref k :: _ => match G.1[k]? with | some (.inl ci) => ci == x_mci mi && decide (x_mci mi < 12) | _ => false
  | .retAddr i :: _ => i == 28 && x_mci mi == 100
  | _ => false
noncomputable def x_mm (a : Nat) (x y : Int32) : Int32 := if a = 1002 then (if x < y then y else x) else (if y < x then y else x)
noncomputable def x_exec (X : x_Ext) : Nat → Nat → Nat → Nat → x_Lo → List Value → x_G → Option (Option Value × x_G)
  | 0, _, _, _, _, _, _ => none
  | n + 1, d, mi, pc, lo, st, G => match x_row mi pc with
    | none => none
    | some (ins, len, a, b, _, z) => match x_cat ins with
      | 0 => match x_alu ins st with
        | some st' => x_exec X n d mi (pc + len) lo st' G
        | none => none
      | 1 => match x_loc (x_ml mi) ins lo st with
        | some (lo', st') => x_exec X n d mi (pc + len) lo' st' G
        | none => none
      | 2 => match x_br a pc ins st with
        | some (pc', st') => x_exec X n d mi pc' lo st' G
        | none => none
      | 3 => match x_heap X a b z ins st G with
        | some (st', G') => x_exec X n d mi (pc + len) lo st' G'
        | none => none
      | 4 => if a = 1000 then (match st with
          | .ref k :: r => if 1 ≤ d ∧ x_words r ≤ 8 then x_exec X n d mi (pc + 3) lo r G else none
          | _ => none)
        else if a = 1001 then (match st with
          | [.int n', .int dp, .ref k1, .int sp, .ref k0] => match G.1[k0]?, G.1[k1]? with
            | some (.inr (t0, n0)), some (.inr (t1, n1)) => if t0 = t1 ∧ t0 < 2 ∧ 1 ≤ d ∧ ¬ sp < 0 ∧ ¬ dp < 0 ∧ ¬ n' < 0 ∧ sp.toNatClampNeg + n'.toNatClampNeg ≤ n0 ∧ dp.toNatClampNeg + n'.toNatClampNeg ≤ n1 then x_exec X n d mi (pc + 3) lo [] (x_cpy G k0 k1 t0 sp.toNatClampNeg dp.toNatClampNeg n'.toNatClampNeg) else none
            | _, _ => none
          | _ => none)
        else if a = 1002 ∨ a = 1003 then (match st with
          | .int y :: .int x :: r => if 1 ≤ d ∧ x_words r ≤ 8 then x_exec X n d mi (pc + 3) lo (.int (x_mm a x y) :: r) G else none
          | _ => none)
        else if 1 ≤ d ∧ b ≤ st.length ∧ x_words (st.drop b) ≤ 8 ∧ x_words (st.take b) ≤ x_ml a ∧ (x_stat a = true ∨ x_rcv a G (st.take b).reverse = true) then
          match x_exec X n (d - 1) a 0 (lv_args 0 (st.take b).reverse) [] G with
          | some (v, G') => x_exec X n d mi (pc + 3) lo (v.toList ++ st.drop b) G'
          | none => none
        else none
      | _ => match x_ret (x_rt mi) ins st with
        | some v => some (v, G)
        | none => none
/-! what must be so of the tables: a row says what the bytes say, and its words are in the tables -/
noncomputable def x_chkF (y0 : MethodName) (idx a b q : Nat) : Bool := match vwCl[a]?, lw_tbl[q]? with
  | some (_, T, N), some (.fieldLink own i r n d) => decide (b < N) && decide (own = y0.cls) && decide (i = idx) && decide ((r, n, d) = ((T b).1, (T b).2.1, (T b).2.2.1))
  | some (_, T, N), some (.fieldLinkNest own i r n d _) => decide (b < N) && decide (own = y0.cls) && decide (i = idx) && decide ((r, n, d) = ((T b).1, (T b).2.1, (T b).2.2.1))
  | _, _ => false
noncomputable def x_chkP (y0 : MethodName) (idx a b q : Nat) : Bool := match vwCl[a]?, lw_tbl[q]? with
  | some (_, T, N), some (.fieldLink own i r n d) => decide (b < N) && decide (own = y0.cls) && decide (i = idx) && decide ((r, n, d) = ((T b).1, (T b).2.1, (T b).2.2.1)) && (!(T b).2.2.2 || (decide (y0.name = "<init>") && decide ((T b).1 = own)))
  | some (_, T, N), some (.fieldLinkNest own i r n d _) => decide (b < N) && decide (own = y0.cls) && decide (i = idx) && decide ((r, n, d) = ((T b).1, (T b).2.1, (T b).2.2.1)) && !(T b).2.2.2
  | _, _ => false
noncomputable def x_chkX (y0 : MethodName) (idx b q : Nat) : Bool := match lw_tbl[q]? with
  | some (.fieldLink own i r n d) => decide (own = y0.cls) && decide (i = idx) && decide ((r, n, d) = x_xn b)
  | some (.fieldLinkNest own i r n d _) => decide (own = y0.cls) && decide (i = idx) && decide ((r, n, d) = x_xn b)
  | _ => false
noncomputable def x_chkS (y0 : MethodName) (idx a q : Nat) : Bool := match x_sts[a]?, lw_tbl[q]? with
  | some s, some (.fieldLink own i r n d) => decide (own = y0.cls) && decide (i = idx) && decide ((r, n, d) = (s.1, s.2.1, s.2.2.1))
  | _, _ => false
noncomputable def x_chkN (y0 : MethodName) (idx a q : Nat) : Bool := match vwCl[a]?, lw_tbl[q]? with
  | some (C, _, _), some (.classLink own i C') => decide (own = y0.cls) && decide (i = idx) && decide (C = C')
  | _, _ => false
noncomputable def x_chkQ (y0 : MethodName) (idx a q : Nat) : Bool := match lw_tbl[q]? with
  | some (.classLink own i C') => decide (own = y0.cls) && decide (i = idx) && decide (x_ety a = .object C')
  | _ => false
noncomputable def x_chkK (y0 : MethodName) (idx q : Nat) (z : Int) : Bool := match lw_tbl[q]? with
  | some (.constant own i v) => decide (own = y0.cls) && decide (i = idx) && decide (v = Int32.ofInt z)
  | _ => false
noncomputable def x_chkL (y0 : MethodName) (idx q : Nat) (z : Int) : Bool := match lw_tbl[q]? with
  | some (.constantLong own i v) => decide (own = y0.cls) && decide (i = idx) && decide (v = Int64.ofInt z)
  | _ => false
/-- a call: of what kind it is, its link, how many arguments -/
noncomputable def x_chkC (y0 : MethodName) (idx a b q : Nat) (kind : Nat) : Bool :=
  if a = 1000 then kind == 1 && (match lw_tbl[q]? with
    | some (.methodLink own i y) => decide (own = y0.cls) && decide (i = idx) && decide (y = Lib.objectInit)
    | _ => false)
  else if a = 1001 then kind == 2 && (match lw_tbl[q]? with
    | some (.methodLink own i y) => decide (own = y0.cls) && decide (i = idx) && decide (y = arraycopyName)
    | _ => false)
  else if a = 1002 ∨ a = 1003 then kind == 2 && (match lw_tbl[q]? with
    | some (.methodLink own i y) => decide (own = y0.cls) && decide (i = idx) && decide (y = if a = 1002 then Lib.Math.max.name else Lib.Math.min.name)
    | _ => false)
  else decide (a < n_L_law) && (match lw_tbl[q]? with
    | some (.methodLink own i y) => decide (own = y0.cls) && decide (i = idx) && decide (y = x_y a)
    | some (.methodLinkNest own i y _) => decide (own = y0.cls) && decide (i = idx) && decide (y = x_y a)
    | _ => false) && (match kind with
    | 0 => !x_stat a && decide ((parseMethodDescriptor (x_y a).desc).map (fun d => d.parameters.length + 1) = some b) && decide ((x_y a).name ≠ "<init>")
    | 1 => !x_stat a && decide ((parseMethodDescriptor (x_y a).desc).map (fun d => d.parameters.length + 1) = some b) && decide ((x_y a).name = "<init>") && decide (x_rt a = none)
    | _ => x_stat a && decide ((parseMethodDescriptor (x_y a).desc).map (fun d => d.parameters.length) = some b))
noncomputable def x_chkW (y0 : MethodName) (a b q : Nat) (z : Int) : Instr → Bool
  | .getfield i => if a = 200 then x_chkX y0 i b q else x_chkF y0 i a b q
  | .putfield i => x_chkP y0 i a b q
  | .getstatic i => x_chkS y0 i a q
  | .new i => x_chkN y0 i a q
  | .anewarray i => x_chkQ y0 i a q
  | .ldc i => if a = 0 then x_chkK y0 i q z else decide (y0.cls = RX12) && decide (i = x_keyix)
  | .ldc_w i => x_chkK y0 i q z
  | .ldc2_w i => x_chkL y0 i q z
  | .invokevirtual i => x_chkC y0 i a b q 0
  | .invokespecial i => x_chkC y0 i a b q 1
  | .invokestatic i => x_chkC y0 i a b q 2
  | _ => true
noncomputable def x_chkO (pc a len : Nat) (ins : Instr) : Bool := if x_cat ins = 2 then (match x_off ins with | some o => decide (len = 3) && decide ((pc : Int) + o = (a : Int)) | none => true) else decide (len = x_len ins)
noncomputable def x_chk (y0 : MethodName) (b0 : ByteArray) (pc : Nat) : x_Row → Bool
  | (ins, len, a, b, q, z) => decide (decode b0 pc = .ok (ins, len)) && x_chkO pc a len ins && x_chkW y0 a b q z ins
/-- what must be so of a method -/
noncomputable def x_chkM (mi : Nat) : Bool := plainName (x_y mi).cls && decide ((x_y mi).cls ≠ "java/lang/invoke/MethodHandle" ∧ (x_y mi).cls ≠ "java/lang/invoke/VarHandle") && decide (x_ml mi ≤ 20) && decide (lw_tbl[(x_pl mi).2.2.2]? = some (.initialized (x_y mi).cls)) &&
  (if x_stat mi then decide (lw_tbl[(x_pl mi).2.1]? = some (.static (x_y mi))) else decide (lw_tbl[(x_pl mi).2.1]? = some (.instanceMethod (x_y mi))) && (decide ((x_y mi).name = "<init>") || decide (lw_tbl[(x_pl mi).2.2.1]? = some (.selects (x_y mi).cls (x_y mi) (x_y mi))))) &&
  (decide (x_mci mi = 99) || (decide (x_mci mi = 100) && decide ((x_y mi).cls = "java/lang/String")) || decide ((vwCl[x_mci mi]?).map (fun q => q.1) = some (x_y mi).cls))
noncomputable def x_okM (mi : Nat) : Prop := x_chkM mi = true ∧ lw_tbl[(x_pl mi).1]? = some (.code (x_y mi) (x_b mi) (x_ml mi) (x_rt mi))
noncomputable def x_chkT (y0 : MethodName) (b0 : ByteArray) (l : List (Nat × x_Row)) : Bool := l.all (fun r => x_chk y0 b0 r.1 r.2)
/-! ===== the heap's instructions are what the machine does ===== -/
noncomputable def x_sz : Nat ⊕ (Nat × Nat) → Nat | .inl ci => (x_fty ci).length | .inr (_, n) => n
noncomputable def x_nS (G : x_G) : Nat := (G.1.map x_sz).sum
theorem x_nS_new (G : x_G) (sh : Nat ⊕ (Nat × Nat)) : x_nS (x_new G sh) = x_nS G + x_sz sh := by simp [x_nS, x_new]
theorem x_nC_new (G : x_G) (sh : Nat ⊕ (Nat × Nat)) : (x_new G sh).1.length = G.1.length + 1 := by simp [x_new]
theorem x_nS_eq {G G' : x_G} (h : G'.1 = G.1) : x_nS G' = x_nS G := by simp [x_nS, h]
noncomputable def x_Ao (E : x_Ad) : Nat → Prop := fun q => E.2.2.1 ≤ q
noncomputable def x_ngw : Cond → Bool | .fieldLinkNest .. => true | .methodLinkNest .. => true | .arrayOver (.object _) => true | _ => false
/-- what is known of the things outside, and of the words that a callee must be told -/
noncomputable def x_XF (E : x_Ad) (X : x_Ext) (U : State) : Prop :=
  (∀ w ∈ lw_tbl, x_ngw w = true → va_Nw w U) ∧
  (∀ (a : Nat) (s : String × String × String × Value × Nat × Nat), x_sts[a]? = some s → va_Z s.1 s.2.1 s.2.2.1 (x_cv E.2.2.1 E.2.2.2 s.2.2.2.1) (x_Ao E) U U.heap) ∧
  (∀ (b i : Nat) (v : Value), x_xf b i = some v → ∃ q : Nat, E.2.2.2 i = some q ∧ va_OF (x_xn b).1 (x_xn b).2.1 (x_xn b).2.2 (x_cv E.2.2.1 E.2.2.2 v) q (x_Ao E) U U.heap) ∧
  (∀ (i : Nat) (ty : FieldType) (n : Nat) (f : Nat → Value), x_xar X i = some (ty, n, f) → ∃ q : Nat, E.2.2.2 i = some q ∧ va_T ty q n (fun j => x_cv E.2.2.1 E.2.2.2 (f j)) (x_Ao E) U U.heap) ∧
  (∃ q : Nat, E.2.2.2 28 = some q ∧ vk_R RX12 x_keyix x_keytx q U ∧ va_O "java/lang/String" q (x_Ao E) U U.heap) ∧ x_XA E.2.2.1 E.2.2.2
theorem x_ng_warm {w : Cond} {s U : State} (hn : x_ngw w = true) (hW : s.WarmedH U.vm) (h : va_Nw w s) : va_Nw w U := by
  unfold x_ngw at hn
  split at hn
  · exact va_Nw.warmF hW h
  · exact va_Nw.warmM hW h
  · exact va_AO.moved hW.alike h
  · cases hn
theorem x_ng_same {w : Cond} {u U : State} (hn : x_ngw w = true) (hv : u.vm = U.vm) (h : va_Nw w u) : va_Nw w U := by
  unfold x_ngw at hn
  split at hn
  · exact va_Nw.same rfl hv h
  · exact va_Nw.same rfl hv h
  · exact va_AO.moved (by rw [hv]; exact Vm.Alike.refl _) h
  · cases hn
theorem x_ng_use {w : Cond} {A : Array Value} {U : State} (hn : x_ngw w = true) (h : va_Nw w U) : w.before A U = true := by
  unfold x_ngw at hn
  split at hn
  · exact va_Nw.use rfl h
  · exact va_Nw.use rfl h
  · exact va_AO.use h
  · cases hn
theorem x_XF_moved {E : x_Ad} {X : x_Ext} {s U : State} {H : Heap} {locs : List Loc} (h : x_XF E X s) (hU : U.heap = H) (hW : s.WarmedH U.vm) (hS : va_S (x_Ao E) s.heap H locs) : x_XF E X U := by
  obtain ⟨h1, h2, h3, h4, ⟨q, h5, h6, h7⟩, h8⟩ := h
  subst hU
  refine ⟨fun w hw hn => x_ng_warm hn hW (h1 w hw hn), fun a st hs => (va_Z.moved hW.alike ((h2 a st hs).kept hS.2.1)), fun b i v hv => ?_, fun i ty n f hf => ?_, ⟨q, h5, h6.warm hW, va_O.moved hW.alike (h7.kept hS.2.1)⟩, h8⟩
  · obtain ⟨q, g1, g2⟩ := h3 b i v hv
    exact ⟨q, g1, va_OF.moved hW.alike (g2.kept hS.2.1)⟩
  · obtain ⟨q, g1, g2⟩ := h4 i ty n f hf
    exact ⟨q, g1, va_T.moved hW.alike (g2.kept hS.2.1)⟩
theorem x_XF_same {E : x_Ad} {X : x_Ext} {u U : State} (h : x_XF E X u) (hv : U.vm = u.vm) (hh : U.heap = u.heap) : x_XF E X U := by
  obtain ⟨h1, h2, h3, h4, ⟨q, h5, h6, h7⟩, h8⟩ := h
  have hA : u.vm.Alike U.vm := by rw [hv]; exact Vm.Alike.refl _
  refine ⟨fun w hw hn => x_ng_same hn hv.symm (h1 w hw hn), fun a st hs => ?_, fun b i v hv => ?_, fun i ty n f hf => ?_, ⟨q, h5, h6.same hv, ?_⟩, h8⟩
  · rw [hh]; exact va_Z.moved hA (h2 a st hs)
  · obtain ⟨q, g1, g2⟩ := h3 b i v hv
    exact ⟨q, g1, by rw [hh]; exact va_OF.moved hA g2⟩
  · obtain ⟨q, g1, g2⟩ := h4 i ty n f hf
    exact ⟨q, g1, by rw [hh]; exact va_T.moved hA g2⟩
  · rw [hh]; exact va_O.moved hA h7
noncomputable def x_Cx (p : Program) (s : State) (m : MethodId) (args : Array Value) (meth : Method) (c : Code) (mi : Nat) : Prop := p.tables.exec = Jvm.exec ∧ c.code = x_b mi ∧ c.maxLocals = x_ml mi ∧ s.vm.findClass (x_y mi).cls = some m.cls ∧ (∀ w ∈ x_gw, w.before args s = true) ∧ ((x_y mi).name = "<init>" → meth.name = "<init>")
theorem x_wd {args : Array Value} {s : State} (hts : ∀ w ∈ x_gw, w.before args s = true) {q : Nat} {w : Cond} (h : lw_tbl[q]? = some w) (hg : goodWord w = true) : w.before args s = true := hts w (List.mem_filter.mpr ⟨List.mem_of_getElem? h, hg⟩)
theorem x_ng {E : x_Ad} {X : x_Ext} {args : Array Value} {s : State} (h : x_XF E X s) {q : Nat} {w : Cond} (hw : lw_tbl[q]? = some w) (hn : x_ngw w = true) : w.before args s = true := by
  exact x_ng_use hn (h.1 w (List.mem_of_getElem? hw) hn)
theorem x_S_step {E : x_Ad} {H0 H H1 : Heap} {locs L : List Loc} (h : va_S (x_Ao E) H0 H locs) (hz : H.size ≤ H1.size) (hq : ∀ q, q < E.2.2.1 → H1[q]? = H[q]?) (hL : ∀ z ∈ L, E.2.2.1 ≤ z.base) : va_S (x_Ao E) H0 H1 (locs ++ L) :=
  ⟨Nat.le_trans h.1 hz, fun q h1 h2 => (hq q (Nat.not_le.mp h2)).trans (h.2.1 q h1 h2), fun z hz => (List.mem_append.mp hz).elim (h.2.2 z) (hL z)⟩
theorem x_fd {own own' r n d r' n' d' : String} {i i' : Nat} {Y : Bool} (h : (decide (own = own') && decide (i = i') && decide ((r, n, d) = (r', n', d'))) = true) : own = own' ∧ i = i' ∧ r = r' ∧ n = n' ∧ d = d' := by
  simp only [Bool.and_eq_true, decide_eq_true_eq, Prod.mk.injEq] at h
  exact ⟨h.1.1, h.1.2, h.2.1, h.2.2.1, h.2.2.2⟩
section XHOK
variable {p : Program} {l : Launch} {e : Env} {R : Room} {s : State} {m : MethodId} {args : Array Value} {below : List Frame} {meth : Method} {c : Code} {H : Heap} {locs : List Loc} {cells slots : Nat} {Q : State → Prop}
variable {pc : Nat} {ls : Array Slot} {E : x_Ad} {G : x_G} {X : x_Ext} {mi : Nat}
theorem x_chkF_spec (hts : ∀ w ∈ x_gw, w.before args s = true) (hF : x_XF E X s) {idx a b q : Nat} (h : x_chkF (x_y mi) idx a b q = true) : ∃ C T N, vwCl[a]? = some (C, T, N) ∧ b < N ∧ ((Cond.fieldLink (x_y mi).cls idx (T b).1 (T b).2.1 (T b).2.2.1).before args s = true ∨ ∃ host, (Cond.fieldLinkNest (x_y mi).cls idx (T b).1 (T b).2.1 (T b).2.2.1 host).before args s = true) := by
  unfold x_chkF at h
  split at h
  next C T N own i r n d e1 e2 =>
    simp only [Bool.and_eq_true, decide_eq_true_eq, Prod.mk.injEq] at h
    obtain ⟨⟨⟨h1, rfl⟩, rfl⟩, rfl, rfl, rfl⟩ := h
    exact ⟨C, T, N, e1, h1, Or.inl (x_wd hts e2 rfl)⟩
  next C T N own i r n d ho e1 e2 =>
    simp only [Bool.and_eq_true, decide_eq_true_eq, Prod.mk.injEq] at h
    obtain ⟨⟨⟨h1, rfl⟩, rfl⟩, rfl, rfl, rfl⟩ := h
    exact ⟨C, T, N, e1, h1, Or.inr ⟨ho, x_ng hF e2 rfl⟩⟩
  next => cases h
theorem x_chkP_spec (hts : ∀ w ∈ x_gw, w.before args s = true) (hF : x_XF E X s) (hin : (x_y mi).name = "<init>" → meth.name = "<init>") {idx a b q : Nat} (h : x_chkP (x_y mi) idx a b q = true) : ∃ C T N, vwCl[a]? = some (C, T, N) ∧ b < N ∧ (((T b).2.2.2 = false ∧ ((Cond.fieldLink (x_y mi).cls idx (T b).1 (T b).2.1 (T b).2.2.1).before args s = true ∨ ∃ host, (Cond.fieldLinkNest (x_y mi).cls idx (T b).1 (T b).2.1 (T b).2.2.1 host).before args s = true)) ∨ ((T b).2.2.2 = true ∧ meth.name = "<init>" ∧ (T b).1 = (x_y mi).cls ∧ (Cond.fieldLink (x_y mi).cls idx (T b).1 (T b).2.1 (T b).2.2.1).before args s = true)) := by
  unfold x_chkP at h
  split at h
  next C T N own i r n d e1 e2 =>
    simp only [Bool.and_eq_true, Bool.or_eq_true, Bool.not_eq_true', decide_eq_true_eq, Prod.mk.injEq] at h
    obtain ⟨⟨⟨⟨h1, rfl⟩, rfl⟩, rfl, rfl, rfl⟩, h5⟩ := h
    refine ⟨C, T, N, e1, h1, ?_⟩
    cases hb : (T b).2.2.2 with
    | false => exact Or.inl ⟨rfl, Or.inl (x_wd hts e2 rfl)⟩
    | true =>
      rw [hb] at h5
      rcases h5 with h5 | h5
      · cases h5
      · exact Or.inr ⟨rfl, hin h5.1, h5.2, x_wd hts e2 rfl⟩
  next C T N own i r n d ho e1 e2 =>
    simp only [Bool.and_eq_true, Bool.not_eq_true', decide_eq_true_eq, Prod.mk.injEq] at h
    obtain ⟨⟨⟨⟨h1, rfl⟩, rfl⟩, rfl, rfl, rfl⟩, h5⟩ := h
    exact ⟨C, T, N, e1, h1, Or.inl ⟨h5, Or.inr ⟨ho, x_ng hF e2 rfl⟩⟩⟩
  next => cases h
theorem x_ldA_spec {pr : Nat → Bool} {k : Nat} {i : Int32} {v : Value} (h : x_ldA pr G k i = some v) : ∃ t n, G.1[k]? = some (.inr (t, n)) ∧ pr t = true ∧ vp_in i n ∧ v = x_fv G k i.toNatClampNeg (x_ety t) := by
  unfold x_ldA at h
  split at h
  next t n hk =>
    split at h
    next hc => cases h; exact ⟨t, n, hk, hc.1, hc.2, rfl⟩
    next => cases h
  next => cases h
theorem x_ldX_spec {ok : FieldType → Bool} {i : Int32} {k : Nat} {v : Value} (h : x_ldX ok X k i = some v) : ∃ ty n f, x_xar X k = some (ty, n, f) ∧ ok ty = true ∧ vp_in i n ∧ v = f i.toNatClampNeg := by
  unfold x_ldX at h
  split at h
  next ty n f hk =>
    split at h
    next hc => cases h; exact ⟨ty, n, f, hk, hc.1, hc.2, rfl⟩
    next => cases h
  next => cases h
theorem x_stA_spec {k t : Nat} {i : Int32} {v : Value} {G' : x_G} (h : x_stA G k i t v = some G') : ∃ n, G.1[k]? = some (.inr (t, n)) ∧ vp_in i n ∧ G' = x_put G k i.toNatClampNeg (x_ety t) v := by
  unfold x_stA at h
  split at h
  next t' n hk =>
    split at h
    next hc => obtain ⟨rfl, hc⟩ := hc; cases h; exact ⟨n, hk, hc, rfl⟩
    next => cases h
  next => cases h
end XHOK
theorem x_cplC : (List.range vwCl.length).all (fun a => match vwCl[a]?, x_cpl[a]? with
    | some (C, _, N), some (i, j) => decide (lw_tbl[i]? = some (.instantiable C N)) && decide (lw_tbl[j]? = some (.initialized C))
    | _, _ => false) = true := by decide +kernel
theorem x_cpl_ok (a : Nat) (C : String) (T : u_T) (N : Nat) (h : vwCl[a]? = some (C, T, N)) : lw_tbl[((x_cpl[a]?).getD (0, 0)).1]? = some (.instantiable C N) ∧ lw_tbl[((x_cpl[a]?).getD (0, 0)).2]? = some (.initialized C) := by
  have h1 := List.all_eq_true.mp x_cplC a (List.mem_range.mpr (List.getElem?_eq_some_iff.mp h).1)
  rw [h] at h1
  cases h2 : x_cpl[a]? with
  | none => rw [h2] at h1; cases h1
  | some ij =>
    obtain ⟨i, j⟩ := ij
    rw [h2] at h1
    simpa using h1
theorem x_aplC : ([ArrayType.int, .long, .byte, .boolean] : List ArrayType).all (fun t => decide (lw_tbl[(x_apl[(x_atn t).getD 0]?).getD 0]? = some (.arrayClass (newarray.typeOf t)))) = true := by decide +kernel
theorem x_apl_ok {args : Array Value} {s : State} (hts : ∀ w ∈ x_gw, w.before args s = true) {at_ : ArrayType} {t : Nat} (h : x_atn at_ = some t) : (Cond.arrayClass (newarray.typeOf at_)).before args s = true := by
  have h1 := List.all_eq_true.mp x_aplC at_ (by cases at_ <;> first | (cases h; done) | simp)
  exact x_wd hts (decide_eq_true_eq.mp h1) rfl
theorem x_apqC : ([4, 5, 6] : List Nat).all (fun t => decide (lw_tbl[(x_apl[t]?).getD 0]? = some (.arrayOver (x_ety t)))) = true := by decide +kernel
theorem x_apq_ok {E : x_Ad} {X : x_Ext} {args : Array Value} {s : State} (hF : x_XF E X s) {t : Nat} {C : String} (h4 : 4 ≤ t) (h7 : t < 7) (hty : x_ety t = .object C) : (Cond.arrayOver (.object C)).before args s = true := by
  have h1 := List.all_eq_true.mp x_apqC t (by
    obtain rfl | rfl | rfl : t = 4 ∨ t = 5 ∨ t = 6 := by omega
    all_goals simp)
  have h2 := decide_eq_true_eq.mp h1
  rw [hty] at h2
  exact x_ng hF h2 rfl
/-! ===== every instruction of the heap ===== -/
theorem x_ar {a b c d : Nat} (h : a + b = c + (b + d)) : a = c + d := by omega
section XHK
variable {p : Program} {l : Launch} {e : Env} {R : Room} {s : State} {m : MethodId} {args : Array Value} {below : List Frame} {meth : Method} {c : Code} {H : Heap} {locs : List Loc} {cells slots : Nat} {Q : State → Prop}
variable {pc : Nat} {ls : Array Slot} {E : x_Ad} {G : x_G} {X : x_Ext} {mi : Nat}
theorem x_cv_ext {bs : Nat} {xa : Nat → Option Nat} {i q : Nat} (h : xa i = some q) : x_cv bs xa (.retAddr i) = .ref q := by simp [x_cv, h, va_rf]
set_option maxHeartbeats 4000000 in
theorem x_heap_ok (C0 : x_Cx p s m args meth c mi) (hK : x_KA E s) (hF : x_XF E X s) (hH : x_HR E G H) (hS : va_S (x_Ao E) s.heap H locs) {ins : Instr} {a b q : Nat} {z : Int} {st st' : List Value} {G' : x_G} (hd : decode (x_b mi) pc = .ok (ins, x_len ins)) (hw : x_chkW (x_y mi) a b q z ins = true) (h : x_heap X a b z ins st G = some (st', G')) {cells' slots' : Nat} (hc : cells' + G.1.length = cells + G'.1.length) (hs : slots' + x_nS G = slots + x_nS G') (hcR : cells' ≤ R.cells) (hsR : slots' ≤ R.slots)
    (k : ∀ (H1 : Heap) (locs1 : List Loc), x_HR E G' H1 → va_S (x_Ao E) s.heap H1 locs1 → W p l e R s m args below meth c H1 locs1 cells' slots' Q (F0 m (pc + x_len ins) ls (st'.map (x_cv E.2.2.1 E.2.2.2)))) : W p l e R s m args below meth c H locs cells slots Q (F0 m pc ls (st.map (x_cv E.2.2.1 E.2.2.2))) := by
  obtain ⟨hx, hb, hml, hown, hts, hinit⟩ := C0
  have hsm : G'.1 = G.1 → cells' = cells ∧ slots' = slots := fun hG => by
    rw [hG] at hc; rw [x_nS_eq hG] at hs; exact ⟨by omega, by omega⟩
  have hput : ∀ {k j : Nat} {ty : FieldType} {v : Value} {H1 : Heap} {zz : Loc}, zz.base = E.2.2.1 + k → x_HR E (x_put G k j ty v) H1 → (∀ q, q < E.2.2.1 → H1[q]? = H[q]?) → va_S (x_Ao E) s.heap H1 (locs ++ [zz]) := by
    intro k j ty v H1 zz hz h1 h2
    refine x_S_step hS (by rw [h1.1, hH.1, x_put_1]; exact Nat.le_refl _) h2 (fun y hy => ?_)
    rw [List.mem_singleton.mp hy, hz]
    omega
  have hnew : ∀ {sh : Nat ⊕ (Nat × Nat)} {H1 : Heap}, x_HR E (x_new G sh) H1 → (∀ q, q < E.2.2.1 → H1[q]? = H[q]?) → va_S (x_Ao E) s.heap H1 locs := by
    intro sh H1 h1 h2
    have h3 := x_S_step (L := []) hS (by rw [h1.1, hH.1, x_nC_new]; omega) h2 (fun y hy => by cases hy)
    rwa [List.append_nil] at h3
  unfold x_heap at h
  split at h
  -- ldc
  · rename_i i st G
    unfold x_chkW at hw
    dsimp only at hw
    split at h
    · next ha =>
      cases h
      obtain ⟨rfl, rfl⟩ := hsm rfl
      rw [if_pos ha] at hw
      unfold x_chkK at hw
      split at hw
      · next own i' v e2 =>
        simp only [Bool.and_eq_true, decide_eq_true_eq] at hw
        obtain ⟨⟨rfl, rfl⟩, rfl⟩ := hw
        exact lv_ldc hx hb hown (x_wd hts e2 rfl) hd (k _ _ hH hS)
      · cases hw
    · next ha =>
      cases h
      obtain ⟨rfl, rfl⟩ := hsm rfl
      rw [if_neg ha] at hw
      simp only [Bool.and_eq_true, decide_eq_true_eq] at hw
      obtain ⟨hw1, rfl⟩ := hw
      obtain ⟨q, g1, g2, -⟩ := hF.2.2.2.2.1
      have k1 := k _ _ hH hS
      rw [List.map_cons, x_cv_ext g1] at k1
      exact va_ldcS hx hb hown (by rw [hw1]; exact g2) hd k1
  -- ldc_w
  · cases h
    obtain ⟨rfl, rfl⟩ := hsm rfl
    unfold x_chkW x_chkK at hw
    dsimp only at hw
    split at hw
    · next own i' v e2 =>
      simp only [Bool.and_eq_true, decide_eq_true_eq] at hw
      obtain ⟨⟨rfl, rfl⟩, rfl⟩ := hw
      exact lv_ldcw hx hb hown (x_wd hts e2 rfl) hd (k _ _ hH hS)
    · cases hw
  -- ldc2_w
  · cases h
    obtain ⟨rfl, rfl⟩ := hsm rfl
    unfold x_chkW x_chkL at hw
    dsimp only at hw
    split at hw
    · next own i' v e2 =>
      simp only [Bool.and_eq_true, decide_eq_true_eq] at hw
      obtain ⟨⟨rfl, rfl⟩, rfl⟩ := hw
      exact lv_ldc2 hx hb hown (x_wd hts e2 rfl) hd (k _ _ hH hS)
    · cases hw
  -- getstatic
  · split at h
    · next sv hsv =>
      cases h
      obtain ⟨rfl, rfl⟩ := hsm rfl
      unfold x_chkW x_chkS at hw
      dsimp only at hw
      split at hw
      · next s2 own i r n d e1 e2 =>
        rw [hsv] at e1
        cases e1
        simp only [Bool.and_eq_true, decide_eq_true_eq, Prod.mk.injEq] at hw
        obtain ⟨⟨rfl, rfl⟩, rfl, rfl, rfl⟩ := hw
        exact va_gets hx hb (hF.2.1 a sv hsv) hS hown (x_wd hts e2 rfl) (fun _ h => h) hd (k _ _ hH hS)
      · cases hw
    · cases h
  -- getfield
  · split at h
    · next hg =>
      cases h
      obtain ⟨rfl, rfl⟩ := hsm rfl
      unfold x_chkW at hw
      dsimp only at hw
      have ha : ¬ a = 200 := by
        intro q; subst q; exact absurd hg.2 (by simp [x_fty])
      rw [if_neg ha] at hw
      obtain ⟨C, T, N, h1, h2, h3⟩ := x_chkF_spec hts hF hw
      exact x_getf hx hb hts (x_ci0 a C T N h1).1 hown hK hH hg.1 h2 h3 hd (k _ _ hH hS)
    · cases h
  -- getfield of a thing outside
  · split at h
    · next ha =>
      subst ha
      split at h
      · next v hv =>
        cases h
        obtain ⟨rfl, rfl⟩ := hsm rfl
        obtain ⟨q, g1, g2⟩ := hF.2.2.1 _ _ v hv
        rw [List.map_cons, x_cv_ext g1]
        obtain ⟨cf, kf, fi, f, cell, h1, h2, h3, h4, h5, h6⟩ := g2.kept hS.2.1
        unfold x_chkW x_chkX at hw
        dsimp only at hw
        rw [if_pos rfl] at hw
        split at hw
        · next own i' r n d e2 =>
          simp only [Bool.and_eq_true, decide_eq_true_eq] at hw
          obtain ⟨⟨rfl, rfl⟩, hrnd⟩ := hw
          rw [← hrnd] at h1
          exact W.getf hx hb hown (x_wd hts e2 rfl) h1 h2 h3 h4 h5 rfl rfl hd (k _ _ hH hS)
        · next own i' r n d ho e2 =>
          simp only [Bool.and_eq_true, decide_eq_true_eq] at hw
          obtain ⟨⟨rfl, rfl⟩, hrnd⟩ := hw
          rw [← hrnd] at h1
          exact va_Wgetf hx hb hown (x_ng hF e2 rfl) h1 h2 h3 h4 h5 rfl rfl hd (k _ _ hH hS)
        · cases hw
      · cases h
    · cases h
  -- putfield
  · split at h
    · next hg =>
      cases h
      obtain ⟨rfl, rfl⟩ := hsm (x_put_1 _ _ _ _ _)
      obtain ⟨C, T, N, h1, h2, h3⟩ := x_chkP_spec hts hF hinit hw
      exact x_putf hx hb hts (x_ci0 a C T N h1).1 hown hK hH hg.1 h2 hg.2.2 h3 hd fun H1 z e1 e2 e3 => k _ _ e2 (hput e1 e2 e3)
    · cases h
  -- arraylength
  · split at h
    · next t n hk =>
      split at h
      · next ht =>
        cases h
        obtain ⟨rfl, rfl⟩ := hsm rfl
        exact x_alen hx hb hK hH hk ht hd (k _ _ hH hS)
      · cases h
    · cases h
  · split at h
    · next qq hq =>
      cases h
      obtain ⟨rfl, rfl⟩ := hsm rfl
      obtain ⟨ty, n, f⟩ := qq
      obtain ⟨qa, g1, g2⟩ := hF.2.2.2.1 _ ty n f hq
      rw [List.map_cons, x_cv_ext g1]
      exact va_tlen hx hb g2 hS rfl hd (k _ _ hH hS)
    · cases h
  -- loads
  · split at h
    · next v hv =>
      cases h
      obtain ⟨rfl, rfl⟩ := hsm rfl
      obtain ⟨t, n, h1, h2, h3, rfl⟩ := x_ldA_spec hv
      have ht : t = 0 := by simpa using h2
      subst ht
      exact x_ald_ok hx hb hK hH h1 (by omega) h3 hd (k _ _ hH hS)
    · cases h
  · split at h
    · next v hv =>
      cases h
      obtain ⟨rfl, rfl⟩ := hsm rfl
      obtain ⟨t, n, h1, h2, h3, rfl⟩ := x_ldA_spec hv
      have ht : t = 1 := by simpa using h2
      subst ht
      exact x_ald_ok hx hb hK hH h1 (by omega) h3 hd (k _ _ hH hS)
    · cases h
  · split at h
    · next v hv =>
      cases h
      obtain ⟨rfl, rfl⟩ := hsm rfl
      obtain ⟨t, n, h1, h2, h3, rfl⟩ := x_ldA_spec hv
      have ht : t = 2 ∨ t = 3 := by simpa using h2
      rcases ht with rfl | rfl
      · exact x_ald_ok hx hb hK hH h1 (by omega) h3 hd (k _ _ hH hS)
      · exact x_ald_ok hx hb hK hH h1 (by omega) h3 hd (k _ _ hH hS)
    · cases h
  · split at h
    · next v hv =>
      cases h
      obtain ⟨rfl, rfl⟩ := hsm rfl
      obtain ⟨t, n, h1, h2, h3, rfl⟩ := x_ldA_spec hv
      have ht : t = 4 ∨ t = 5 ∨ t = 6 := by
        simp only [Bool.and_eq_true, decide_eq_true_eq] at h2; omega
      rcases ht with rfl | rfl | rfl
      · exact x_ald_ok hx hb hK hH h1 (by omega) h3 hd (k _ _ hH hS)
      · exact x_ald_ok hx hb hK hH h1 (by omega) h3 hd (k _ _ hH hS)
      · exact x_ald_ok hx hb hK hH h1 (by omega) h3 hd (k _ _ hH hS)
    · cases h
  · split at h
    · next v hv =>
      cases h
      obtain ⟨rfl, rfl⟩ := hsm rfl
      obtain ⟨ty, n, f, h1, h2, h3, rfl⟩ := x_ldX_spec hv
      obtain ⟨qa, g1, g2⟩ := hF.2.2.2.1 _ ty n f h1
      have ht : ty = .int := by simpa using h2
      subst ht
      rw [List.map_cons, List.map_cons, x_cv_ext g1]
      exact va_ti hx hb g2 hS h3 rfl hd (k _ _ hH hS)
    · cases h
  · split at h
    · next v hv =>
      cases h
      obtain ⟨rfl, rfl⟩ := hsm rfl
      obtain ⟨ty, n, f, h1, h2, h3, rfl⟩ := x_ldX_spec hv
      obtain ⟨qa, g1, g2⟩ := hF.2.2.2.1 _ ty n f h1
      have ht : ty = .byte := by simpa using h2
      subst ht
      rw [List.map_cons, List.map_cons, x_cv_ext g1]
      exact va_tb hx hb g2 hS h3 rfl hd (k _ _ hH hS)
    · cases h
  · split at h
    · next v hv =>
      cases h
      obtain ⟨rfl, rfl⟩ := hsm rfl
      obtain ⟨ty, n, f, h1, h2, h3, rfl⟩ := x_ldX_spec hv
      obtain ⟨qa, g1, g2⟩ := hF.2.2.2.1 _ ty n f h1
      rw [List.map_cons, List.map_cons, x_cv_ext g1]
      cases ty with
      | object C => exact vb_tq hx hb g2 hS h3 rfl hd (k _ _ hH hS)
      | _ => cases h2
    · cases h
  -- stores
  · split at h
    · next G2 hG =>
      cases h
      obtain ⟨n, h1, h2, rfl⟩ := x_stA_spec hG
      obtain ⟨rfl, rfl⟩ := hsm (x_put_1 _ _ _ _ _)
      exact x_iast_ok hx hb hK hH h1 h2 hd fun H1 z e1 e2 e3 => k _ _ e2 (hput e1 e2 e3)
    · cases h
  · split at h
    · next G2 hG =>
      cases h
      obtain ⟨n, h1, h2, rfl⟩ := x_stA_spec hG
      obtain ⟨rfl, rfl⟩ := hsm (x_put_1 _ _ _ _ _)
      exact x_last_ok hx hb hK hH h1 h2 hd fun H1 z e1 e2 e3 => k _ _ e2 (hput e1 e2 e3)
    · cases h
  · split at h
    · split at h
      · next G2 hG =>
        cases h
        obtain ⟨n, h1, h2, rfl⟩ := x_stA_spec hG
        obtain ⟨rfl, rfl⟩ := hsm (x_put_1 _ _ _ _ _)
        exact x_bast_ok hx hb hK hH h1 h2 hd fun H1 z e1 e2 e3 => k _ _ e2 (hput e1 e2 e3)
      · cases h
    · split at h
      · next G2 hG =>
        cases h
        obtain ⟨n, h1, h2, rfl⟩ := x_stA_spec hG
        obtain ⟨rfl, rfl⟩ := hsm (x_put_1 _ _ _ _ _)
        exact x_zast_ok hx hb hK hH h1 h2 hd fun H1 z e1 e2 e3 => k _ _ e2 (hput e1 e2 e3)
      · cases h
  · split at h
    · next ht =>
      split at h
      · next G2 hG =>
        cases h
        obtain ⟨n, h1, h2, rfl⟩ := x_stA_spec hG
        obtain ⟨rfl, rfl⟩ := hsm (x_put_1 _ _ _ _ _)
        exact x_aastN_ok hx hb hK hH h1 ht.1 ht.2 h2 hd fun H1 z e1 e2 e3 => k _ _ e2 (hput e1 e2 e3)
      · cases h
    · cases h
  · split at h
    · next ht =>
      split at h
      · next G2 hG =>
        cases h
        obtain ⟨n, h1, h2, rfl⟩ := x_stA_spec hG
        obtain ⟨rfl, rfl⟩ := hsm (x_put_1 _ _ _ _ _)
        exact x_aast_ok hx hb hK hH h1 ht.1 ht.2.1 h2 ht.2.2 hd fun H1 z e1 e2 e3 => k _ _ e2 (hput e1 e2 e3)
      · cases h
    · cases h
  -- new
  · split at h
    · next ha =>
      cases h
      rw [x_nC_new] at hc
      rw [x_nS_new] at hs
      unfold x_chkW x_chkN at hw
      dsimp only at hw
      split at hw
      · next C T N own i C' e1 e2 =>
        simp only [Bool.and_eq_true, decide_eq_true_eq] at hw
        obtain ⟨⟨rfl, rfl⟩, rfl⟩ := hw
        obtain ⟨hCI, hnf, -⟩ := x_ci0 a C T N e1
        have hN : x_sz (.inl a) = N := hCI.2.1
        obtain rfl : cells' = cells + 1 := by omega
        obtain rfl : slots' = slots + N := by omega
        have hpl := x_cpl_ok a C T N e1
        refine x_new_ok hx hb hts hCI (fun j => ?_) hown hK hH (x_wd hts e2 rfl) (x_wd hts hpl.1 rfl) (x_wd hts hpl.2 rfl) hcR hsR hd fun H1 h1 h2 => k _ _ h1 (hnew h1 h2)
        have hall := List.all_eq_true.mp hnf
        by_cases hj : j < (x_fty a).length
        · have h5 := hall _ (List.getElem_mem hj)
          simp only [Bool.and_eq_true, decide_eq_true_eq] at h5
          rw [List.getD_eq_getElem?_getD, List.getElem?_eq_getElem hj]
          exact h5
        · rw [List.getD_eq_getElem?_getD, List.getElem?_eq_none (by omega)]
          exact ⟨(by intro q; cases q), (by intro q; cases q)⟩
      · cases hw
    · cases h
  · split at h
    · next t ht =>
      split at h
      · next hn =>
        cases h
        rw [x_nC_new] at hc
        rw [x_nS_new] at hs
        obtain rfl : cells' = cells + 1 := by omega
        obtain rfl := x_ar hs
        exact x_newa_ok hx hb hK hH ht (x_apl_ok hts ht) hn.1 hn.2 hcR hsR hd fun H1 h1 h2 => k _ _ h1 (hnew h1 h2)
      · cases h
    · cases h
  · split at h
    · next hn =>
      cases h
      rw [x_nC_new] at hc
      rw [x_nS_new] at hs
      obtain rfl : cells' = cells + 1 := by omega
      obtain rfl := x_ar hs
      unfold x_chkW x_chkQ at hw
      dsimp only at hw
      split at hw
      · next own i C' e2 =>
        simp only [Bool.and_eq_true, decide_eq_true_eq] at hw
        obtain ⟨⟨rfl, rfl⟩, hty⟩ := hw
        exact x_newq_ok hx hb hK hH hn.1 hn.2.1 hty hown (x_wd hts e2 rfl) (x_apq_ok hF hn.1 hn.2.1 hty) hn.2.2.1 hn.2.2.2 hcR hsR hd fun H1 h1 h2 => k _ _ h1 (hnew h1 h2)
      · cases hw
    · cases h
  · cases h
end XHK
/-! ===== the shadow machine is sound ===== -/
theorem x_heap_mono {X : x_Ext} {a b : Nat} {z : Int} {ins : Instr} {st st' : List Value} {G G' : x_G} (h : x_heap X a b z ins st G = some (st', G')) : G'.1 = G.1 ∨ ∃ sh, G' = x_new G sh := by
  unfold x_heap at h
  split at h
  all_goals first
    | (cases h; exact Or.inl rfl)
    | (cases h; done)
    | (split at h <;> first | (cases h; exact Or.inl rfl) | (cases h; done) | (cases h; exact Or.inl (x_put_1 _ _ _ _ _)) | (cases h; exact Or.inr ⟨_, rfl⟩) | (obtain ⟨n, -, -, rfl⟩ := x_stA_spec (by assumption); cases h; exact Or.inl (x_put_1 _ _ _ _ _)) | (split at h <;> first | (cases h; exact Or.inl rfl) | (cases h; done) | (cases h; exact Or.inr ⟨_, rfl⟩) | (rename_i hh; obtain ⟨n, -, -, rfl⟩ := x_stA_spec hh; cases h; exact Or.inl (x_put_1 _ _ _ _ _))))
    | (split at h <;> rename_i hh <;> first | (cases h; done) | (obtain ⟨n, -, -, rfl⟩ := x_stA_spec hh; cases h; exact Or.inl (x_put_1 _ _ _ _ _)))
theorem x_heap_le {X : x_Ext} {a b : Nat} {z : Int} {ins : Instr} {st st' : List Value} {G G' : x_G} (h : x_heap X a b z ins st G = some (st', G')) : G.1.length ≤ G'.1.length ∧ x_nS G ≤ x_nS G' := by
  rcases x_heap_mono h with e | ⟨sh, rfl⟩
  · exact ⟨by rw [e]; exact Nat.le_refl _, by rw [x_nS_eq e]; exact Nat.le_refl _⟩
  · exact ⟨by rw [x_nC_new]; omega, by rw [x_nS_new]; omega⟩
theorem x_cpy_1 (G : x_G) (k0 k1 t sp dp n : Nat) : (x_cpy G k0 k1 t sp dp n).1 = G.1 := by unfold x_cpy; split <;> rfl
theorem x_exec_le {X : x_Ext} : ∀ (n d mi pc : Nat) (lo : x_Lo) (st : List Value) (G : x_G) (v : Option Value) (Gf : x_G), x_exec X n d mi pc lo st G = some (v, Gf) → G.1.length ≤ Gf.1.length ∧ x_nS G ≤ x_nS Gf := by
  intro n
  induction n with
  | zero => intro d mi pc lo st G v Gf h; cases h
  | succ n ih =>
    intro d mi pc lo st G v Gf h
    unfold x_exec at h
    split at h
    · cases h
    · split at h
      · split at h
        · exact ih _ _ _ _ _ _ _ _ h
        · cases h
      · split at h
        · exact ih _ _ _ _ _ _ _ _ h
        · cases h
      · split at h
        · exact ih _ _ _ _ _ _ _ _ h
        · cases h
      · split at h
        · next hh =>
          have h1 := x_heap_le hh
          have h2 := ih _ _ _ _ _ _ _ _ h
          exact ⟨Nat.le_trans h1.1 h2.1, Nat.le_trans h1.2 h2.2⟩
        · cases h
      · split at h
        · split at h
          · split at h
            · exact ih _ _ _ _ _ _ _ _ h
            · cases h
          · cases h
        · split at h
          · split at h
            · split at h
              · split at h
                · have h2 := ih _ _ _ _ _ _ _ _ h
                  rw [x_cpy_1, x_nS_eq (x_cpy_1 _ _ _ _ _ _ _)] at h2
                  exact h2
                · cases h
              · cases h
            · cases h
          · split at h
            · split at h
              · split at h
                · exact ih _ _ _ _ _ _ _ _ h
                · cases h
              · cases h
            · split at h
              · split at h
                · next hh =>
                  have h1 := ih _ _ _ _ _ _ _ _ hh
                  have h2 := ih _ _ _ _ _ _ _ _ h
                  exact ⟨Nat.le_trans h1.1 h2.1, Nat.le_trans h1.2 h2.2⟩
                · cases h
              · cases h
      · split at h
        · cases h; exact ⟨Nat.le_refl _, Nat.le_refl _⟩
        · cases h
/-! ===== calls ===== -/
noncomputable def x_wsm (mi : Nat) : List Cond := .code (x_y mi) (x_b mi) (x_ml mi) (x_rt mi) :: x_gw
noncomputable def x_Pre (E : x_Ad) (X : x_Ext) (G : x_G) (as : List Value) : Array Value → State → Prop := va_Pc (as.map (x_cv E.2.2.1 E.2.2.2)) (fun U => x_KA E U ∧ x_HR E G U.heap ∧ x_XF E X U)
noncomputable def x_Post (E : x_Ad) (G' : x_G) (v : Option Value) : Array Value → State → Outcome → State → Prop := fun _ st oc t => oc = .returned (v.map (x_cv E.2.2.1 E.2.2.2)) ∧ x_HR E G' t.heap ∧ va_F (x_Ao E) st t
/-- what must be so of the tables, all of it -/
noncomputable def x_CHK : Prop := (∀ mi pc row, x_row mi pc = some row → x_chk (x_y mi) (x_b mi) pc row = true) ∧ ∀ mi, mi < n_L_law → x_okM mi
theorem x_chkM_spec {mi : Nat} (h0 : x_okM mi) : plainName (x_y mi).cls = true ∧ ((x_y mi).cls ≠ "java/lang/invoke/MethodHandle" ∧ (x_y mi).cls ≠ "java/lang/invoke/VarHandle") ∧ lw_tbl[(x_pl mi).1]? = some (.code (x_y mi) (x_b mi) (x_ml mi) (x_rt mi)) ∧ x_ml mi ≤ 20 ∧ lw_tbl[(x_pl mi).2.2.2]? = some (.initialized (x_y mi).cls) ∧
    (x_stat mi = true → lw_tbl[(x_pl mi).2.1]? = some (.static (x_y mi))) ∧ (x_stat mi = false → lw_tbl[(x_pl mi).2.1]? = some (.instanceMethod (x_y mi)) ∧ ((x_y mi).name = "<init>" ∨ lw_tbl[(x_pl mi).2.2.1]? = some (.selects (x_y mi).cls (x_y mi) (x_y mi)))) ∧
    (x_mci mi = 99 ∨ (x_mci mi = 100 ∧ (x_y mi).cls = "java/lang/String") ∨ (vwCl[x_mci mi]?).map (fun q => q.1) = some (x_y mi).cls) := by
  obtain ⟨h, h3⟩ := h0
  unfold x_chkM at h
  simp only [Bool.and_eq_true, decide_eq_true_eq] at h
  obtain ⟨⟨⟨⟨⟨h1, h2⟩, h4⟩, h5⟩, h6⟩, h7⟩ := h
  refine ⟨h1, h2, h3, h4, h5, fun hs => ?_, fun hs => ?_, ?_⟩
  · rw [if_pos hs] at h6; exact decide_eq_true_eq.mp h6
  · rw [if_neg (by rw [hs]; decide)] at h6
    simp only [Bool.and_eq_true, Bool.or_eq_true, decide_eq_true_eq] at h6
    exact h6
  · simp only [Bool.or_eq_true, Bool.and_eq_true, decide_eq_true_eq] at h7
    rcases h7 with (h7 | h7) | h7
    · exact Or.inl h7
    · exact Or.inr (Or.inl h7)
    · exact Or.inr (Or.inr h7)
section XCALL
variable {p : Program} {l : Launch} {e : Env} {R : Room} {s : State} {m : MethodId} {args : Array Value} {below : List Frame} {meth : Method} {c : Code} {H : Heap} {locs : List Loc} {cells slots : Nat} {Q : State → Prop}
variable {pc : Nat} {ls : Array Slot} {E : x_Ad} {G : x_G} {X : x_Ext} {mi : Nat}
theorem x_after {mc ms : Nat} {rest st0 : List Value} {Qa : State → Outcome → State → Prop} {free : Addr → Prop} (hr : va_Run p l e R s m args below meth c H locs cells slots mc ms (F0 m pc ls st0) rest Qa free)
    (k : ∀ (v : Option Value) (st₀ t : State) (H1 : Heap) (L : List Loc), st₀.heap = H → (∀ q ∈ L, free q.base) → t.heap = H1 → Qa st₀ (.returned v) t → W p l e R s m args below meth c H1 (locs ++ L) (cells + mc) (slots + ms) Q (F0 m (pc + 3) ls (v.toList ++ rest))) : W p l e R s m args below meth c H locs cells slots Q (F0 m pc ls st0) := by
  intro T hT X
  obtain ⟨v, st₀, t, T', L, h0, X', hL, e1, e2, hq, st⟩ := hr T hT X
  obtain ⟨t2, a1, b1⟩ := k v st₀ t T'.heap L h0 hL e1.symm hq T' rfl X'
  exact ⟨t2, st t2 a1, b1⟩
theorem x_Pre_blind (as : List Value) : FrameBlind (x_Pre E X G as) := by
  intro a U g mk q
  obtain ⟨q1, q2, q3, q4⟩ := q
  exact ⟨q1, x_KA.moved (u := U) (U := U.calling g mk a) (Vm.Alike.refl U.vm) q2, q3, x_XF_same (u := U) (U := U.calling g mk a) q4 rfl rfl⟩
theorem x_Pre_at (hK : x_KA E s) (hF : x_XF E X s) (hH : x_HR E G H) (hS : va_S (x_Ao E) s.heap H locs) {as : List Value} {av : Array Value} (ha : av = (as.map (x_cv E.2.2.1 E.2.2.2)).toArray) (U : State) (hU : U.heap = H) (hW : s.WarmedH U.vm) : x_Pre E X G as av U :=
  ⟨ha, x_KA.moved hW.alike hK, by rw [hU]; exact hH, x_XF_moved hF hU hW hS⟩
/-- the call's link -/
theorem x_link (hts : ∀ w ∈ x_gw, w.before args s = true) (hF : x_XF E X s) {idx a q : Nat} (h : (match lw_tbl[q]? with
    | some (.methodLink own i y) => decide (own = (x_y mi).cls) && decide (i = idx) && decide (y = x_y a)
    | some (.methodLinkNest own i y _) => decide (own = (x_y mi).cls) && decide (i = idx) && decide (y = x_y a)
    | _ => false) = true) : (Cond.methodLink (x_y mi).cls idx (x_y a)).before args s = true ∨ ∃ host, (Cond.methodLinkNest (x_y mi).cls idx (x_y a) host).before args s = true := by
  split at h
  next own i y e2 =>
    simp only [Bool.and_eq_true, decide_eq_true_eq] at h
    obtain ⟨⟨rfl, rfl⟩, rfl⟩ := h
    exact Or.inl (x_wd hts e2 rfl)
  next own i y ho e2 =>
    simp only [Bool.and_eq_true, decide_eq_true_eq] at h
    obtain ⟨⟨rfl, rfl⟩, rfl⟩ := h
    exact Or.inr ⟨ho, x_ng hF e2 rfl⟩
  next => cases h
theorem x_gw_good {w : Cond} (h : w ∈ x_gw) : goodWord w = true := (List.mem_filter.mp h).2
theorem x_ws_warm (hts : ∀ w ∈ x_gw, w.before args s = true) {a : Nat} (hM : x_okM a) : ∀ w ∈ x_wsm a, ∀ (a' : Array Value) (U : State), s.WarmedH U.vm → w.before a' U = true := by
  have hc : Cond.code (x_y a) (x_b a) (x_ml a) (x_rt a) ∈ x_gw := List.mem_filter.mpr ⟨List.mem_of_getElem? (x_chkM_spec hM).2.2.1, rfl⟩
  have h1 : ∀ w ∈ x_wsm a, w ∈ x_gw := fun w hw => (List.mem_cons.mp hw).elim (fun q => q ▸ hc) id
  exact pay_in hts (fun w hw => ⟨h1 w hw, good_of_word (x_gw_good (h1 w hw))⟩)
/-- a method of ours, called: from its contract to what stands behind the call -/
theorem x_call_ok (C0 : x_Cx p s m args meth c mi) (hK : x_KA E s) (hF : x_XF E X s) (hH : x_HR E G H) (hS : va_S (x_Ao E) s.heap H locs) (hsz : ls.size = x_ml mi) {ins : Instr} {idx a b q kind : Nat} (hins : (kind = 0 ∧ ins = .invokevirtual idx) ∨ (kind = 1 ∧ ins = .invokespecial idx) ∨ (kind = 2 ∧ ins = .invokestatic idx)) (hd : decode (x_b mi) pc = .ok (ins, 3)) (hw : x_chkC (x_y mi) idx a b q kind = true) (ha0 : ¬ a = 1000) (ha1 : ¬ a = 1001) (ha2 : ¬ (a = 1002 ∨ a = 1003))
    (hall : ∀ mi, mi < n_L_law → x_okM mi) {st : List Value} {d mc ms : Nat} (hd1 : 1 ≤ d) (hb : b ≤ st.length) (hr8 : x_words (st.drop b) ≤ 8) (hrcv : x_stat a = true ∨ x_rcv a G (st.take b).reverse = true) {G1 : x_G} {v : Option Value}
    (hM : Met l (x_y a) (x_wsm a) ({ frames := d - 1, cells := mc, slots := ms, locals := 64 * (d - 1) } : Room) (x_Pre E X G (st.take b).reverse) (x_Post E G1 v) mc ms (x_Ao E)) (hfr : d ≤ R.frames) (hlo : 64 * d ≤ R.locals) (hcc : cells + mc ≤ R.cells) (hss : slots + ms ≤ R.slots)
    (k : ∀ (H1 : Heap) (locs1 : List Loc), x_HR E G1 H1 → va_S (x_Ao E) s.heap H1 locs1 → W p l e R s m args below meth c H1 locs1 (cells + mc) (slots + ms) Q (F0 m (pc + 3) ls ((v.toList ++ st.drop b).map (x_cv E.2.2.1 E.2.2.2)))) : W p l e R s m args below meth c H locs cells slots Q (F0 m pc ls (st.map (x_cv E.2.2.1 E.2.2.2))) := by
  obtain ⟨hx, hbb, hml, hown, hts, hinit⟩ := C0
  unfold x_chkC at hw
  rw [if_neg ha0, if_neg ha1, if_neg ha2] at hw
  simp only [Bool.and_eq_true, decide_eq_true_eq] at hw
  obtain ⟨⟨hlt, hlk⟩, hkd⟩ := hw
  have hMa := hall a hlt
  obtain ⟨-, hcn, hcode, hml20, hini, hstat, hinst, hcls⟩ := x_chkM_spec hMa
  have hlink := x_link (mi := mi) hts hF hlk
  have hwarm := x_ws_warm hts hMa
  have hroom : (d - 1) + 1 ≤ R.frames ∧ 8 + (x_ml a + 11) + 64 * (d - 1) ≤ R.locals := ⟨by omega, by omega⟩
  have hcodeb : (Cond.code (x_y a) (x_b a) (x_ml a) (x_rt a)).before args s = true := x_wd hts hcode rfl
  have hinib : (Cond.initialized (x_y a).cls).before args s = true := x_wd hts hini rfl
  have hcin : Cond.code (x_y a) (x_b a) (x_ml a) (x_rt a) ∈ x_wsm a := List.mem_cons_self
  have hrest : ((st.drop b).map (x_cv E.2.2.1 E.2.2.2)).map (fun v => v.category) = (st.drop b).map (fun v => v.category) := by
    rw [List.map_map]; congr 1; funext v; exact x_cv_cat _ _ v
  have hW8 : 2 * (F0 m pc ls (st.map (x_cv E.2.2.1 E.2.2.2))).monitorRoom + (((st.drop b).map (x_cv E.2.2.1 E.2.2.2)).map fun v => v.category).sum ≤ 8 := by
    rw [hrest]; show 2 * 0 + _ ≤ 8; unfold x_words at hr8; omega
  have hfin : ∀ {rest : List Value}, rest = (st.drop b).map (x_cv E.2.2.1 E.2.2.2) → ∀ {as : Array Value}, va_Run p l e R s m args below meth c H locs cells slots mc ms (F0 m pc ls (st.map (x_cv E.2.2.1 E.2.2.2))) rest (x_Post E G1 v as) (x_Ao E) → W p l e R s m args below meth c H locs cells slots Q (F0 m pc ls (st.map (x_cv E.2.2.1 E.2.2.2))) := by
    intro rest hre as hrun
    refine x_after hrun fun v' st₀ t H1 L h0 hL h1 hq => ?_
    obtain ⟨hv, hHR, hFr⟩ := hq
    have hv' : v' = v.map (x_cv E.2.2.1 E.2.2.2) := Outcome.returned.inj hv
    subst hv'
    subst hre
    have e9 : (v.map (x_cv E.2.2.1 E.2.2.2)).toList ++ (st.drop b).map (x_cv E.2.2.1 E.2.2.2) = (v.toList ++ st.drop b).map (x_cv E.2.2.1 E.2.2.2) := by
      cases v <;> simp
    rw [e9]
    subst h1
    rw [← h0] at hS hH
    refine k _ _ hHR (x_S_step hS hFr.1 (fun q hq => hFr.2 q (by rw [hH.1]; omega) (Nat.not_le.mpr hq)) hL)
  have hsplit : st.map (x_cv E.2.2.1 E.2.2.2) = ((st.take b).reverse.map (x_cv E.2.2.1 E.2.2.2)).reverse ++ (st.drop b).map (x_cv E.2.2.1 E.2.2.2) := by
    rw [← List.map_reverse, List.reverse_reverse, ← List.map_append, List.take_append_drop]
  have hlen : (st.take b).reverse.length = b := by simp [hb]
  have S : CallFix p m c (x_b mi) (x_ml mi) s args x_gw (x_y mi).cls := ⟨hx, hbb, hml, hown, hts⟩
  cases hst : x_stat a with
  | true =>
    have hk2 : kind = 2 ∧ (parseMethodDescriptor (x_y a).desc).map (fun d => d.parameters.length) = some b := by
      rcases hins with ⟨rfl, -⟩ | ⟨rfl, -⟩ | ⟨rfl, -⟩
      · simp [hst] at hkd
      · simp [hst] at hkd
      · simp [hst] at hkd; exact ⟨rfl, by simpa using hkd⟩
    obtain ⟨rfl, hpar⟩ := hk2
    obtain rfl : ins = .invokestatic idx := by
      rcases hins with ⟨h, -⟩ | ⟨h, -⟩ | ⟨-, h⟩
      · cases h
      · cases h
      · exact h
    have hsb : (Cond.static (x_y a)).before args s = true := x_wd hts (hstat hst) rfl
    have hnp : ∀ sig, parseMethodDescriptor (x_y a).desc = some sig → b = sig.parameters.length := fun sig h => by rw [h] at hpar; exact (Option.some.inj hpar).symm
    have hpre : PreS s H (x_Pre E X G (st.take b).reverse) ((st.take b).reverse.map (x_cv E.2.2.1 E.2.2.2)) := ⟨x_Pre_blind _, fun U hU hW => x_Pre_at hK hF hH hS rfl U hU hW⟩
    rcases hlink with hlink | ⟨host, hlink⟩
    · exact hfin rfl (va_runS S hM ⟨⟨rfl, rfl, hroom.1, hroom.2, hwarm, hcin, hcodeb, hinib, hcn, hnp, hlink⟩, hsb⟩ hpre rfl (by simpa using hlen) hsz hsplit hW8 hd ⟨hcc, hss⟩)
    · exact hfin rfl (va_runSN S hM ⟨⟨⟨rfl, rfl, hroom.1, hroom.2, hwarm, hcin⟩, hcodeb, hinib, hcn, hnp, hlink⟩, hsb, trivial⟩ hpre rfl (by simpa using hlen) hsz hsplit hW8 hd ⟨hcc, hss⟩)
  | false =>
    obtain ⟨him, hsel⟩ := hinst hst
    have himb : (Cond.instanceMethod (x_y a)).before args s = true := x_wd hts him rfl
    have hrc : x_rcv a G (st.take b).reverse = true := hrcv.resolve_left (by rw [hst]; decide)
    -- the receiver
    obtain ⟨rv, As, has, hcellB, hrvr⟩ : ∃ rv As, (st.take b).reverse = rv :: As ∧ (∀ bb, x_cv E.2.2.1 E.2.2.2 rv = .ref bb → ∃ cellB : Cell, H[bb]? = some cellB ∧ cellB.vm.isStatics = false ∧ s.vm.findClass (x_y a).cls = some cellB.cls) ∧ ∃ bb, x_cv E.2.2.1 E.2.2.2 rv = .ref bb := by
      unfold x_rcv at hrc
      split at hrc
      · next k0 r0 heq =>
        refine ⟨_, _, heq, ?_, _, rfl⟩
        intro bb hbb
        cases hbb
        split at hrc
        · next ci hci =>
          simp only [Bool.and_eq_true, beq_iff_eq, decide_eq_true_eq] at hrc
          obtain ⟨rfl, hlt2⟩ := hrc
          obtain ⟨cell, q1, q2, q3, -⟩ := hH.2 _ _ hci
          refine ⟨cell, q1, by rw [q3]; rfl, ?_⟩
          have hvw : (vwCl[x_mci a]?).map (fun q => q.1) = some (x_y a).cls := by
            rcases hcls with h99 | ⟨h100, -⟩ | hvw
            · omega
            · omega
            · exact hvw
          cases hq : vwCl[x_mci a]? with
          | none => rw [hq] at hvw; cases hvw
          | some qq =>
            rw [hq] at hvw
            have hnm : qq.1 = (x_y a).cls := Option.some.inj hvw
            rw [q2, ← hnm]
            exact (hK.1 _ _ hq).2.1
        · cases hrc
      · next i r0 heq =>
        simp only [Bool.and_eq_true, beq_iff_eq] at hrc
        obtain ⟨rfl, h100⟩ := hrc
        obtain ⟨qa, g1, -, g0⟩ := hF.2.2.2.2.1
        refine ⟨_, _, heq, ?_, qa, x_cv_ext g1⟩
        intro bb hbb
        rw [x_cv_ext g1] at hbb
        cases hbb
        have hstr : (x_y a).cls = "java/lang/String" := by
          rcases hcls with h99 | ⟨-, h⟩ | hvw
          · omega
          · exact h
          · rw [h100, List.getElem?_eq_none (by simp [vwCl])] at hvw; cases hvw
        obtain ⟨cell2, f1, f2, f3, f4⟩ := g0.kept hS.2.1
        exact ⟨cell2, f1, f2, by rw [hstr]; exact f3⟩
      · cases hrc
    obtain ⟨bb, hbb⟩ := hrvr
    have hcb := hcellB bb hbb
    have hpre : PreV s H (x_y a).cls bb (x_Pre E X G (st.take b).reverse) (As.map (x_cv E.2.2.1 E.2.2.2)) := ⟨x_Pre_blind _, hcb, fun U hU hW => x_Pre_at hK hF hH hS (by rw [has, List.map_cons, hbb]) U hU hW⟩
    have hsp : st.map (x_cv E.2.2.1 E.2.2.2) = (As.map (x_cv E.2.2.1 E.2.2.2)).reverse ++ .ref bb :: (st.drop b).map (x_cv E.2.2.1 E.2.2.2) := by
      rw [hsplit, has, List.map_cons, hbb, List.reverse_cons, List.append_assoc]; rfl
    have hAl : As.length + 1 = b := by rw [← hlen, has]; rfl
    have hav : (Value.ref bb :: As.map (x_cv E.2.2.1 E.2.2.2)).toArray = ((st.take b).reverse.map (x_cv E.2.2.1 E.2.2.2)).toArray := by rw [has, List.map_cons, hbb]
    rcases hins with ⟨rfl, rfl⟩ | ⟨rfl, rfl⟩ | ⟨rfl, rfl⟩
    · simp [hst] at hkd
      have hnp : ∀ sig, parseMethodDescriptor (x_y a).desc = some sig → b - 1 = sig.parameters.length := fun sig h => by
        have h1 := hkd.1; rw [h] at h1; simp at h1; omega
      have hselb : (Cond.selects (x_y a).cls (x_y a) (x_y a)).before args s = true := x_wd hts (hsel.resolve_left hkd.2) rfl
      rcases hlink with hlink | ⟨host, hlink⟩
      · exact hfin rfl (va_runV S hM ⟨⟨rfl, rfl, hroom.1, hroom.2, hwarm, hcin, hcodeb, hinib, hcn, hnp, hlink⟩, himb, hselb⟩ hpre rfl (by rw [List.length_map]; omega) hsz hsp hW8 hd ⟨hcc, hss⟩)
      · exact hfin rfl (va_runVN S hM ⟨⟨⟨rfl, rfl, hroom.1, hroom.2, hwarm, hcin⟩, hcodeb, hinib, hcn, hnp, hlink⟩, himb, hselb⟩ hpre rfl (by rw [List.length_map]; omega) hsz hsp hW8 hd ⟨hcc, hss⟩)
    · simp [hst] at hkd
      have hnp : ∀ sig, parseMethodDescriptor (x_y a).desc = some sig → b - 1 = sig.parameters.length := fun sig h => by
        have h1 := hkd.1.1; rw [h] at h1; simp at h1; omega
      have hrt : x_rt a = none := hkd.2
      rw [hrt] at hcodeb hcin
      have hpreS : PreS s H (x_Pre E X G (st.take b).reverse) (.ref bb :: As.map (x_cv E.2.2.1 E.2.2.2)) := ⟨x_Pre_blind _, fun U hU hW => x_Pre_at hK hF hH hS hav U hU hW⟩
      rcases hlink with hlink | ⟨host, hlink⟩
      · exact hfin rfl (va_runI S hM ⟨⟨rfl, rfl, hroom.1, hroom.2, hwarm, hcin, hcodeb, hinib, hcn, hnp, hlink⟩, hkd.1.2, himb⟩ hpreS rfl (by rw [List.length_map]; omega) hsz hsp hW8 hd ⟨hcc, hss⟩)
      · exact hfin rfl (va_runIN S hM ⟨⟨⟨rfl, rfl, hroom.1, hroom.2, hwarm, hcin⟩, hcodeb, hinib, hcn, hnp, hlink⟩, hkd.1.2, himb⟩ hpreS rfl (by rw [List.length_map]; omega) hsz hsp hW8 hd ⟨hcc, hss⟩)
    · simp [hst] at hkd
end XCALL
