/-! ===== the shadow machine: values, worlds, pure instructions ===== -/
noncomputable abbrev x_Lo : Type := List (Nat × Value)
/-- a world: the cells' shapes (an object of a class, or an array of a type and a length), the ints, the longs, the references that they hold -/
noncomputable abbrev x_G : Type := List (Nat ⊕ (Nat × Nat)) × (Nat → Nat → Int32) × (Nat → Nat → Int64) × (Nat → Nat → Value)
/-- a shadow value: a reference is a place of the world; 'retAddr i' is the i-th thing that stands outside of it -/
noncomputable def x_cv (bs : Nat) (xa : Nat → Option Nat) : Value → Value
  | .ref k => .ref (bs + k)
  | .retAddr i => va_rf (xa i)
  | v => v
theorem x_cv_cat (bs : Nat) (xa : Nat → Option Nat) (v : Value) : (x_cv bs xa v).category = v.category := by
  cases v <;> try rfl
  rename_i i
  show (va_rf (xa i)).category = 1
  cases xa i <;> rfl
noncomputable def x_cl (bs : Nat) (xa : Nat → Option Nat) (lo : x_Lo) : x_Lo := lo.map (fun q => (q.1, x_cv bs xa q.2))
/-- instructions of the stack alone -/
noncomputable def x_alu : Instr → List Value → Option (List Value)
  | .aconst_null, st => some (.null :: st)
  | .iconst n, st => some (.int (Int32.ofInt n) :: st)
  | .bipush n, st => some (.int (Int8.ofInt n).toInt32 :: st)
  | .sipush n, st => some (.int (Int16.ofInt n).toInt32 :: st)
  | .lconst n, st => some (.long (Int64.ofNat (n : Nat)) :: st)
  | .iadd, .int y :: .int x :: r => some (.int (x + y) :: r)
  | .isub, .int y :: .int x :: r => some (.int (x - y) :: r)
  | .imul, .int y :: .int x :: r => some (.int (x * y) :: r)
  | .iand, .int y :: .int x :: r => some (.int (x &&& y) :: r)
  | .ior, .int y :: .int x :: r => some (.int (x ||| y) :: r)
  | .ixor, .int y :: .int x :: r => some (.int (x ^^^ y) :: r)
  | .idiv, .int y :: .int x :: r => if y = 0 then none else some (.int (x / y) :: r)
  | .irem, .int y :: .int x :: r => if y = 0 then none else some (.int (x - x / y * y) :: r)
  | .ishl, .int y :: .int x :: r => some (.int (x <<< (y &&& 31)) :: r)
  | .ishr, .int y :: .int x :: r => some (.int (x >>> (y &&& 31)) :: r)
  | .iushr, .int y :: .int x :: r => some (.int (x.toUInt32 >>> (y.toUInt32 &&& Int32.toUInt32 31)).toInt32 :: r)
  | .ladd, .long y :: .long x :: r => some (.long (x + y) :: r)
  | .lsub, .long y :: .long x :: r => some (.long (x - y) :: r)
  | .lmul, .long y :: .long x :: r => some (.long (x * y) :: r)
  | .land, .long y :: .long x :: r => some (.long (x &&& y) :: r)
  | .lor, .long y :: .long x :: r => some (.long (x ||| y) :: r)
  | .lxor, .long y :: .long x :: r => some (.long (x ^^^ y) :: r)
  | .ldiv, .long y :: .long x :: r => if y = 0 then none else some (.long (x / y) :: r)
  | .lrem, .long y :: .long x :: r => if y = 0 then none else some (.long (x - x / y * y) :: r)
  | .lshl, .int y :: .long x :: r => some (.long (x <<< (y.toInt64 &&& 63)) :: r)
  | .lshr, .int y :: .long x :: r => some (.long (x >>> (y.toInt64 &&& 63)) :: r)
  | .lushr, .int y :: .long x :: r => some (.long (x.toUInt64 >>> (y.toInt64.toUInt64 &&& Int64.toUInt64 63)).toInt64 :: r)
  | .lcmp, .long y :: .long x :: r => some (.int (lg_cmp x y) :: r)
  | .i2l, .int x :: r => some (.long x.toInt64 :: r)
  | .l2i, .long x :: r => some (.int x.toInt32 :: r)
  | .i2b, .int x :: r => some (.int x.toInt8.toInt32 :: r)
  | .i2s, .int x :: r => some (.int x.toInt16.toInt32 :: r)
  | .i2c, .int x :: r => some (.int (x.toUInt32 % 65536).toInt32 :: r)
  | .dup, v :: r => if v.category = 1 then some (v :: v :: r) else none
  | .pop, v :: r => if v.category = 1 then some r else none
  | .pop2, v :: r => if v.category = 2 then some r else none
  | .dup_x1, v :: w :: r => if v.category = 1 ∧ w.category = 1 then some (v :: w :: v :: r) else none
  | .dup2, v :: w :: r => if v.category = 1 ∧ w.category = 1 then some (v :: w :: v :: w :: r) else none
  | _, _ => none
/-- how long such an instruction is -/
noncomputable def x_len : Instr → Nat
  | .bipush _ | .iload _ | .lload _ | .aload _ | .istore _ | .lstore _ | .astore _ | .ldc _ | .newarray _ => 2
  | .sipush _ | .iinc _ _ | .ifCond _ _ | .if_icmp _ _ | .if_acmp _ _ | .ifnull _ | .ifnonnull _ | .goto _ | .ldc_w _ | .ldc2_w _ | .getfield _ | .putfield _ | .getstatic _ | .new _ | .anewarray _ | .invokevirtual _ | .invokespecial _ | .invokestatic _ => 3
  | _ => 1
section XALU
variable {p : Program} {l : Launch} {e : Env} {R : Room} {s : State} {m : MethodId} {args : Array Value} {below : List Frame} {meth : Method} {c : Code} {H : Heap} {locs : List Loc} {cells slots : Nat} {Q : State → Prop}
variable {cc : ByteArray} {pc : Nat} {ls : Array Slot} {bs : Nat} {xa : Nat → Option Nat}
set_option maxHeartbeats 4000000 in
theorem x_alu_ok (hx : p.tables.exec = Jvm.exec) (hb : c.code = cc) {ins : Instr} {st st' : List Value} (hdg : decode cc pc = .ok (ins, x_len ins)) (h : x_alu ins st = some st')
    (k : W p l e R s m args below meth c H locs cells slots Q (F0 m (pc + x_len ins) ls (st'.map (x_cv bs xa)))) : W p l e R s m args below meth c H locs cells slots Q (F0 m pc ls (st.map (x_cv bs xa))) := by
  unfold x_alu at h
  split at h
  case _ => cases h; exact lv_null hx hb hdg k
  case _ => cases h; exact lv_iconst hx hb hdg rfl k
  case _ => cases h; exact lv_bipush hx hb hdg rfl k
  case _ => cases h; exact lv_sipush hx hb hdg rfl k
  case _ => cases h; exact lv_lconst hx hb hdg rfl k
  case _ => cases h; exact lv_iadd hx hb hdg k
  case _ => cases h; exact lv_isub hx hb hdg k
  case _ => cases h; exact lv_imul hx hb hdg k
  case _ => cases h; exact lv_iand hx hb hdg k
  case _ => cases h; exact lv_ior hx hb hdg k
  case _ => cases h; exact lv_ixor hx hb hdg k
  case _ => split at h; · cases h
            next hne => cases h; exact lv_idiv hx hb hdg hne k
  case _ => split at h; · cases h
            next hne => cases h; exact lv_irem hx hb hdg hne k
  case _ => cases h; exact lv_ishl hx hb hdg k
  case _ => cases h; exact lv_ishr hx hb hdg k
  case _ => cases h; exact lv_iushr hx hb hdg rfl k
  case _ => cases h; exact lv_ladd hx hb hdg k
  case _ => cases h; exact lv_lsub hx hb hdg k
  case _ => cases h; exact lv_lmul hx hb hdg k
  case _ => cases h; exact lv_land hx hb hdg k
  case _ => cases h; exact lv_lor hx hb hdg k
  case _ => cases h; exact lv_lxor hx hb hdg k
  case _ => split at h; · cases h
            next hne => cases h; exact lv_ldiv hx hb hdg hne k
  case _ => split at h; · cases h
            next hne => cases h; exact lv_lrem hx hb hdg hne k
  case _ => cases h; exact lv_lshl hx hb hdg rfl k
  case _ => cases h; exact lv_lshr hx hb hdg rfl k
  case _ => cases h; exact lv_lushr hx hb hdg rfl k
  case _ => cases h; exact W.lcmp hx hb hdg k
  case _ => cases h; exact lv_i2l hx hb hdg rfl k
  case _ => cases h; exact lv_l2i hx hb hdg rfl k
  case _ => cases h; exact lv_i2b hx hb hdg rfl k
  case _ => cases h; exact lv_i2s hx hb hdg rfl k
  case _ => cases h; exact lv_i2c hx hb hdg rfl k
  case _ => split at h
            · next hc => cases h; exact lv_dup hx hb hdg (by rw [x_cv_cat]; exact hc) k
            · cases h
  case _ => split at h
            · next hc => cases h; exact lv_pop hx hb hdg (by rw [x_cv_cat]; exact hc) k
            · cases h
  case _ => split at h
            · next hc => cases h; exact lv_pop2_2 hx hb hdg (by rw [x_cv_cat]; exact hc) k
            · cases h
  case _ => split at h
            · next hc => cases h; exact lv_dup_x1 hx hb hdg (by rw [x_cv_cat]; exact hc.1) (by rw [x_cv_cat]; exact hc.2) k
            · cases h
  case _ => split at h
            · next hc => cases h; exact lv_dup2_11 hx hb hdg (by rw [x_cv_cat]; exact hc.1) (by rw [x_cv_cat]; exact hc.2) k
            · cases h
  case _ => cases h
end XALU
