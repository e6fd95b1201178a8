/-! ===== the shadow machine: the whole ===== -/
noncomputable def x_inf (mi : Nat) : x_Inf := (x_infs[mi]?).getD (yL_law, code, 4, some .boolean, (0, 0, 0, 0), true, 99)
noncomputable def x_y (mi : Nat) : MethodName := (x_inf mi).1
noncomputable def x_b (mi : Nat) : ByteArray := (x_inf mi).2.1
noncomputable def x_ml (mi : Nat) : Nat := (x_inf mi).2.2.1
noncomputable def x_rt (mi : Nat) : Option FieldType := (x_inf mi).2.2.2.1
noncomputable def x_pl (mi : Nat) : Nat × Nat × Nat × Nat := (x_inf mi).2.2.2.2.1
noncomputable def x_stat (mi : Nat) : Bool := (x_inf mi).2.2.2.2.2.1
noncomputable def x_mci (mi : Nat) : Nat := (x_inf mi).2.2.2.2.2.2
noncomputable def x_tab (mi : Nat) : List (Nat × x_Row) := (x_tabs[mi]?).getD []
noncomputable def x_row (mi pc : Nat) : Option x_Row := (x_tab mi).lookup pc
/-- the script: its length and its numbers -/
noncomputable abbrev x_Ext : Type := Nat × (Nat → Int32)
/-- fields of things outside -/
noncomputable def x_xf (b i : Nat) : Option Value := match b with
  | 0 => if i < 27 then some (.long (x_kwl.getD i 0)) else none
  | 1 => if i = 28 then some (.retAddr 29) else none
  | _ => if i = 28 then some (.int 0) else none
noncomputable def x_xn : Nat → String × String × String
  | 0 => ("HornBridge$Keyword", "letters", "J")
  | 1 => ("java/lang/String", "value", "[B")
  | _ => ("java/lang/String", "coder", "B")
/-- arrays outside -/
noncomputable def x_xar (X : x_Ext) (i : Nat) : Option (FieldType × Nat × (Nat → Value)) :=
  if i = 27 then some (.object "HornBridge$Keyword", 27, fun j => .retAddr j)
  else if i = 29 then some (.byte, x_keys.length, fun j => .int (x_keys.getD j 0))
  else if i = 30 then some (.int, X.1, fun j => .int (X.2 j)) else none
noncomputable def x_ldA (p : Nat → Bool) (G : x_G) (k : Nat) (i : Int32) : Option Value := match G.1[k]? with
  | some (.inr (t, n)) => if p t = true ∧ ¬ (i < 0 ∨ n ≤ i.toNatClampNeg) then some (x_fv G k i.toNatClampNeg (x_ety t)) else none
  | _ => none
noncomputable def x_ldX (ok : FieldType → Bool) (X : x_Ext) (e : Nat) (i : Int32) : Option Value := match x_xar X e with
  | some (ty, n, f) => if ok ty = true ∧ ¬ (i < 0 ∨ n ≤ i.toNatClampNeg) then some (f i.toNatClampNeg) else none
  | none => none
noncomputable def x_isObj : FieldType → Bool | .object _ => true | _ => false
noncomputable def x_stA (G : x_G) (k : Nat) (i : Int32) (t : Nat) (v : Value) : Option x_G := match G.1[k]? with
  | some (.inr (t', n)) => if t' = t ∧ ¬ (i < 0 ∨ n ≤ i.toNatClampNeg) then some (x_put G k i.toNatClampNeg (x_ety t) v) else none
  | _ => none
noncomputable def x_aty (G : x_G) (k : Nat) : Nat := match G.1[k]? with | some (.inr (t, _)) => t | _ => 99
noncomputable def x_heap (X : x_Ext) (a b : Nat) (z : Int) : Instr → List Value → x_G → Option (List Value × x_G)
  | .ldc _, st, G => if a = 0 then some (.int (Int32.ofInt z) :: st, G) else some (.retAddr 28 :: st, G)
  | .ldc_w _, st, G => some (.int (Int32.ofInt z) :: st, G)
  | .ldc2_w _, st, G => some (.long (Int64.ofInt z) :: st, G)
  | .getstatic _, st, G => match x_sts[a]? with | some s => some (s.2.2.2.1 :: st, G) | none => none
  | .getfield _, .ref k :: r, G => if G.1[k]? = some (.inl a) ∧ b < (x_fty a).length then some (x_fv G k b ((x_fty a).getD b .int) :: r, G) else none
  | .getfield _, .retAddr i :: r, G => if a = 200 then (match x_xf b i with | some v => some (v :: r, G) | none => none) else none
  | .putfield _, v :: .ref k :: r, G => if G.1[k]? = some (.inl a) ∧ b < (x_fty a).length ∧ x_fit ((x_fty a).getD b .int) v = true then some (r, x_put G k b ((x_fty a).getD b .int) v) else none
  | .arraylength, .ref k :: r, G => match G.1[k]? with | some (.inr (t, n)) => if t < 7 then some (.int (Int32.ofNat n) :: r, G) else none | _ => none
  | .arraylength, .retAddr i :: r, G => match x_xar X i with | some q => some (.int (Int32.ofNat q.2.1) :: r, G) | none => none
  | .iaload, .int i :: .ref k :: r, G => match x_ldA (fun t => t == 0) G k i with | some v => some (v :: r, G) | none => none
  | .laload, .int i :: .ref k :: r, G => match x_ldA (fun t => t == 1) G k i with | some v => some (v :: r, G) | none => none
  | .baload, .int i :: .ref k :: r, G => match x_ldA (fun t => t == 2 || t == 3) G k i with | some v => some (v :: r, G) | none => none
  | .aaload, .int i :: .ref k :: r, G => match x_ldA (fun t => decide (4 ≤ t) && decide (t < 7)) G k i with | some v => some (v :: r, G) | none => none
  | .iaload, .int i :: .retAddr e :: r, G => match x_ldX (fun t => t == .int) X e i with | some v => some (v :: r, G) | none => none
  | .baload, .int i :: .retAddr e :: r, G => match x_ldX (fun t => t == .byte) X e i with | some v => some (v :: r, G) | none => none
  | .aaload, .int i :: .retAddr e :: r, G => match x_ldX x_isObj X e i with | some v => some (v :: r, G) | none => none
  | .iastore, .int x :: .int i :: .ref k :: r, G => match x_stA G k i 0 (.int x) with | some G' => some (r, G') | none => none
  | .lastore, .long x :: .int i :: .ref k :: r, G => match x_stA G k i 1 (.long x) with | some G' => some (r, G') | none => none
  | .bastore, .int x :: .int i :: .ref k :: r, G => if x_aty G k = 2 then (match x_stA G k i 2 (narrow .byte (.int x)) with | some G' => some (r, G') | none => none) else match x_stA G k i 3 (narrow .boolean (.int x)) with | some G' => some (r, G') | none => none
  | .aastore, .null :: .int i :: .ref k :: r, G => if 4 ≤ x_aty G k ∧ x_aty G k < 7 then (match x_stA G k i (x_aty G k) .null with | some G' => some (r, G') | none => none) else none
  | .aastore, .ref k2 :: .int i :: .ref k :: r, G => if 4 ≤ x_aty G k ∧ x_aty G k < 7 ∧ G.1[k2]? = some (.inl (x_eci (x_aty G k))) then (match x_stA G k i (x_aty G k) (.ref k2) with | some G' => some (r, G') | none => none) else none
  | .new _, st, G => if a < 12 then some (.ref G.1.length :: st, x_new G (.inl a)) else none
  | .newarray at_, .int n :: r, G => match x_atn at_ with | some t => if ¬ n < 0 ∧ n.toNatClampNeg ≤ 100000 then some (.ref G.1.length :: r, x_new G (.inr (t, n.toNatClampNeg))) else none | none => none
  | .anewarray _, .int n :: r, G => if 4 ≤ a ∧ a < 7 ∧ ¬ n < 0 ∧ n.toNatClampNeg ≤ 100000 then some (.ref G.1.length :: r, x_new G (.inr (a, n.toNatClampNeg))) else none
  | _, _, _ => none
noncomputable def x_cat : Instr → Nat
  | .iload_n _ | .iload _ | .lload_n _ | .lload _ | .aload_n _ | .aload _ | .istore_n _ | .istore _ | .astore_n _ | .astore _ | .lstore_n _ | .lstore _ | .iinc _ _ => 1
  | .ifCond _ _ | .if_icmp _ _ | .if_acmp _ _ | .goto _ | .ifnull _ | .ifnonnull _ | .tableswitch _ _ _ _ | .lookupswitch _ _ => 2
  | .getfield _ | .putfield _ | .getstatic _ | .new _ | .newarray _ | .anewarray _ | .arraylength | .iaload | .laload | .baload | .aaload | .iastore | .lastore | .bastore | .aastore | .ldc _ | .ldc_w _ | .ldc2_w _ => 3
  | .invokevirtual _ | .invokespecial _ | .invokestatic _ => 4
  | .ireturn | .lreturn | .return_ => 5
  | _ => 0
/-- a result that fits the method's type -/
noncomputable def x_ret (rt : Option FieldType) : Instr → List Value → Option (Option Value)
  | .ireturn, [.int x] => match rt with
    | some .int => some (some (.int x))
    | some .boolean => if x = 0 ∨ x = 1 then some (some (.int x)) else none
    | some .byte => if narrow .byte (.int x) = .int x then some (some (.int x)) else none
    | some .char => if narrow .char (.int x) = .int x then some (some (.int x)) else none
    | _ => none
  | .lreturn, [.long x] => if rt = some .long then some (some (.long x)) else none
  | .return_, [] => if rt = none then some none else none
  | _, _ => none
noncomputable def x_words (as : List Value) : Nat := (as.map fun v => v.category).sum
/-- the receiver is an object of the method's class -/
noncomputable def x_rcv (mi : Nat) (G : x_G) : List Value → Bool
  | .ref k :: _ => match G.1[k]? with | some (.inl ci) => ci == x_mci mi && decide (x_mci mi < 12) | _ => false
  | .retAddr i :: _ => i == 28 && x_mci mi == 100
  | _ => false
noncomputable def x_mm (a : Nat) (x y : Int32) : Int32 := if a = 1002 then (if x < y then y else x) else (if y < x then y else x)
noncomputable def x_exec (X : x_Ext) : Nat → Nat → Nat → Nat → x_Lo → List Value → x_G → Option (Option Value × x_G)
  | 0, _, _, _, _, _, _ => none
  | n + 1, d, mi, pc, lo, st, G => match x_row mi pc with
    | none => none
    | some (ins, len, a, b, _, z) => match x_cat ins with
      | 0 => match x_alu ins st with
        | some st' => x_exec X n d mi (pc + len) lo st' G
        | none => none
      | 1 => match x_loc (x_ml mi) ins lo st with
        | some (lo', st') => x_exec X n d mi (pc + len) lo' st' G
        | none => none
      | 2 => match x_br a pc ins st with
        | some (pc', st') => x_exec X n d mi pc' lo st' G
        | none => none
      | 3 => match x_heap X a b z ins st G with
        | some (st', G') => x_exec X n d mi (pc + len) lo st' G'
        | none => none
      | 4 => if a = 1000 then (match st with
          | .ref k :: r => if 1 ≤ d ∧ x_words r ≤ 8 then x_exec X n d mi (pc + 3) lo r G else none
          | _ => none)
        else if a = 1001 then (match st with
          | [.int n', .int dp, .ref k1, .int sp, .ref k0] => match G.1[k0]?, G.1[k1]? with
            | some (.inr (t0, n0)), some (.inr (t1, n1)) => if t0 = t1 ∧ t0 < 2 ∧ 1 ≤ d ∧ ¬ sp < 0 ∧ ¬ dp < 0 ∧ ¬ n' < 0 ∧ sp.toNatClampNeg + n'.toNatClampNeg ≤ n0 ∧ dp.toNatClampNeg + n'.toNatClampNeg ≤ n1 then x_exec X n d mi (pc + 3) lo [] (x_cpy G k0 k1 t0 sp.toNatClampNeg dp.toNatClampNeg n'.toNatClampNeg) else none
            | _, _ => none
          | _ => none)
        else if a = 1002 ∨ a = 1003 then (match st with
          | .int y :: .int x :: r => if 1 ≤ d ∧ x_words r ≤ 8 then x_exec X n d mi (pc + 3) lo (.int (x_mm a x y) :: r) G else none
          | _ => none)
        else if 1 ≤ d ∧ b ≤ st.length ∧ x_words (st.drop b) ≤ 8 ∧ x_words (st.take b) ≤ x_ml a ∧ (x_stat a = true ∨ x_rcv a G (st.take b).reverse = true) then
          match x_exec X n (d - 1) a 0 (lv_args 0 (st.take b).reverse) [] G with
          | some (v, G') => x_exec X n d mi (pc + 3) lo (v.toList ++ st.drop b) G'
          | none => none
        else none
      | _ => match x_ret (x_rt mi) ins st with
        | some v => some (v, G)
        | none => none
/-! what must be so of the tables: a row says what the bytes say, and its words are in the tables -/
noncomputable def x_chkF (y0 : MethodName) (idx a b q : Nat) : Bool := match vwCl[a]?, lw_tbl[q]? with
  | some (_, T, N), some (.fieldLink own i r n d) => decide (b < N) && decide (own = y0.cls) && decide (i = idx) && decide ((r, n, d) = ((T b).1, (T b).2.1, (T b).2.2.1))
  | some (_, T, N), some (.fieldLinkNest own i r n d _) => decide (b < N) && decide (own = y0.cls) && decide (i = idx) && decide ((r, n, d) = ((T b).1, (T b).2.1, (T b).2.2.1))
  | _, _ => false
noncomputable def x_chkP (y0 : MethodName) (idx a b q : Nat) : Bool := match vwCl[a]?, lw_tbl[q]? with
  | some (_, T, N), some (.fieldLink own i r n d) => decide (b < N) && decide (own = y0.cls) && decide (i = idx) && decide ((r, n, d) = ((T b).1, (T b).2.1, (T b).2.2.1)) && (!(T b).2.2.2 || (decide (y0.name = "<init>") && decide ((T b).1 = own)))
  | some (_, T, N), some (.fieldLinkNest own i r n d _) => decide (b < N) && decide (own = y0.cls) && decide (i = idx) && decide ((r, n, d) = ((T b).1, (T b).2.1, (T b).2.2.1)) && !(T b).2.2.2
  | _, _ => false
noncomputable def x_chkX (y0 : MethodName) (idx b q : Nat) : Bool := match lw_tbl[q]? with
  | some (.fieldLink own i r n d) => decide (own = y0.cls) && decide (i = idx) && decide ((r, n, d) = x_xn b)
  | some (.fieldLinkNest own i r n d _) => decide (own = y0.cls) && decide (i = idx) && decide ((r, n, d) = x_xn b)
  | _ => false
noncomputable def x_chkS (y0 : MethodName) (idx a q : Nat) : Bool := match x_sts[a]?, lw_tbl[q]? with
  | some s, some (.fieldLink own i r n d) => decide (own = y0.cls) && decide (i = idx) && decide ((r, n, d) = (s.1, s.2.1, s.2.2.1))
  | _, _ => false
noncomputable def x_chkN (y0 : MethodName) (idx a q : Nat) : Bool := match vwCl[a]?, lw_tbl[q]? with
  | some (C, _, _), some (.classLink own i C') => decide (own = y0.cls) && decide (i = idx) && decide (C = C')
  | _, _ => false
noncomputable def x_chkQ (y0 : MethodName) (idx a q : Nat) : Bool := match lw_tbl[q]? with
  | some (.classLink own i C') => decide (own = y0.cls) && decide (i = idx) && decide (x_ety a = .object C')
  | _ => false
noncomputable def x_chkK (y0 : MethodName) (idx q : Nat) (z : Int) : Bool := match lw_tbl[q]? with
  | some (.constant own i v) => decide (own = y0.cls) && decide (i = idx) && decide (v = Int32.ofInt z)
  | _ => false
noncomputable def x_chkL (y0 : MethodName) (idx q : Nat) (z : Int) : Bool := match lw_tbl[q]? with
  | some (.constantLong own i v) => decide (own = y0.cls) && decide (i = idx) && decide (v = Int64.ofInt z)
  | _ => false
/-- a call: of what kind it is, its link, how many arguments -/
noncomputable def x_chkC (y0 : MethodName) (idx a b q : Nat) (kind : Nat) : Bool :=
  if a = 1000 then kind == 1 && (match lw_tbl[q]? with
    | some (.methodLink own i y) => decide (own = y0.cls) && decide (i = idx) && decide (y = Lib.objectInit)
    | _ => false)
  else if a = 1001 then kind == 2 && (match lw_tbl[q]? with
    | some (.methodLink own i y) => decide (own = y0.cls) && decide (i = idx) && decide (y = arraycopyName)
    | _ => false)
  else if a = 1002 ∨ a = 1003 then kind == 2 && (match lw_tbl[q]? with
    | some (.methodLink own i y) => decide (own = y0.cls) && decide (i = idx) && decide (y = if a = 1002 then Lib.Math.max.name else Lib.Math.min.name)
    | _ => false)
  else decide (a < n_L_law) && (match lw_tbl[q]? with
    | some (.methodLink own i y) => decide (own = y0.cls) && decide (i = idx) && decide (y = x_y a)
    | some (.methodLinkNest own i y _) => decide (own = y0.cls) && decide (i = idx) && decide (y = x_y a)
    | _ => false) && (match kind with
    | 0 => !x_stat a && decide ((parseMethodDescriptor (x_y a).desc).map (fun d => d.parameters.length + 1) = some b) && decide ((x_y a).name ≠ "<init>")
    | 1 => !x_stat a && decide ((parseMethodDescriptor (x_y a).desc).map (fun d => d.parameters.length + 1) = some b) && decide ((x_y a).name = "<init>") && decide (x_rt a = none)
    | _ => x_stat a && decide ((parseMethodDescriptor (x_y a).desc).map (fun d => d.parameters.length) = some b))
noncomputable def x_chkW (y0 : MethodName) (a b q : Nat) (z : Int) : Instr → Bool
  | .getfield i => if a = 200 then x_chkX y0 i b q else x_chkF y0 i a b q
  | .putfield i => x_chkP y0 i a b q
  | .getstatic i => x_chkS y0 i a q
  | .new i => x_chkN y0 i a q
  | .anewarray i => x_chkQ y0 i a q
  | .ldc i => if a = 0 then x_chkK y0 i q z else decide (y0.cls = RX12) && decide (i = x_keyix)
  | .ldc_w i => x_chkK y0 i q z
  | .ldc2_w i => x_chkL y0 i q z
  | .invokevirtual i => x_chkC y0 i a b q 0
  | .invokespecial i => x_chkC y0 i a b q 1
  | .invokestatic i => x_chkC y0 i a b q 2
  | _ => true
noncomputable def x_chkO (pc a len : Nat) (ins : Instr) : Bool := if x_cat ins = 2 then (match x_off ins with | some o => decide (len = 3) && decide ((pc : Int) + o = (a : Int)) | none => true) else decide (len = x_len ins)
noncomputable def x_chk (y0 : MethodName) (b0 : ByteArray) (pc : Nat) : x_Row → Bool
  | (ins, len, a, b, q, z) => decide (decode b0 pc = .ok (ins, len)) && x_chkO pc a len ins && x_chkW y0 a b q z ins
/-- what must be so of a method -/
noncomputable def x_chkM (mi : Nat) : Bool := plainName (x_y mi).cls && decide ((x_y mi).cls ≠ "java/lang/invoke/MethodHandle" ∧ (x_y mi).cls ≠ "java/lang/invoke/VarHandle") && decide (x_ml mi ≤ 20) && decide (lw_tbl[(x_pl mi).2.2.2]? = some (.initialized (x_y mi).cls)) &&
  (if x_stat mi then decide (lw_tbl[(x_pl mi).2.1]? = some (.static (x_y mi))) else decide (lw_tbl[(x_pl mi).2.1]? = some (.instanceMethod (x_y mi))) && (decide ((x_y mi).name = "<init>") || decide (lw_tbl[(x_pl mi).2.2.1]? = some (.selects (x_y mi).cls (x_y mi) (x_y mi))))) &&
  (decide (x_mci mi = 99) || (decide (x_mci mi = 100) && decide ((x_y mi).cls = "java/lang/String")) || decide ((vwCl[x_mci mi]?).map (fun q => q.1) = some (x_y mi).cls))
noncomputable def x_okM (mi : Nat) : Prop := x_chkM mi = true ∧ lw_tbl[(x_pl mi).1]? = some (.code (x_y mi) (x_b mi) (x_ml mi) (x_rt mi))
noncomputable def x_chkT (y0 : MethodName) (b0 : ByteArray) (l : List (Nat × x_Row)) : Bool := l.all (fun r => x_chk y0 b0 r.1 r.2)
