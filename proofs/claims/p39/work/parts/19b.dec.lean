/-! ===== the tables checked fast: what bytes say (printed by gendec.py) ===== -/
noncomputable abbrev xq_Rd (α : Type) : Type := Reader DecodeError α
theorem xq_u1e (C : ByteArray) (i : Nat) : (Reader.u1 : xq_Rd Nat) C i = (if h : i < C.size then .ok (C[i].toNat, i + 1) else .error (HasTruncated.truncated i)) := by
  show (do if h : i < C.size then do set (i + 1); Pure.pure C[i].toNat else MonadExcept.throw (HasTruncated.truncated i) : xq_Rd Nat) C i = _
  by_cases hi : i < C.size
  · rw [dif_pos hi, dif_pos hi]; rfl
  · rw [dif_neg hi, dif_neg hi]; rfl
theorem xq_u1d {C : ByteArray} {i : Nat} {x : UInt8} {r : List UInt8} (h : C.data.toList.drop i = x :: r) : (Reader.u1 : xq_Rd Nat) C i = .ok (x.toNat, i + 1) ∧ C.data.toList.drop (i + 1) = r := by
  have hi : i < C.data.toList.length := by
    rcases Nat.lt_or_ge i C.data.toList.length with q | q
    · exact q
    · rw [List.drop_eq_nil_of_le q] at h; cases h
  rw [List.drop_eq_getElem_cons hi] at h
  have h1 : C.data.toList[i] = x := (List.cons.inj h).1
  have h2 : C.data.toList.drop (i + 1) = r := (List.cons.inj h).2
  have hs : i < C.size := hi
  refine ⟨?_, h2⟩
  rw [xq_u1e, dif_pos hs, ← h1]
  rfl
theorem xq_bd {α β : Type} {r : xq_Rd α} {f : α → xq_Rd β} {C : ByteArray} {i j : Nat} {a : α} (h : r C i = .ok (a, j)) : (r >>= f) C i = f a C j := by
  show (do let (a, s) ← r C i; f a C s : Except DecodeError (β × Nat)) = _
  rw [h]; rfl
theorem xq_mp {α β : Type} {r : xq_Rd α} {g : α → β} {C : ByteArray} {i j : Nat} {a : α} (h : r C i = .ok (a, j)) : (g <$> r) C i = .ok (g a, j) := by
  show (do let (a, s) ← r C i; .ok (g a, s) : Except DecodeError (β × Nat)) = _
  rw [h]; rfl
theorem xq_dcd {C : ByteArray} {pc q : Nat} {ins : Instr} (h : (Decoder.instr pc) C pc = .ok (ins, q)) : decode C pc = .ok (ins, q - pc) := by
  show (do let (i, n) ← (Decoder.instr pc) C pc; Pure.pure (i, n - pc) : Except DecodeError (Instr × Nat)) = _
  rw [h]; rfl
section OPS
variable {C : ByteArray} {pc op : Nat} {x y z : UInt8} {r : List UInt8} {ins : Instr} {f : Nat → xq_Rd Instr}
theorem xq_g0 (hf : Decoder.instr pc = (Reader.u1 >>= f)) (h2 : f op = Pure.pure ins) (h : C.data.toList.drop pc = x :: r) (e : x.toNat = op) : decode C pc = .ok (ins, 1) := by
  have h3 : (Decoder.instr pc) C pc = .ok (ins, pc + 1) := by rw [hf, xq_bd (xq_u1d h).1, e, h2]; rfl
  rw [xq_dcd h3, show pc + 1 - pc = 1 by omega]
theorem xq_g1 {K : Nat → Instr} (hf : Decoder.instr pc = (Reader.u1 >>= f)) (h2 : f op = (Reader.u1 >>= fun n => Pure.pure (K n))) (h : C.data.toList.drop pc = x :: y :: r) (e : x.toNat = op) : decode C pc = .ok (K y.toNat, 2) := by
  have h3 : (Decoder.instr pc) C pc = .ok (K y.toNat, pc + 2) := by rw [hf, xq_bd (xq_u1d h).1, e, h2, xq_bd (xq_u1d (xq_u1d h).2).1]; rfl
  rw [xq_dcd h3, show pc + 2 - pc = 2 by omega]
theorem xq_gs1 {K : Int → Instr} (hf : Decoder.instr pc = (Reader.u1 >>= f)) (h2 : f op = (Reader.s1 >>= fun n => Pure.pure (K n))) (h : C.data.toList.drop pc = x :: y :: r) (e : x.toNat = op) : decode C pc = .ok (K (Reader.signed 8 y.toNat), 2) := by
  have h4 : (Reader.s1 : xq_Rd Int) C (pc + 1) = .ok (Reader.signed 8 y.toNat, pc + 2) := xq_mp (xq_u1d (xq_u1d h).2).1
  have h3 : (Decoder.instr pc) C pc = .ok (K (Reader.signed 8 y.toNat), pc + 2) := by rw [hf, xq_bd (xq_u1d h).1, e, h2, xq_bd h4]; rfl
  rw [xq_dcd h3, show pc + 2 - pc = 2 by omega]
theorem xq_u2d (h : C.data.toList.drop pc = y :: z :: r) : (Reader.u2 : xq_Rd Nat) C pc = .ok (y.toNat * 256 + z.toNat, pc + 2) := by
  show (Reader.u1 >>= fun hi => Reader.u1 >>= fun lo => Pure.pure (hi * 256 + lo) : xq_Rd Nat) C pc = _
  rw [xq_bd (xq_u1d h).1, xq_bd (xq_u1d (xq_u1d h).2).1]; rfl
theorem xq_g2 {K : Nat → Instr} (hf : Decoder.instr pc = (Reader.u1 >>= f)) (h2 : f op = (Reader.u2 >>= fun n => Pure.pure (K n))) (h : C.data.toList.drop pc = x :: y :: z :: r) (e : x.toNat = op) : decode C pc = .ok (K (y.toNat * 256 + z.toNat), 3) := by
  have h3 : (Decoder.instr pc) C pc = .ok (K (y.toNat * 256 + z.toNat), pc + 3) := by rw [hf, xq_bd (xq_u1d h).1, e, h2, xq_bd (xq_u2d (xq_u1d h).2)]; rfl
  rw [xq_dcd h3, show pc + 3 - pc = 3 by omega]
theorem xq_gs2 {K : Int → Instr} (hf : Decoder.instr pc = (Reader.u1 >>= f)) (h2 : f op = (Reader.s2 >>= fun n => Pure.pure (K n))) (h : C.data.toList.drop pc = x :: y :: z :: r) (e : x.toNat = op) : decode C pc = .ok (K (Reader.signed 16 (y.toNat * 256 + z.toNat)), 3) := by
  have h4 : (Reader.s2 : xq_Rd Int) C (pc + 1) = .ok (Reader.signed 16 (y.toNat * 256 + z.toNat), pc + 3) := xq_mp (xq_u2d (xq_u1d h).2)
  have h3 : (Decoder.instr pc) C pc = .ok (K (Reader.signed 16 (y.toNat * 256 + z.toNat)), pc + 3) := by rw [hf, xq_bd (xq_u1d h).1, e, h2, xq_bd h4]; rfl
  rw [xq_dcd h3, show pc + 3 - pc = 3 by omega]
theorem xq_gi {K : Nat → Int → Instr} (hf : Decoder.instr pc = (Reader.u1 >>= f)) (h2 : f op = (Reader.u1 >>= fun m => Reader.s1 >>= fun n => Pure.pure (K m n))) (h : C.data.toList.drop pc = x :: y :: z :: r) (e : x.toNat = op) : decode C pc = .ok (K y.toNat (Reader.signed 8 z.toNat), 3) := by
  have h4 : (Reader.s1 : xq_Rd Int) C (pc + 1 + 1) = .ok (Reader.signed 8 z.toNat, pc + 3) := xq_mp (xq_u1d (xq_u1d (xq_u1d h).2).2).1
  have h3 : (Decoder.instr pc) C pc = .ok (K y.toNat (Reader.signed 8 z.toNat), pc + 3) := by rw [hf, xq_bd (xq_u1d h).1, e, h2, xq_bd (xq_u1d (xq_u1d h).2).1, xq_bd h4]; rfl
  rw [xq_dcd h3, show pc + 3 - pc = 3 by omega]
theorem xq_gn {g : Nat → xq_Rd Instr} {w : Nat} (hf : Decoder.instr pc = (Reader.u1 >>= f)) (h2 : f op = (Reader.u1 >>= g)) (h5 : g w = Pure.pure ins) (h : C.data.toList.drop pc = x :: y :: r) (e : x.toNat = op) (e2 : y.toNat = w) : decode C pc = .ok (ins, 2) := by
  have h3 : (Decoder.instr pc) C pc = .ok (ins, pc + 2) := by rw [hf, xq_bd (xq_u1d h).1, e, h2, xq_bd (xq_u1d (xq_u1d h).2).1, e2, h5]; rfl
  rw [xq_dcd h3, show pc + 2 - pc = 2 by omega]
end OPS
noncomputable abbrev xq_Of : Type := List UInt8 → Option (Instr × Nat)
noncomputable def xq_k0 (i : Instr) : xq_Of := fun _ => some (i, 1)
noncomputable def xq_k1 (K : Nat → Instr) : xq_Of | y :: _ => some (K y.toNat, 2) | _ => none
noncomputable def xq_ks1 (K : Int → Instr) : xq_Of | y :: _ => some (K (Reader.signed 8 y.toNat), 2) | _ => none
noncomputable def xq_k2 (K : Nat → Instr) : xq_Of | y :: z :: _ => some (K (y.toNat * 256 + z.toNat), 3) | _ => none
noncomputable def xq_ks2 (K : Int → Instr) : xq_Of | y :: z :: _ => some (K (Reader.signed 16 (y.toNat * 256 + z.toNat)), 3) | _ => none
noncomputable def xq_ki : xq_Of | y :: z :: _ => some (.iinc y.toNat (Reader.signed 8 z.toNat), 3) | _ => none
noncomputable def xq_kn : xq_Of | y :: _ => if y.toNat = 10 then some (.newarray .int, 2) else if y.toNat = 11 then some (.newarray .long, 2) else if y.toNat = 8 then some (.newarray .byte, 2) else if y.toNat = 4 then some (.newarray .boolean, 2) else none | _ => none
/-- what such an entry promises -/
noncomputable def xq_gd (e : Nat × xq_Of) : Prop := ∀ (C : ByteArray) (pc : Nat) (x : UInt8) (r : List UInt8) (ins : Instr) (n : Nat), C.data.toList.drop pc = x :: r → x.toNat = e.1 → e.2 r = some (ins, n) → decode C pc = .ok (ins, n)
theorem xq_gd0 {op : Nat} {i : Instr} (H : ∀ pc : Nat, ∃ f : Nat → xq_Rd Instr, Decoder.instr pc = (Reader.u1 >>= f) ∧ f op = Pure.pure i) : xq_gd (op, xq_k0 i) := by
  intro C pc x r ins n h e h2
  obtain ⟨f, hf, hk⟩ := H pc
  cases h2
  exact xq_g0 hf hk h e
theorem xq_gd1 {op : Nat} {K : Nat → Instr} (H : ∀ pc : Nat, ∃ f : Nat → xq_Rd Instr, Decoder.instr pc = (Reader.u1 >>= f) ∧ f op = (Reader.u1 >>= fun n => Pure.pure (K n))) : xq_gd (op, xq_k1 K) := by
  intro C pc x r ins n h e h2
  obtain ⟨f, hf, hk⟩ := H pc
  match r, h, h2 with
  | y :: r, h, h2 => cases h2; exact xq_g1 hf hk h e
theorem xq_gds1 {op : Nat} {K : Int → Instr} (H : ∀ pc : Nat, ∃ f : Nat → xq_Rd Instr, Decoder.instr pc = (Reader.u1 >>= f) ∧ f op = (Reader.s1 >>= fun n => Pure.pure (K n))) : xq_gd (op, xq_ks1 K) := by
  intro C pc x r ins n h e h2
  obtain ⟨f, hf, hk⟩ := H pc
  match r, h, h2 with
  | y :: r, h, h2 => cases h2; exact xq_gs1 hf hk h e
theorem xq_gd2 {op : Nat} {K : Nat → Instr} (H : ∀ pc : Nat, ∃ f : Nat → xq_Rd Instr, Decoder.instr pc = (Reader.u1 >>= f) ∧ f op = (Reader.u2 >>= fun n => Pure.pure (K n))) : xq_gd (op, xq_k2 K) := by
  intro C pc x r ins n h e h2
  obtain ⟨f, hf, hk⟩ := H pc
  match r, h, h2 with
  | y :: z :: r, h, h2 => cases h2; exact xq_g2 hf hk h e
theorem xq_gds2 {op : Nat} {K : Int → Instr} (H : ∀ pc : Nat, ∃ f : Nat → xq_Rd Instr, Decoder.instr pc = (Reader.u1 >>= f) ∧ f op = (Reader.s2 >>= fun n => Pure.pure (K n))) : xq_gd (op, xq_ks2 K) := by
  intro C pc x r ins n h e h2
  obtain ⟨f, hf, hk⟩ := H pc
  match r, h, h2 with
  | y :: z :: r, h, h2 => cases h2; exact xq_gs2 hf hk h e
theorem xq_gdi {op : Nat} (H : ∀ pc : Nat, ∃ f : Nat → xq_Rd Instr, Decoder.instr pc = (Reader.u1 >>= f) ∧ f op = (Reader.u1 >>= fun m => Reader.s1 >>= fun n => Pure.pure (Instr.iinc m n))) : xq_gd (op, xq_ki) := by
  intro C pc x r ins n h e h2
  obtain ⟨f, hf, hk⟩ := H pc
  match r, h, h2 with
  | y :: z :: r, h, h2 => cases h2; exact xq_gi (K := Instr.iinc) hf hk h e
theorem xq_gdn {op : Nat} (H : ∀ pc : Nat, ∃ (f : Nat → xq_Rd Instr) (g : Nat → xq_Rd Instr), Decoder.instr pc = (Reader.u1 >>= f) ∧ f op = (Reader.u1 >>= g) ∧ g 10 = Pure.pure (.newarray .int) ∧ g 11 = Pure.pure (.newarray .long) ∧ g 8 = Pure.pure (.newarray .byte) ∧ g 4 = Pure.pure (.newarray .boolean)) : xq_gd (op, xq_kn) := by
  intro C pc x r ins n h e h2
  obtain ⟨f, g, hf, hk, q1, q2, q3, q4⟩ := H pc
  match r, h, h2 with
  | y :: r, h, h2 =>
    have h2 : (if y.toNat = 10 then some (Instr.newarray .int, 2) else if y.toNat = 11 then some (.newarray .long, 2) else if y.toNat = 8 then some (.newarray .byte, 2) else if y.toNat = 4 then some (.newarray .boolean, 2) else none) = some (ins, n) := h2
    split at h2
    case isTrue hw => cases h2; exact xq_gn hf hk q1 h e hw
    split at h2
    case isTrue hw => cases h2; exact xq_gn hf hk q2 h e hw
    split at h2
    case isTrue hw => cases h2; exact xq_gn hf hk q3 h e hw
    split at h2
    case isTrue hw => cases h2; exact xq_gn hf hk q4 h e hw
    cases h2
theorem xq_o_42 : xq_gd (42, xq_k0 (.aload_n 0)) := xq_gd0 (fun _ => ⟨_, rfl, rfl⟩)
theorem xq_o_43 : xq_gd (43, xq_k0 (.aload_n 1)) := xq_gd0 (fun _ => ⟨_, rfl, rfl⟩)
theorem xq_o_180 : xq_gd (180, xq_k2 (fun n => .getfield n)) := xq_gd2 (fun _ => ⟨_, rfl, rfl⟩)
theorem xq_o_26 : xq_gd (26, xq_k0 (.iload_n 0)) := xq_gd0 (fun _ => ⟨_, rfl, rfl⟩)
theorem xq_o_27 : xq_gd (27, xq_k0 (.iload_n 1)) := xq_gd0 (fun _ => ⟨_, rfl, rfl⟩)
theorem xq_o_28 : xq_gd (28, xq_k0 (.iload_n 2)) := xq_gd0 (fun _ => ⟨_, rfl, rfl⟩)
theorem xq_o_29 : xq_gd (29, xq_k0 (.iload_n 3)) := xq_gd0 (fun _ => ⟨_, rfl, rfl⟩)
theorem xq_o_2 : xq_gd (2, xq_k0 (.iconst (-1))) := xq_gd0 (fun _ => ⟨_, rfl, rfl⟩)
theorem xq_o_3 : xq_gd (3, xq_k0 (.iconst 0)) := xq_gd0 (fun _ => ⟨_, rfl, rfl⟩)
theorem xq_o_4 : xq_gd (4, xq_k0 (.iconst 1)) := xq_gd0 (fun _ => ⟨_, rfl, rfl⟩)
theorem xq_o_5 : xq_gd (5, xq_k0 (.iconst 2)) := xq_gd0 (fun _ => ⟨_, rfl, rfl⟩)
theorem xq_o_6 : xq_gd (6, xq_k0 (.iconst 3)) := xq_gd0 (fun _ => ⟨_, rfl, rfl⟩)
theorem xq_o_7 : xq_gd (7, xq_k0 (.iconst 4)) := xq_gd0 (fun _ => ⟨_, rfl, rfl⟩)
theorem xq_o_8 : xq_gd (8, xq_k0 (.iconst 5)) := xq_gd0 (fun _ => ⟨_, rfl, rfl⟩)
theorem xq_o_182 : xq_gd (182, xq_k2 (fun n => .invokevirtual n)) := xq_gd2 (fun _ => ⟨_, rfl, rfl⟩)
theorem xq_o_159 : xq_gd (159, xq_ks2 (fun n => .if_icmp .eq n)) := xq_gds2 (fun _ => ⟨_, rfl, rfl⟩)
theorem xq_o_160 : xq_gd (160, xq_ks2 (fun n => .if_icmp .ne n)) := xq_gds2 (fun _ => ⟨_, rfl, rfl⟩)
theorem xq_o_161 : xq_gd (161, xq_ks2 (fun n => .if_icmp .lt n)) := xq_gds2 (fun _ => ⟨_, rfl, rfl⟩)
theorem xq_o_162 : xq_gd (162, xq_ks2 (fun n => .if_icmp .ge n)) := xq_gds2 (fun _ => ⟨_, rfl, rfl⟩)
theorem xq_o_163 : xq_gd (163, xq_ks2 (fun n => .if_icmp .gt n)) := xq_gds2 (fun _ => ⟨_, rfl, rfl⟩)
theorem xq_o_164 : xq_gd (164, xq_ks2 (fun n => .if_icmp .le n)) := xq_gds2 (fun _ => ⟨_, rfl, rfl⟩)
theorem xq_o_172 : xq_gd (172, xq_k0 (.ireturn)) := xq_gd0 (fun _ => ⟨_, rfl, rfl⟩)
theorem xq_o_167 : xq_gd (167, xq_ks2 (fun n => .goto n)) := xq_gds2 (fun _ => ⟨_, rfl, rfl⟩)
theorem xq_o_153 : xq_gd (153, xq_ks2 (fun n => .ifCond .eq n)) := xq_gds2 (fun _ => ⟨_, rfl, rfl⟩)
theorem xq_o_154 : xq_gd (154, xq_ks2 (fun n => .ifCond .ne n)) := xq_gds2 (fun _ => ⟨_, rfl, rfl⟩)
theorem xq_o_155 : xq_gd (155, xq_ks2 (fun n => .ifCond .lt n)) := xq_gds2 (fun _ => ⟨_, rfl, rfl⟩)
theorem xq_o_156 : xq_gd (156, xq_ks2 (fun n => .ifCond .ge n)) := xq_gds2 (fun _ => ⟨_, rfl, rfl⟩)
theorem xq_o_157 : xq_gd (157, xq_ks2 (fun n => .ifCond .gt n)) := xq_gds2 (fun _ => ⟨_, rfl, rfl⟩)
theorem xq_o_158 : xq_gd (158, xq_ks2 (fun n => .ifCond .le n)) := xq_gds2 (fun _ => ⟨_, rfl, rfl⟩)
theorem xq_o_44 : xq_gd (44, xq_k0 (.aload_n 2)) := xq_gd0 (fun _ => ⟨_, rfl, rfl⟩)
theorem xq_o_45 : xq_gd (45, xq_k0 (.aload_n 3)) := xq_gd0 (fun _ => ⟨_, rfl, rfl⟩)
theorem xq_o_46 : xq_gd (46, xq_k0 (.iaload)) := xq_gd0 (fun _ => ⟨_, rfl, rfl⟩)
theorem xq_o_96 : xq_gd (96, xq_k0 (.iadd)) := xq_gd0 (fun _ => ⟨_, rfl, rfl⟩)
theorem xq_o_16 : xq_gd (16, xq_ks1 (fun n => .bipush n)) := xq_gds1 (fun _ => ⟨_, rfl, rfl⟩)
theorem xq_o_181 : xq_gd (181, xq_k2 (fun n => .putfield n)) := xq_gd2 (fun _ => ⟨_, rfl, rfl⟩)
theorem xq_o_21 : xq_gd (21, xq_k1 (fun n => .iload n)) := xq_gd1 (fun _ => ⟨_, rfl, rfl⟩)
theorem xq_o_59 : xq_gd (59, xq_k0 (.istore_n 0)) := xq_gd0 (fun _ => ⟨_, rfl, rfl⟩)
theorem xq_o_60 : xq_gd (60, xq_k0 (.istore_n 1)) := xq_gd0 (fun _ => ⟨_, rfl, rfl⟩)
theorem xq_o_61 : xq_gd (61, xq_k0 (.istore_n 2)) := xq_gd0 (fun _ => ⟨_, rfl, rfl⟩)
theorem xq_o_62 : xq_gd (62, xq_k0 (.istore_n 3)) := xq_gd0 (fun _ => ⟨_, rfl, rfl⟩)
theorem xq_o_132 : xq_gd (132, xq_ki) := xq_gdi (fun _ => ⟨_, rfl, rfl⟩)
theorem xq_o_54 : xq_gd (54, xq_k1 (fun n => .istore n)) := xq_gd1 (fun _ => ⟨_, rfl, rfl⟩)
theorem xq_o_79 : xq_gd (79, xq_k0 (.iastore)) := xq_gd0 (fun _ => ⟨_, rfl, rfl⟩)
theorem xq_o_17 : xq_gd (17, xq_ks2 (fun n => .sipush n)) := xq_gds2 (fun _ => ⟨_, rfl, rfl⟩)
theorem xq_o_87 : xq_gd (87, xq_k0 (.pop)) := xq_gd0 (fun _ => ⟨_, rfl, rfl⟩)
theorem xq_o_30 : xq_gd (30, xq_k0 (.lload_n 0)) := xq_gd0 (fun _ => ⟨_, rfl, rfl⟩)
theorem xq_o_31 : xq_gd (31, xq_k0 (.lload_n 1)) := xq_gd0 (fun _ => ⟨_, rfl, rfl⟩)
theorem xq_o_32 : xq_gd (32, xq_k0 (.lload_n 2)) := xq_gd0 (fun _ => ⟨_, rfl, rfl⟩)
theorem xq_o_33 : xq_gd (33, xq_k0 (.lload_n 3)) := xq_gd0 (fun _ => ⟨_, rfl, rfl⟩)
theorem xq_o_184 : xq_gd (184, xq_k2 (fun n => .invokestatic n)) := xq_gd2 (fun _ => ⟨_, rfl, rfl⟩)
theorem xq_o_100 : xq_gd (100, xq_k0 (.isub)) := xq_gd0 (fun _ => ⟨_, rfl, rfl⟩)
theorem xq_o_89 : xq_gd (89, xq_k0 (.dup)) := xq_gd0 (fun _ => ⟨_, rfl, rfl⟩)
theorem xq_o_177 : xq_gd (177, xq_k0 (.return_)) := xq_gd0 (fun _ => ⟨_, rfl, rfl⟩)
theorem xq_o_188 : xq_gd (188, xq_kn) := xq_gdn (fun _ => ⟨_, _, rfl, rfl, rfl, rfl, rfl, rfl⟩)
theorem xq_o_133 : xq_gd (133, xq_k0 (.i2l)) := xq_gd0 (fun _ => ⟨_, rfl, rfl⟩)
theorem xq_o_104 : xq_gd (104, xq_k0 (.imul)) := xq_gd0 (fun _ => ⟨_, rfl, rfl⟩)
theorem xq_o_9 : xq_gd (9, xq_k0 (.lconst 0)) := xq_gd0 (fun _ => ⟨_, rfl, rfl⟩)
theorem xq_o_10 : xq_gd (10, xq_k0 (.lconst 1)) := xq_gd0 (fun _ => ⟨_, rfl, rfl⟩)
theorem xq_o_178 : xq_gd (178, xq_k2 (fun n => .getstatic n)) := xq_gd2 (fun _ => ⟨_, rfl, rfl⟩)
theorem xq_o_148 : xq_gd (148, xq_k0 (.lcmp)) := xq_gd0 (fun _ => ⟨_, rfl, rfl⟩)
theorem xq_o_20 : xq_gd (20, xq_k2 (fun n => .ldc2_w n)) := xq_gd2 (fun _ => ⟨_, rfl, rfl⟩)
theorem xq_o_173 : xq_gd (173, xq_k0 (.lreturn)) := xq_gd0 (fun _ => ⟨_, rfl, rfl⟩)
theorem xq_o_183 : xq_gd (183, xq_k2 (fun n => .invokespecial n)) := xq_gd2 (fun _ => ⟨_, rfl, rfl⟩)
theorem xq_o_51 : xq_gd (51, xq_k0 (.baload)) := xq_gd0 (fun _ => ⟨_, rfl, rfl⟩)
theorem xq_o_129 : xq_gd (129, xq_k0 (.lor)) := xq_gd0 (fun _ => ⟨_, rfl, rfl⟩)
theorem xq_o_18 : xq_gd (18, xq_k1 (fun n => .ldc n)) := xq_gd1 (fun _ => ⟨_, rfl, rfl⟩)
theorem xq_o_165 : xq_gd (165, xq_ks2 (fun n => .if_acmp .eq n)) := xq_gds2 (fun _ => ⟨_, rfl, rfl⟩)
theorem xq_o_166 : xq_gd (166, xq_ks2 (fun n => .if_acmp .ne n)) := xq_gds2 (fun _ => ⟨_, rfl, rfl⟩)
theorem xq_o_47 : xq_gd (47, xq_k0 (.laload)) := xq_gd0 (fun _ => ⟨_, rfl, rfl⟩)
theorem xq_o_63 : xq_gd (63, xq_k0 (.lstore_n 0)) := xq_gd0 (fun _ => ⟨_, rfl, rfl⟩)
theorem xq_o_64 : xq_gd (64, xq_k0 (.lstore_n 1)) := xq_gd0 (fun _ => ⟨_, rfl, rfl⟩)
theorem xq_o_65 : xq_gd (65, xq_k0 (.lstore_n 2)) := xq_gd0 (fun _ => ⟨_, rfl, rfl⟩)
theorem xq_o_66 : xq_gd (66, xq_k0 (.lstore_n 3)) := xq_gd0 (fun _ => ⟨_, rfl, rfl⟩)
theorem xq_o_190 : xq_gd (190, xq_k0 (.arraylength)) := xq_gd0 (fun _ => ⟨_, rfl, rfl⟩)
theorem xq_o_22 : xq_gd (22, xq_k1 (fun n => .lload n)) := xq_gd1 (fun _ => ⟨_, rfl, rfl⟩)
theorem xq_o_80 : xq_gd (80, xq_k0 (.lastore)) := xq_gd0 (fun _ => ⟨_, rfl, rfl⟩)
theorem xq_o_187 : xq_gd (187, xq_k2 (fun n => .new n)) := xq_gd2 (fun _ => ⟨_, rfl, rfl⟩)
theorem xq_o_121 : xq_gd (121, xq_k0 (.lshl)) := xq_gd0 (fun _ => ⟨_, rfl, rfl⟩)
theorem xq_o_127 : xq_gd (127, xq_k0 (.land)) := xq_gd0 (fun _ => ⟨_, rfl, rfl⟩)
theorem xq_o_126 : xq_gd (126, xq_k0 (.iand)) := xq_gd0 (fun _ => ⟨_, rfl, rfl⟩)
theorem xq_o_124 : xq_gd (124, xq_k0 (.iushr)) := xq_gd0 (fun _ => ⟨_, rfl, rfl⟩)
theorem xq_o_55 : xq_gd (55, xq_k1 (fun n => .lstore n)) := xq_gd1 (fun _ => ⟨_, rfl, rfl⟩)
theorem xq_o_19 : xq_gd (19, xq_k2 (fun n => .ldc_w n)) := xq_gd2 (fun _ => ⟨_, rfl, rfl⟩)
theorem xq_o_50 : xq_gd (50, xq_k0 (.aaload)) := xq_gd0 (fun _ => ⟨_, rfl, rfl⟩)
theorem xq_o_120 : xq_gd (120, xq_k0 (.ishl)) := xq_gd0 (fun _ => ⟨_, rfl, rfl⟩)
theorem xq_o_88 : xq_gd (88, xq_k0 (.pop2)) := xq_gd0 (fun _ => ⟨_, rfl, rfl⟩)
theorem xq_o_136 : xq_gd (136, xq_k0 (.l2i)) := xq_gd0 (fun _ => ⟨_, rfl, rfl⟩)
theorem xq_o_84 : xq_gd (84, xq_k0 (.bastore)) := xq_gd0 (fun _ => ⟨_, rfl, rfl⟩)
theorem xq_o_122 : xq_gd (122, xq_k0 (.ishr)) := xq_gd0 (fun _ => ⟨_, rfl, rfl⟩)
theorem xq_o_97 : xq_gd (97, xq_k0 (.ladd)) := xq_gd0 (fun _ => ⟨_, rfl, rfl⟩)
theorem xq_o_25 : xq_gd (25, xq_k1 (fun n => .aload n)) := xq_gd1 (fun _ => ⟨_, rfl, rfl⟩)
theorem xq_o_92 : xq_gd (92, xq_k0 (.dup2)) := xq_gd0 (fun _ => ⟨_, rfl, rfl⟩)
theorem xq_o_125 : xq_gd (125, xq_k0 (.lushr)) := xq_gd0 (fun _ => ⟨_, rfl, rfl⟩)
theorem xq_o_112 : xq_gd (112, xq_k0 (.irem)) := xq_gd0 (fun _ => ⟨_, rfl, rfl⟩)
theorem xq_o_199 : xq_gd (199, xq_ks2 (fun n => .ifnonnull n)) := xq_gds2 (fun _ => ⟨_, rfl, rfl⟩)
theorem xq_o_108 : xq_gd (108, xq_k0 (.idiv)) := xq_gd0 (fun _ => ⟨_, rfl, rfl⟩)
theorem xq_o_131 : xq_gd (131, xq_k0 (.lxor)) := xq_gd0 (fun _ => ⟨_, rfl, rfl⟩)
theorem xq_o_1 : xq_gd (1, xq_k0 (.aconst_null)) := xq_gd0 (fun _ => ⟨_, rfl, rfl⟩)
theorem xq_o_145 : xq_gd (145, xq_k0 (.i2b)) := xq_gd0 (fun _ => ⟨_, rfl, rfl⟩)
theorem xq_o_75 : xq_gd (75, xq_k0 (.astore_n 0)) := xq_gd0 (fun _ => ⟨_, rfl, rfl⟩)
theorem xq_o_76 : xq_gd (76, xq_k0 (.astore_n 1)) := xq_gd0 (fun _ => ⟨_, rfl, rfl⟩)
theorem xq_o_77 : xq_gd (77, xq_k0 (.astore_n 2)) := xq_gd0 (fun _ => ⟨_, rfl, rfl⟩)
theorem xq_o_78 : xq_gd (78, xq_k0 (.astore_n 3)) := xq_gd0 (fun _ => ⟨_, rfl, rfl⟩)
theorem xq_o_128 : xq_gd (128, xq_k0 (.ior)) := xq_gd0 (fun _ => ⟨_, rfl, rfl⟩)
theorem xq_o_105 : xq_gd (105, xq_k0 (.lmul)) := xq_gd0 (fun _ => ⟨_, rfl, rfl⟩)
theorem xq_o_109 : xq_gd (109, xq_k0 (.ldiv)) := xq_gd0 (fun _ => ⟨_, rfl, rfl⟩)
theorem xq_o_123 : xq_gd (123, xq_k0 (.lshr)) := xq_gd0 (fun _ => ⟨_, rfl, rfl⟩)
theorem xq_o_189 : xq_gd (189, xq_k2 (fun n => .anewarray n)) := xq_gd2 (fun _ => ⟨_, rfl, rfl⟩)
theorem xq_o_83 : xq_gd (83, xq_k0 (.aastore)) := xq_gd0 (fun _ => ⟨_, rfl, rfl⟩)
theorem xq_o_113 : xq_gd (113, xq_k0 (.lrem)) := xq_gd0 (fun _ => ⟨_, rfl, rfl⟩)
theorem xq_o_147 : xq_gd (147, xq_k0 (.i2s)) := xq_gd0 (fun _ => ⟨_, rfl, rfl⟩)
theorem xq_o_58 : xq_gd (58, xq_k1 (fun n => .astore n)) := xq_gd1 (fun _ => ⟨_, rfl, rfl⟩)
theorem xq_o_101 : xq_gd (101, xq_k0 (.lsub)) := xq_gd0 (fun _ => ⟨_, rfl, rfl⟩)
theorem xq_o_146 : xq_gd (146, xq_k0 (.i2c)) := xq_gd0 (fun _ => ⟨_, rfl, rfl⟩)
theorem xq_o_198 : xq_gd (198, xq_ks2 (fun n => .ifnull n)) := xq_gds2 (fun _ => ⟨_, rfl, rfl⟩)
theorem xq_o_130 : xq_gd (130, xq_k0 (.ixor)) := xq_gd0 (fun _ => ⟨_, rfl, rfl⟩)
theorem xq_o_90 : xq_gd (90, xq_k0 (.dup_x1)) := xq_gd0 (fun _ => ⟨_, rfl, rfl⟩)
noncomputable def xq_ops : List (Nat × xq_Of) := [(42, xq_k0 (.aload_n 0)), (43, xq_k0 (.aload_n 1)), (180, xq_k2 (fun n => .getfield n)), (26, xq_k0 (.iload_n 0)), (27, xq_k0 (.iload_n 1)), (28, xq_k0 (.iload_n 2)), (29, xq_k0 (.iload_n 3)), (2, xq_k0 (.iconst (-1))), (3, xq_k0 (.iconst 0)), (4, xq_k0 (.iconst 1)), (5, xq_k0 (.iconst 2)), (6, xq_k0 (.iconst 3)), (7, xq_k0 (.iconst 4)), (8, xq_k0 (.iconst 5)), (182, xq_k2 (fun n => .invokevirtual n)), (159, xq_ks2 (fun n => .if_icmp .eq n)), (160, xq_ks2 (fun n => .if_icmp .ne n)), (161, xq_ks2 (fun n => .if_icmp .lt n)), (162, xq_ks2 (fun n => .if_icmp .ge n)), (163, xq_ks2 (fun n => .if_icmp .gt n)), (164, xq_ks2 (fun n => .if_icmp .le n)), (172, xq_k0 (.ireturn)), (167, xq_ks2 (fun n => .goto n)), (153, xq_ks2 (fun n => .ifCond .eq n)), (154, xq_ks2 (fun n => .ifCond .ne n)), (155, xq_ks2 (fun n => .ifCond .lt n)), (156, xq_ks2 (fun n => .ifCond .ge n)), (157, xq_ks2 (fun n => .ifCond .gt n)), (158, xq_ks2 (fun n => .ifCond .le n)), (44, xq_k0 (.aload_n 2)), (45, xq_k0 (.aload_n 3)), (46, xq_k0 (.iaload)), (96, xq_k0 (.iadd)), (16, xq_ks1 (fun n => .bipush n)), (181, xq_k2 (fun n => .putfield n)), (21, xq_k1 (fun n => .iload n)), (59, xq_k0 (.istore_n 0)), (60, xq_k0 (.istore_n 1)), (61, xq_k0 (.istore_n 2)), (62, xq_k0 (.istore_n 3)), (132, xq_ki), (54, xq_k1 (fun n => .istore n)), (79, xq_k0 (.iastore)), (17, xq_ks2 (fun n => .sipush n)), (87, xq_k0 (.pop)), (30, xq_k0 (.lload_n 0)), (31, xq_k0 (.lload_n 1)), (32, xq_k0 (.lload_n 2)), (33, xq_k0 (.lload_n 3)), (184, xq_k2 (fun n => .invokestatic n)), (100, xq_k0 (.isub)), (89, xq_k0 (.dup)), (177, xq_k0 (.return_)), (188, xq_kn), (133, xq_k0 (.i2l)), (104, xq_k0 (.imul)), (9, xq_k0 (.lconst 0)), (10, xq_k0 (.lconst 1)), (178, xq_k2 (fun n => .getstatic n)), (148, xq_k0 (.lcmp)), (20, xq_k2 (fun n => .ldc2_w n)), (173, xq_k0 (.lreturn)), (183, xq_k2 (fun n => .invokespecial n)), (51, xq_k0 (.baload)), (129, xq_k0 (.lor)), (18, xq_k1 (fun n => .ldc n)), (165, xq_ks2 (fun n => .if_acmp .eq n)), (166, xq_ks2 (fun n => .if_acmp .ne n)), (47, xq_k0 (.laload)), (63, xq_k0 (.lstore_n 0)), (64, xq_k0 (.lstore_n 1)), (65, xq_k0 (.lstore_n 2)), (66, xq_k0 (.lstore_n 3)), (190, xq_k0 (.arraylength)), (22, xq_k1 (fun n => .lload n)), (80, xq_k0 (.lastore)), (187, xq_k2 (fun n => .new n)), (121, xq_k0 (.lshl)), (127, xq_k0 (.land)), (126, xq_k0 (.iand)), (124, xq_k0 (.iushr)), (55, xq_k1 (fun n => .lstore n)), (19, xq_k2 (fun n => .ldc_w n)), (50, xq_k0 (.aaload)), (120, xq_k0 (.ishl)), (88, xq_k0 (.pop2)), (136, xq_k0 (.l2i)), (84, xq_k0 (.bastore)), (122, xq_k0 (.ishr)), (97, xq_k0 (.ladd)), (25, xq_k1 (fun n => .aload n)), (92, xq_k0 (.dup2)), (125, xq_k0 (.lushr)), (112, xq_k0 (.irem)), (199, xq_ks2 (fun n => .ifnonnull n)), (108, xq_k0 (.idiv)), (131, xq_k0 (.lxor)), (1, xq_k0 (.aconst_null)), (145, xq_k0 (.i2b)), (75, xq_k0 (.astore_n 0)), (76, xq_k0 (.astore_n 1)), (77, xq_k0 (.astore_n 2)), (78, xq_k0 (.astore_n 3)), (128, xq_k0 (.ior)), (105, xq_k0 (.lmul)), (109, xq_k0 (.ldiv)), (123, xq_k0 (.lshr)), (189, xq_k2 (fun n => .anewarray n)), (83, xq_k0 (.aastore)), (113, xq_k0 (.lrem)), (147, xq_k0 (.i2s)), (58, xq_k1 (fun n => .astore n)), (101, xq_k0 (.lsub)), (146, xq_k0 (.i2c)), (198, xq_ks2 (fun n => .ifnull n)), (130, xq_k0 (.ixor)), (90, xq_k0 (.dup_x1))]
noncomputable def xq_allP {α : Type} (P : α → Prop) : List α → Prop
  | [] => True
  | a :: l => P a ∧ xq_allP P l
theorem xq_ops_ok : xq_allP xq_gd xq_ops := ⟨xq_o_42, ⟨xq_o_43, ⟨xq_o_180, ⟨xq_o_26, ⟨xq_o_27, ⟨xq_o_28, ⟨xq_o_29, ⟨xq_o_2, ⟨xq_o_3, ⟨xq_o_4, ⟨xq_o_5, ⟨xq_o_6, ⟨xq_o_7, ⟨xq_o_8, ⟨xq_o_182, ⟨xq_o_159, ⟨xq_o_160, ⟨xq_o_161, ⟨xq_o_162, ⟨xq_o_163, ⟨xq_o_164, ⟨xq_o_172, ⟨xq_o_167, ⟨xq_o_153, ⟨xq_o_154, ⟨xq_o_155, ⟨xq_o_156, ⟨xq_o_157, ⟨xq_o_158, ⟨xq_o_44, ⟨xq_o_45, ⟨xq_o_46, ⟨xq_o_96, ⟨xq_o_16, ⟨xq_o_181, ⟨xq_o_21, ⟨xq_o_59, ⟨xq_o_60, ⟨xq_o_61, ⟨xq_o_62, ⟨xq_o_132, ⟨xq_o_54, ⟨xq_o_79, ⟨xq_o_17, ⟨xq_o_87, ⟨xq_o_30, ⟨xq_o_31, ⟨xq_o_32, ⟨xq_o_33, ⟨xq_o_184, ⟨xq_o_100, ⟨xq_o_89, ⟨xq_o_177, ⟨xq_o_188, ⟨xq_o_133, ⟨xq_o_104, ⟨xq_o_9, ⟨xq_o_10, ⟨xq_o_178, ⟨xq_o_148, ⟨xq_o_20, ⟨xq_o_173, ⟨xq_o_183, ⟨xq_o_51, ⟨xq_o_129, ⟨xq_o_18, ⟨xq_o_165, ⟨xq_o_166, ⟨xq_o_47, ⟨xq_o_63, ⟨xq_o_64, ⟨xq_o_65, ⟨xq_o_66, ⟨xq_o_190, ⟨xq_o_22, ⟨xq_o_80, ⟨xq_o_187, ⟨xq_o_121, ⟨xq_o_127, ⟨xq_o_126, ⟨xq_o_124, ⟨xq_o_55, ⟨xq_o_19, ⟨xq_o_50, ⟨xq_o_120, ⟨xq_o_88, ⟨xq_o_136, ⟨xq_o_84, ⟨xq_o_122, ⟨xq_o_97, ⟨xq_o_25, ⟨xq_o_92, ⟨xq_o_125, ⟨xq_o_112, ⟨xq_o_199, ⟨xq_o_108, ⟨xq_o_131, ⟨xq_o_1, ⟨xq_o_145, ⟨xq_o_75, ⟨xq_o_76, ⟨xq_o_77, ⟨xq_o_78, ⟨xq_o_128, ⟨xq_o_105, ⟨xq_o_109, ⟨xq_o_123, ⟨xq_o_189, ⟨xq_o_83, ⟨xq_o_113, ⟨xq_o_147, ⟨xq_o_58, ⟨xq_o_101, ⟨xq_o_146, ⟨xq_o_198, ⟨xq_o_130, ⟨xq_o_90, trivial⟩⟩⟩⟩⟩⟩⟩⟩⟩⟩⟩⟩⟩⟩⟩⟩⟩⟩⟩⟩⟩⟩⟩⟩⟩⟩⟩⟩⟩⟩⟩⟩⟩⟩⟩⟩⟩⟩⟩⟩⟩⟩⟩⟩⟩⟩⟩⟩⟩⟩⟩⟩⟩⟩⟩⟩⟩⟩⟩⟩⟩⟩⟩⟩⟩⟩⟩⟩⟩⟩⟩⟩⟩⟩⟩⟩⟩⟩⟩⟩⟩⟩⟩⟩⟩⟩⟩⟩⟩⟩⟩⟩⟩⟩⟩⟩⟩⟩⟩⟩⟩⟩⟩⟩⟩⟩⟩⟩⟩⟩⟩⟩⟩⟩⟩⟩⟩
noncomputable def xq_lkp (l : List (Nat × xq_Of)) (n : Nat) (bs : List UInt8) : Option (Instr × Nat) := List.rec (motive := fun _ => Option (Instr × Nat)) none (fun h _ ih => cond (Nat.beq h.1 n) (h.2 bs) ih) l
theorem xq_lkp_ok : ∀ {l : List (Nat × xq_Of)}, xq_allP xq_gd l → ∀ {C : ByteArray} {pc : Nat} {x : UInt8} {r : List UInt8} {ins : Instr} {n : Nat}, C.data.toList.drop pc = x :: r → xq_lkp l x.toNat r = some (ins, n) → decode C pc = .ok (ins, n)
  | [], _, _, _, _, _, _, _, _, h => by cases h
  | e :: l, hl, C, pc, x, r, ins, n, hd, h => by
    have h : cond (Nat.beq e.1 x.toNat) (e.2 r) (xq_lkp l x.toNat r) = some (ins, n) := h
    cases hb : Nat.beq e.1 x.toNat with
    | true =>
      rw [hb] at h
      exact hl.1 C pc x r ins n hd (Nat.eq_of_beq_eq_true hb).symm h
    | false =>
      rw [hb] at h
      exact xq_lkp_ok hl.2 hd h
noncomputable def xq_stp : List UInt8 → Option (Instr × Nat)
  | x :: r => xq_lkp xq_ops x.toNat r
  | [] => none
noncomputable def xq_eqs : Option (Instr × Nat) → Instr → Nat → Bool
  | some (i, n), ins, len => decide (i = ins) && Nat.beq n len
  | none, _, _ => false
theorem xq_stp_ok {C : ByteArray} {pc : Nat} {bs : List UInt8} {ins : Instr} {len : Nat} (hd : C.data.toList.drop pc = bs) (h : xq_eqs (xq_stp bs) ins len = true) : decode C pc = .ok (ins, len) := by
  cases bs with
  | nil => cases h
  | cons x r =>
    have h : xq_eqs (xq_lkp xq_ops x.toNat r) ins len = true := h
    cases hq : xq_lkp xq_ops x.toNat r with
    | none => rw [hq] at h; cases h
    | some v =>
      obtain ⟨i, n⟩ := v
      rw [hq] at h
      have h : (decide (i = ins) && Nat.beq n len) = true := h
      rw [Bool.and_eq_true, decide_eq_true_eq] at h
      rw [← h.1, ← Nat.eq_of_beq_eq_true h.2]
      exact xq_lkp_ok xq_ops_ok hd hq
/-! ===== the words of the links, by their places ===== -/
/-- a link's kind (1 a field, 2 a final one, 3 a field outside, 4 a static, 5 new, 6 anewarray, 7 to 9 calls), the class that has it, its index, a, b -/
noncomputable abbrev xq_Lk : Type := Nat × Nat × Nat × Nat × Nat × Nat
noncomputable def xq_cn (c : Nat) : String := xq_cns.getD c ""
noncomputable def xq_lkB : xq_Lk → Bool
  | (q, 1, c, i, a, b) => x_chkW ⟨xq_cn c, "", ""⟩ a b q 0 (.getfield i) && x_chkW ⟨xq_cn c, "", ""⟩ a b q 0 (.putfield i)
  | (q, 2, c, i, a, b) => x_chkW ⟨xq_cn c, "", ""⟩ a b q 0 (.getfield i) && x_chkW ⟨xq_cn c, "<init>", ""⟩ a b q 0 (.putfield i)
  | (q, 3, c, i, a, b) => x_chkW ⟨xq_cn c, "", ""⟩ a b q 0 (.getfield i)
  | (q, 4, c, i, a, b) => x_chkW ⟨xq_cn c, "", ""⟩ a b q 0 (.getstatic i)
  | (q, 5, c, i, a, b) => x_chkW ⟨xq_cn c, "", ""⟩ a b q 0 (.new i)
  | (q, 6, c, i, a, b) => x_chkW ⟨xq_cn c, "", ""⟩ a b q 0 (.anewarray i)
  | (q, 7, c, i, a, b) => x_chkW ⟨xq_cn c, "", ""⟩ a b q 0 (.invokevirtual i)
  | (q, 8, c, i, a, b) => x_chkW ⟨xq_cn c, "", ""⟩ a b q 0 (.invokespecial i)
  | (q, 9, c, i, a, b) => x_chkW ⟨xq_cn c, "", ""⟩ a b q 0 (.invokestatic i)
  | _ => true
noncomputable def xq_tq (L : List xq_Lk) (k1 k2 q c i a b : Nat) : Bool := List.rec (motive := fun _ => Bool) false (fun h _ ih => cond (Nat.beq h.1 q) (Nat.ble k1 h.2.1 && (Nat.ble h.2.1 k2 && (Nat.beq h.2.2.1 c && (Nat.beq h.2.2.2.1 i && (Nat.beq h.2.2.2.2.1 a && Nat.beq h.2.2.2.2.2 b))))) ih) L
theorem xq_tq_ok : ∀ {L : List xq_Lk} {k1 k2 q c i a b : Nat}, xq_tq L k1 k2 q c i a b = true → L.all xq_lkB = true → ∃ k, k1 ≤ k ∧ k ≤ k2 ∧ xq_lkB (q, k, c, i, a, b) = true
  | [], _, _, _, _, _, _, _, h, _ => by cases h
  | (q', k', c', i', a', b') :: L, k1, k2, q, c, i, a, b, h, hl => by
    rw [List.all_cons, Bool.and_eq_true] at hl
    have h : cond (Nat.beq q' q) (Nat.ble k1 k' && (Nat.ble k' k2 && (Nat.beq c' c && (Nat.beq i' i && (Nat.beq a' a && Nat.beq b' b))))) (xq_tq L k1 k2 q c i a b) = true := h
    cases hb : Nat.beq q' q with
    | true =>
      rw [hb] at h
      have h : (Nat.ble k1 k' && (Nat.ble k' k2 && (Nat.beq c' c && (Nat.beq i' i && (Nat.beq a' a && Nat.beq b' b))))) = true := h
      simp only [Bool.and_eq_true] at h
      obtain ⟨h1, h2, h3, h4, h5, h6⟩ := h
      have e0 := Nat.eq_of_beq_eq_true hb
      have e3 := Nat.eq_of_beq_eq_true h3
      have e4 := Nat.eq_of_beq_eq_true h4
      have e5 := Nat.eq_of_beq_eq_true h5
      have e6 := Nat.eq_of_beq_eq_true h6
      subst e0; subst e3; subst e4; subst e5; subst e6
      exact ⟨k', Nat.le_of_ble_eq_true h1, Nat.le_of_ble_eq_true h2, hl.1⟩
    | false =>
      rw [hb] at h
      exact xq_tq_ok h hl.2
noncomputable def xq_fW (y0 : MethodName) (L : List xq_Lk) (c : Nat) (ini : Bool) (a b q : Nat) (z : Int) : Instr → Bool
  | .getfield i => xq_tq L 1 3 q c i a b || x_chkW y0 a b q z (.getfield i)
  | .putfield i => xq_tq L 1 (cond ini 2 1) q c i a b || x_chkW y0 a b q z (.putfield i)
  | .getstatic i => xq_tq L 4 4 q c i a b || x_chkW y0 a b q z (.getstatic i)
  | .new i => xq_tq L 5 5 q c i a b || x_chkW y0 a b q z (.new i)
  | .anewarray i => xq_tq L 6 6 q c i a b || x_chkW y0 a b q z (.anewarray i)
  | .invokevirtual i => xq_tq L 7 7 q c i a b || x_chkW y0 a b q z (.invokevirtual i)
  | .invokespecial i => xq_tq L 8 8 q c i a b || x_chkW y0 a b q z (.invokespecial i)
  | .invokestatic i => xq_tq L 9 9 q c i a b || x_chkW y0 a b q z (.invokestatic i)
  | ins => x_chkW y0 a b q z ins
theorem xq_fP {C nm nm' ds ds' : String} {a b q : Nat} {z : Int} {i : Nat} (h : x_chkW ⟨C, nm, ds⟩ a b q 0 (.putfield i) = true) (hn : nm = "") : x_chkW ⟨C, nm', ds'⟩ a b q z (.putfield i) = true := by
  subst hn
  have h : x_chkP ⟨C, "", ds⟩ i a b q = true := h
  show x_chkP ⟨C, nm', ds'⟩ i a b q = true
  unfold x_chkP at h ⊢
  split at h
  · rename_i q1 q2
    simp only [Bool.and_eq_true, Bool.or_eq_true, decide_eq_true_eq] at h ⊢
    refine ⟨h.1, ?_⟩
    rcases h.2 with h2 | h2
    · exact Or.inl h2
    · exact absurd h2.1 (by decide)
  · exact h
  · cases h
section FW
variable {y0 : MethodName} {L : List xq_Lk} {c : Nat} {ini : Bool} {a b q : Nat} {z : Int}
theorem xq_fW_ok (hL : L.all xq_lkB = true) (hc : y0.cls = xq_cn c) (hi : ini = true → y0.name = "<init>") : ∀ {ins : Instr}, xq_fW y0 L c ini a b q z ins = true → x_chkW y0 a b q z ins = true := by
  obtain ⟨C, nm, ds⟩ := y0
  have hc : C = xq_cn c := hc
  have hi : ini = true → nm = "<init>" := hi
  subst hc
  intro ins h
  unfold xq_fW at h
  split at h
  · rcases (Bool.or_eq_true _ _).mp h with h | h
    · obtain ⟨k, h1, h2, h3⟩ := xq_tq_ok h hL
      obtain rfl | rfl | rfl : k = 1 ∨ k = 2 ∨ k = 3 := by omega
      · exact ((Bool.and_eq_true _ _).mp h3).1
      · exact ((Bool.and_eq_true _ _).mp h3).1
      · exact h3
    · exact h
  · rcases (Bool.or_eq_true _ _).mp h with h | h
    · obtain ⟨k, h1, h2, h3⟩ := xq_tq_ok h hL
      cases ini with
      | true =>
        have hn := hi rfl
        subst hn
        have h2 : k ≤ 2 := h2
        obtain rfl | rfl : k = 1 ∨ k = 2 := by omega
        · have h4 := ((Bool.and_eq_true _ _).mp h3).2
          exact xq_fP h4 rfl
        · exact ((Bool.and_eq_true _ _).mp h3).2
      | false =>
        have h2 : k ≤ 1 := h2
        obtain rfl : k = 1 := by omega
        have h4 := ((Bool.and_eq_true _ _).mp h3).2
        exact xq_fP h4 rfl
    · exact h
  · rcases (Bool.or_eq_true _ _).mp h with h | h
    · obtain ⟨k, h1, h2, h3⟩ := xq_tq_ok h hL
      obtain rfl : k = 4 := by omega
      exact h3
    · exact h
  · rcases (Bool.or_eq_true _ _).mp h with h | h
    · obtain ⟨k, h1, h2, h3⟩ := xq_tq_ok h hL
      obtain rfl : k = 5 := by omega
      exact h3
    · exact h
  · rcases (Bool.or_eq_true _ _).mp h with h | h
    · obtain ⟨k, h1, h2, h3⟩ := xq_tq_ok h hL
      obtain rfl : k = 6 := by omega
      exact h3
    · exact h
  · rcases (Bool.or_eq_true _ _).mp h with h | h
    · obtain ⟨k, h1, h2, h3⟩ := xq_tq_ok h hL
      obtain rfl : k = 7 := by omega
      exact h3
    · exact h
  · rcases (Bool.or_eq_true _ _).mp h with h | h
    · obtain ⟨k, h1, h2, h3⟩ := xq_tq_ok h hL
      obtain rfl : k = 8 := by omega
      exact h3
    · exact h
  · rcases (Bool.or_eq_true _ _).mp h with h | h
    · obtain ⟨k, h1, h2, h3⟩ := xq_tq_ok h hL
      obtain rfl : k = 9 := by omega
      exact h3
    · exact h
  · exact h
end FW
/-- a method's rows, down its bytes -/
noncomputable def xq_wk (y0 : MethodName) (b0 : ByteArray) (L : List xq_Lk) (c : Nat) (ini : Bool) : List (Nat × x_Row) → Nat → List UInt8 → Bool
  | [], _, _ => true
  | (p, ins, len, a, b, q, z) :: rows, pc, bs => Nat.ble pc p && ((xq_eqs (xq_stp (bs.drop (p - pc))) ins len || decide (decode b0 p = .ok (ins, len))) && (x_chkO p a len ins && (xq_fW y0 L c ini a b q z ins && xq_wk y0 b0 L c ini rows (p + len) ((bs.drop (p - pc)).drop len))))
theorem xq_wk_ok {y0 : MethodName} {b0 : ByteArray} {L : List xq_Lk} {c : Nat} {ini : Bool} (hL : L.all xq_lkB = true) (hc : y0.cls = xq_cn c) (hi : ini = true → y0.name = "<init>") : ∀ {rows : List (Nat × x_Row)} {pc : Nat} {bs : List UInt8}, b0.data.toList.drop pc = bs → xq_wk y0 b0 L c ini rows pc bs = true → x_chkT y0 b0 rows = true
  | [], _, _, _, _ => rfl
  | (p, ins, len, a, b, q, z) :: rows, pc, bs, hb, h => by
    have h : (Nat.ble pc p && ((xq_eqs (xq_stp (bs.drop (p - pc))) ins len || decide (decode b0 p = .ok (ins, len))) && (x_chkO p a len ins && (xq_fW y0 L c ini a b q z ins && xq_wk y0 b0 L c ini rows (p + len) ((bs.drop (p - pc)).drop len))))) = true := h
    simp only [Bool.and_eq_true] at h
    obtain ⟨h1, h2, h3, h4, h5⟩ := h
    have h1 := Nat.le_of_ble_eq_true h1
    have hb2 : b0.data.toList.drop p = bs.drop (p - pc) := by rw [← hb, List.drop_drop, show pc + (p - pc) = p by omega]
    have hd : decode b0 p = .ok (ins, len) := by
      rcases (Bool.or_eq_true _ _).mp h2 with h2 | h2
      · exact xq_stp_ok hb2 h2
      · exact of_decide_eq_true h2
    have hb3 : b0.data.toList.drop (p + len) = (bs.drop (p - pc)).drop len := by rw [← hb2, List.drop_drop]
    have ih := xq_wk_ok hL hc hi hb3 h5
    show (x_chk y0 b0 p (ins, len, a, b, q, z) && x_chkT y0 b0 rows) = true
    rw [Bool.and_eq_true]
    refine ⟨?_, ih⟩
    show (decide (decode b0 p = .ok (ins, len)) && x_chkO p a len ins && x_chkW y0 a b q z ins) = true
    rw [Bool.and_eq_true, Bool.and_eq_true]
    exact ⟨⟨decide_eq_true hd, h3⟩, xq_fW_ok hL hc hi h4⟩
theorem xq_wkT {y0 : MethodName} {b0 : ByteArray} {L : List xq_Lk} {rows : List (Nat × x_Row)} (c : Nat) (ini : Bool) (hL : L.all xq_lkB = true) (hc : y0.cls = xq_cn c) (hi : ini = true → y0.name = "<init>") (h : xq_wk y0 b0 L c ini rows 0 b0.data.toList = true) : x_chkT y0 b0 rows = true := xq_wk_ok hL hc hi rfl h
/-! ===== the words, sixteen at a time ===== -/
noncomputable def xq_dr (k : Nat) : List Cond := Nat.rec (motive := fun _ => List Cond) lw_tbl (fun _ ih => ih.drop 16) k
theorem xq_dr_eq : ∀ k, xq_dr k = lw_tbl.drop (16 * k)
  | 0 => by rw [Nat.mul_zero, List.drop_zero]; rfl
  | k + 1 => by
    show (xq_dr k).drop 16 = _
    rw [xq_dr_eq k, List.drop_drop, show 16 * k + 16 = 16 * (k + 1) by omega]
noncomputable def xq_lk (i : Nat) : Option Cond := (xq_dr (i / 16))[i % 16]?
theorem xq_lwq (i : Nat) : xq_lk i = lw_tbl[i]? := by
  unfold xq_lk
  rw [xq_dr_eq, List.getElem?_drop, show 16 * (i / 16) + i % 16 = i by omega]
noncomputable def xq_cF (t : Option Cond) (C : String) (idx a b : Nat) : Bool := match vwCl[a]?, t with
  | some (_, T, N), some (.fieldLink own i r n d) => Nat.blt b N && (Nat.beq i idx && (decide (own = C) && decide ((r, n, d) = ((T b).1, (T b).2.1, (T b).2.2.1))))
  | some (_, T, N), some (.fieldLinkNest own i r n d _) => Nat.blt b N && (Nat.beq i idx && (decide (own = C) && decide ((r, n, d) = ((T b).1, (T b).2.1, (T b).2.2.1))))
  | _, _ => false
noncomputable def xq_cP (a b : Nat) (C nm : String) : Bool := match vwCl[a]? with
  | some (_, T, _) => !(T b).2.2.2 || (decide (nm = "<init>") && decide ((T b).1 = C))
  | _ => false
noncomputable def xq_cN (t : Option Cond) : Bool := match t with
  | some (.fieldLinkNest _ _ _ _ _ _) => true
  | _ => false
theorem xq_cF_g {C nm ds : String} {idx a b q : Nat} {z : Int} (ha : a ≠ 200) (h : xq_cF lw_tbl[q]? C idx a b = true) : x_chkW ⟨C, nm, ds⟩ a b q z (.getfield idx) = true := by
  show (if a = 200 then _ else x_chkF ⟨C, nm, ds⟩ idx a b q) = true
  rw [if_neg ha]
  unfold xq_cF at h
  unfold x_chkF
  split at h
  · rename_i e1 e2
    rw [e1, e2]
    simp only [Bool.and_eq_true, decide_eq_true_eq] at h ⊢
    exact ⟨⟨⟨Nat.blt_eq.mp h.1, h.2.2.1⟩, Nat.eq_of_beq_eq_true h.2.1⟩, h.2.2.2⟩
  · rename_i e1 e2
    rw [e1, e2]
    simp only [Bool.and_eq_true, decide_eq_true_eq] at h ⊢
    exact ⟨⟨⟨Nat.blt_eq.mp h.1, h.2.2.1⟩, Nat.eq_of_beq_eq_true h.2.1⟩, h.2.2.2⟩
  · cases h
theorem xq_cF_p {C nm ds : String} {idx a b q : Nat} {z : Int} (h : xq_cF lw_tbl[q]? C idx a b = true) (h2 : xq_cP a b C nm = true) (h3 : nm = "" ∨ xq_cN lw_tbl[q]? = false) : x_chkW ⟨C, nm, ds⟩ a b q z (.putfield idx) = true := by
  show x_chkP ⟨C, nm, ds⟩ idx a b q = true
  unfold xq_cF at h
  unfold xq_cP at h2
  unfold x_chkP
  split at h
  · rename_i e1 e2
    rw [e1] at h2
    rw [e1, e2]
    simp only [Bool.and_eq_true, Bool.or_eq_true, decide_eq_true_eq] at h h2 ⊢
    refine ⟨⟨⟨⟨Nat.blt_eq.mp h.1, h.2.2.1⟩, Nat.eq_of_beq_eq_true h.2.1⟩, h.2.2.2⟩, ?_⟩
    rw [h.2.2.1]; exact h2
  · rename_i e1 e2
    rw [e1] at h2
    rw [e2] at h3
    rw [e1, e2]
    simp only [Bool.and_eq_true, Bool.or_eq_true, decide_eq_true_eq] at h h2 ⊢
    refine ⟨⟨⟨⟨Nat.blt_eq.mp h.1, h.2.2.1⟩, Nat.eq_of_beq_eq_true h.2.1⟩, h.2.2.2⟩, ?_⟩
    rcases h2 with h2 | h2
    · exact h2
    · rcases h3 with h3 | h3
      · rw [h3] at h2; exact absurd h2.1 (by decide)
      · cases h3
  · cases h
noncomputable def xq_cC (t : Option Cond) (C : String) (idx a b : Nat) (kind : Nat) : Bool := Nat.blt a n_L_law && ((match t with
    | some (.methodLink own i y) => Nat.beq i idx && (decide (own = C) && decide (y = x_y a))
    | some (.methodLinkNest own i y _) => Nat.beq i idx && (decide (own = C) && decide (y = x_y a))
    | _ => false) && (match kind with
    | 0 => !x_stat a && (decide ((parseMethodDescriptor (x_y a).desc).map (fun d => d.parameters.length + 1) = some b) && decide ((x_y a).name ≠ "<init>"))
    | 1 => !x_stat a && (decide ((parseMethodDescriptor (x_y a).desc).map (fun d => d.parameters.length + 1) = some b) && (decide ((x_y a).name = "<init>") && decide (x_rt a = none)))
    | _ => x_stat a && decide ((parseMethodDescriptor (x_y a).desc).map (fun d => d.parameters.length) = some b)))
theorem xq_cC_ok {C nm ds : String} {idx a b q kind : Nat} (h : xq_cC lw_tbl[q]? C idx a b kind = true) : x_chkC ⟨C, nm, ds⟩ idx a b q kind = true := by
  unfold xq_cC at h
  rw [Bool.and_eq_true, Bool.and_eq_true] at h
  obtain ⟨h1, h2, h3⟩ := h
  have h1 : a < n_L_law := Nat.blt_eq.mp h1
  have hN : n_L_law < 1000 := by decide
  unfold x_chkC
  rw [if_neg (by omega), if_neg (by omega), if_neg (by omega), Bool.and_eq_true, Bool.and_eq_true]
  refine ⟨⟨decide_eq_true h1, ?_⟩, ?_⟩
  · split at h2
    · rename_i e
      rw [e]
      simp only [Bool.and_eq_true, decide_eq_true_eq] at h2 ⊢
      exact ⟨⟨h2.2.1, Nat.eq_of_beq_eq_true h2.1⟩, h2.2.2⟩
    · rename_i e
      rw [e]
      simp only [Bool.and_eq_true, decide_eq_true_eq] at h2 ⊢
      exact ⟨⟨h2.2.1, Nat.eq_of_beq_eq_true h2.1⟩, h2.2.2⟩
    · cases h2
  · split at h3
    · simp only [Bool.and_eq_true] at h3 ⊢
      exact ⟨⟨h3.1, h3.2.1⟩, h3.2.2⟩
    · simp only [Bool.and_eq_true] at h3 ⊢
      exact ⟨⟨⟨h3.1, h3.2.1⟩, h3.2.2.1⟩, h3.2.2.2⟩
    · rename_i n0 n1
      match kind, n0, n1 with
      | 0, n0, _ => exact absurd rfl n0
      | 1, _, n1 => exact absurd rfl n1
      | k + 2, _, _ => exact h3
/-- a link, checked by its own word -/
noncomputable def xq_lkQ : xq_Lk → Bool
  | (q, 1, c, i, a, b) => !Nat.beq a 200 && (xq_cF (xq_lk q) (xq_cn c) i a b && xq_cP a b (xq_cn c) "")
  | (q, 2, c, i, a, b) => !Nat.beq a 200 && (xq_cF (xq_lk q) (xq_cn c) i a b && (xq_cP a b (xq_cn c) "<init>" && !xq_cN (xq_lk q)))
  | (q, 3, c, i, a, b) => !Nat.beq a 200 && xq_cF (xq_lk q) (xq_cn c) i a b || xq_lkB (q, 3, c, i, a, b)
  | (q, 7, c, i, a, b) => xq_cC (xq_lk q) (xq_cn c) i a b 0 || xq_lkB (q, 7, c, i, a, b)
  | (q, 8, c, i, a, b) => xq_cC (xq_lk q) (xq_cn c) i a b 1 || xq_lkB (q, 8, c, i, a, b)
  | (q, 9, c, i, a, b) => xq_cC (xq_lk q) (xq_cn c) i a b 2 || xq_lkB (q, 9, c, i, a, b)
  | v => xq_lkB v
theorem xq_n200 {a : Nat} (h : (!Nat.beq a 200) = true) : a ≠ 200 := fun e => by subst e; cases h
theorem xq_lkQ_ok : ∀ {v : xq_Lk}, xq_lkQ v = true → xq_lkB v = true := by
  intro v h
  unfold xq_lkQ at h
  split at h
  · simp only [Bool.and_eq_true] at h
    rw [xq_lwq] at h
    exact (Bool.and_eq_true _ _).mpr ⟨xq_cF_g (xq_n200 h.1) h.2.1, xq_cF_p h.2.1 h.2.2 (Or.inl rfl)⟩
  · simp only [Bool.and_eq_true] at h
    rw [xq_lwq] at h
    exact (Bool.and_eq_true _ _).mpr ⟨xq_cF_g (xq_n200 h.1) h.2.1, xq_cF_p h.2.1 h.2.2.1 (Or.inr (Bool.not_eq_true' _ ▸ h.2.2.2))⟩
  · rcases (Bool.or_eq_true _ _).mp h with h | h
    · rw [Bool.and_eq_true, xq_lwq] at h
      exact xq_cF_g (z := 0) (xq_n200 h.1) h.2
    · exact h
  · rcases (Bool.or_eq_true _ _).mp h with h | h
    · rw [xq_lwq] at h; exact xq_cC_ok h
    · exact h
  · rcases (Bool.or_eq_true _ _).mp h with h | h
    · rw [xq_lwq] at h; exact xq_cC_ok h
    · exact h
  · rcases (Bool.or_eq_true _ _).mp h with h | h
    · rw [xq_lwq] at h; exact xq_cC_ok h
    · exact h
  · exact h
theorem xq_lkL {L : List xq_Lk} (h : L.all xq_lkQ = true) : L.all xq_lkB = true := List.all_eq_true.mpr (fun v hv => xq_lkQ_ok (List.all_eq_true.mp h v hv))
/-! ===== a method's own words ===== -/
noncomputable def xq_eqL : List UInt8 → List UInt8 → Bool
  | [], [] => true
  | x :: r, y :: s => Nat.beq x.toNat y.toNat && xq_eqL r s
  | _, _ => false
theorem xq_eqL_ok : ∀ {r s : List UInt8}, xq_eqL r s = true → r = s
  | [], [], _ => rfl
  | [], _ :: _, h => by cases h
  | _ :: _, [], h => by cases h
  | x :: r, y :: s, h => by
    have h : (Nat.beq x.toNat y.toNat && xq_eqL r s) = true := h
    rw [Bool.and_eq_true] at h
    rw [UInt8.toNat_inj.mp (Nat.eq_of_beq_eq_true h.1), xq_eqL_ok h.2]
theorem xq_eqB {a b : ByteArray} (h : xq_eqL a.data.toList b.data.toList = true) : a = b := by
  obtain ⟨⟨a⟩⟩ := a
  obtain ⟨⟨b⟩⟩ := b
  have h : xq_eqL a b = true := h
  rw [xq_eqL_ok h]
noncomputable def xq_isC (t : Option Cond) (y : MethodName) (b : ByteArray) (m : Nat) (r : Option FieldType) : Bool := match t with
  | some (.code y' b' m' r') => Nat.beq m' m && (decide (r' = r) && (decide (y' = y) && xq_eqL b'.data.toList b.data.toList))
  | _ => false
theorem xq_isC_ok {t : Option Cond} {y : MethodName} {b : ByteArray} {m : Nat} {r : Option FieldType} (h : xq_isC t y b m r = true) : t = some (.code y b m r) := by
  unfold xq_isC at h
  split at h
  · simp only [Bool.and_eq_true, decide_eq_true_eq] at h
    rw [Nat.eq_of_beq_eq_true h.1, h.2.1, h.2.2.1, xq_eqB h.2.2.2]
  · cases h
noncomputable def xq_isI (t : Option Cond) (c : String) : Bool := match t with
  | some (.initialized c') => decide (c' = c)
  | _ => false
noncomputable def xq_isS (t : Option Cond) (y : MethodName) : Bool := match t with
  | some (.static y') => decide (y' = y)
  | _ => false
noncomputable def xq_isE (t : Option Cond) (y : MethodName) : Bool := match t with
  | some (.selects c' y' y2) => decide (c' = y.cls) && (decide (y' = y) && decide (y2 = y))
  | _ => false
theorem xq_isI_ok {t : Option Cond} {c : String} (h : xq_isI t c = true) : t = some (.initialized c) := by
  unfold xq_isI at h
  split at h
  · rw [of_decide_eq_true h]
  · cases h
theorem xq_isS_ok {t : Option Cond} {y : MethodName} (h : xq_isS t y = true) : t = some (.static y) := by
  unfold xq_isS at h
  split at h
  · rw [of_decide_eq_true h]
  · cases h
theorem xq_isE_ok {t : Option Cond} {y : MethodName} (h : xq_isE t y = true) : t = some (.selects y.cls y y) := by
  unfold xq_isE at h
  split at h
  · simp only [Bool.and_eq_true, decide_eq_true_eq] at h
    rw [h.1, h.2.1, h.2.2]
  · cases h
noncomputable def xq_mB (mi : Nat) : Bool := (plainName (x_y mi).cls && (decide ((x_y mi).cls ≠ "java/lang/invoke/MethodHandle" ∧ (x_y mi).cls ≠ "java/lang/invoke/VarHandle") && (Nat.ble (x_ml mi) 20 && xq_isI (xq_lk (x_pl mi).2.2.2) (x_y mi).cls))) && ((cond (x_stat mi) (xq_isS (xq_lk (x_pl mi).2.1) (x_y mi)) (lw_is3 (xq_lk (x_pl mi).2.1) (x_y mi) && (decide ((x_y mi).name = "<init>") || xq_isE (xq_lk (x_pl mi).2.2.1) (x_y mi)))) && ((decide (x_mci mi = 99) || (decide (x_mci mi = 100) && decide ((x_y mi).cls = "java/lang/String")) || decide ((vwCl[x_mci mi]?).map (fun q => q.1) = some (x_y mi).cls)) && xq_isC (xq_lk (x_pl mi).1) (x_y mi) (x_b mi) (x_ml mi) (x_rt mi)))
theorem xq_mB_ok {mi : Nat} (h : xq_mB mi = true) : x_okM mi := by
  unfold xq_mB at h
  rw [Bool.and_eq_true, Bool.and_eq_true, Bool.and_eq_true, Bool.and_eq_true, Bool.and_eq_true, Bool.and_eq_true, xq_lwq, xq_lwq, xq_lwq, xq_lwq] at h
  obtain ⟨⟨h1, h2, h3, h4⟩, h5, h6, h7⟩ := h
  refine ⟨?_, xq_isC_ok h7⟩
  unfold x_chkM
  rw [Bool.and_eq_true, Bool.and_eq_true, Bool.and_eq_true, Bool.and_eq_true, Bool.and_eq_true]
  refine ⟨⟨⟨⟨⟨h1, h2⟩, decide_eq_true (Nat.le_of_ble_eq_true h3)⟩, decide_eq_true (xq_isI_ok h4)⟩, ?_⟩, h6⟩
  cases hs : x_stat mi with
  | true =>
    rw [hs] at h5
    exact decide_eq_true (xq_isS_ok h5)
  | false =>
    rw [hs] at h5
    have h5 := (Bool.and_eq_true _ _).mp h5
    show (decide _ && (decide _ || decide _)) = true
    rw [Bool.and_eq_true, Bool.or_eq_true]
    refine ⟨decide_eq_true (lw_is3_ok h5.1), ?_⟩
    rcases (Bool.or_eq_true _ _).mp h5.2 with q | q
    · exact Or.inl q
    · exact Or.inr (decide_eq_true (xq_isE_ok q))
noncomputable def xq_rng : Nat → Nat → List Nat
  | _, 0 => []
  | a, n + 1 => a :: xq_rng (a + 1) n
theorem xq_rng_mem : ∀ {n a k : Nat}, a ≤ k → k < a + n → k ∈ xq_rng a n
  | 0, a, k, h1, h2 => by omega
  | n + 1, a, k, h1, h2 => by
    by_cases e : k = a
    · rw [e]; exact List.mem_cons_self
    · exact List.mem_cons_of_mem _ (xq_rng_mem (by omega) (by omega))
theorem xq_mAs {a n : Nat} (h : (xq_rng a n).all xq_mB = true) : ∀ k, a ≤ k → k < a + n → x_okM k := fun k h1 h2 => xq_mB_ok (List.all_eq_true.mp h k (xq_rng_mem h1 h2))
