/-! ===== the shadow machine: arrays, new cells ===== -/
section XARR
variable {p : Program} {l : Launch} {e : Env} {R : Room} {s : State} {m : MethodId} {args : Array Value} {below : List Frame} {meth : Method} {c : Code} {H : Heap} {locs : List Loc} {cells slots : Nat} {Q : State → Prop}
variable {cc : ByteArray} {pc : Nat} {ls : Array Slot} {rest : List Value} {E : x_Ad} {G : x_G}
theorem x_alen (hx : p.tables.exec = Jvm.exec) (hb : c.code = cc) (hK : x_KA E s) (hH : x_HR E G H) {k t n : Nat} (hk : G.1[k]? = some (.inr (t, n))) (ht : t < 7) (hdg : decode cc pc = .ok (.arraylength, 1))
    (kk : W p l e R s m args below meth c H locs cells slots Q (F0 m (pc + 1) ls (.int (Int32.ofNat n) :: rest))) : W p l e R s m args below meth c H locs cells slots Q (F0 m pc ls (.ref (E.2.2.1 + k) :: rest)) :=
  W.alen (n := Int32.ofNat n) hx hb (hH.2 k _ hk) ((hK.2 t ht).1 n _) (by rw [arrV_size] <;> rfl) rfl rfl hdg kk
noncomputable def x_ald : Nat → Instr | 0 => .iaload | 1 => .laload | 2 => .baload | 3 => .baload | _ => .aaload
theorem x_ald_ok (hx : p.tables.exec = Jvm.exec) (hb : c.code = cc) (hK : x_KA E s) (hH : x_HR E G H) {k t n : Nat} (hk : G.1[k]? = some (.inr (t, n))) (ht : t < 7) {i : Int32} (hi : vp_in i n) (hdg : decode cc pc = .ok (x_ald t, 1))
    (kk : W p l e R s m args below meth c H locs cells slots Q (F0 m (pc + 1) ls (x_cv E.2.2.1 E.2.2.2 (x_fv G k i.toNatClampNeg (x_ety t)) :: rest))) : W p l e R s m args below meth c H locs cells slots Q (F0 m pc ls (.int i :: .ref (E.2.2.1 + k) :: rest)) := by
  have hlt : i.toNatClampNeg < n := Nat.not_le.mp fun q => hi (Or.inr q)
  have hc := hH.2 k _ hk
  have ha := (hK.2 t ht).1 n (fun j => x_cv E.2.2.1 E.2.2.2 (x_fv G k j (x_ety t)))
  have hsz : ¬ (i < 0 ∨ (arrV (E.2.1 t) n (fun j => x_cv E.2.2.1 E.2.2.2 (x_fv G k j (x_ety t)))).slots.size ≤ i.toNatClampNeg) := by rw [arrV_size]; exact hi
  have hv : (arrV (E.2.1 t) n (fun j => x_cv E.2.2.1 E.2.2.2 (x_fv G k j (x_ety t)))).slots[i.toNatClampNeg]? = some (x_cv E.2.2.1 E.2.2.2 (x_fv G k i.toNatClampNeg (x_ety t))) := arrV_read _ _ hlt
  have hu : (arrV (E.2.1 t) n (fun j => x_cv E.2.2.1 E.2.2.2 (x_fv G k j (x_ety t)))).vm ≠ .unknown := fun q => by cases q
  obtain rfl | rfl | rfl | rfl | rfl | rfl | rfl : t = 0 ∨ t = 1 ∨ t = 2 ∨ t = 3 ∨ t = 4 ∨ t = 5 ∨ t = 6 := by omega
  · exact W.iald hx hb hc ha hu hsz hv rfl rfl hdg kk
  · exact W.lald hx hb hc ha hu hsz hv rfl rfl hdg kk
  · exact W.bald hx hb hc ha hu hsz hv rfl rfl hdg kk
  · exact W.zald hx hb hc ha hu hsz hv rfl rfl hdg kk
  · exact W.aald hx hb hc ha rfl hu hsz hv rfl rfl hdg kk
  · exact W.aald hx hb hc ha rfl hu hsz hv rfl rfl hdg kk
  · exact W.aald hx hb hc ha rfl hu hsz hv rfl rfl hdg kk
theorem x_low {b k : Nat} {H H1 : Heap} (h : ∀ q : Nat, q ≠ b + k → H1[q]? = H[q]?) : ∀ q : Nat, q < b → H1[q]? = H[q]? := fun q hq => h q (by omega)
/-- an array's cell behind a store -/
theorem x_stored {k t n j : Nat} {v : Value} {H1 : Heap} (hH : x_HR E G H) (hk : G.1[k]? = some (.inr (t, n))) (hfit : x_fit (x_ety t) v = true) (e1 : H1[E.2.2.1 + k]? = some ((arrV (E.2.1 t) n (fun j => x_cv E.2.2.1 E.2.2.2 (x_fv G k j (x_ety t)))).setSlot j (x_cv E.2.2.1 E.2.2.2 v))) (e2 : H1.size = H.size) (e3 : ∀ q, q ≠ E.2.2.1 + k → H1[q]? = H[q]?) : x_HR E (x_put G k j (x_ety t) v) H1 := by
  refine x_HR_put hH hk e2 e3 ?_
  show H1[_]? = _
  rw [e1, arrV_store]
  congr 2
  funext q
  unfold updV
  by_cases hq : q = j
  · subst hq; rw [if_pos rfl, x_fv_put hfit]
  · rw [if_neg hq]; dsimp only; rw [x_fv_off (Or.inr hq)]
theorem x_iast_ok (hx : p.tables.exec = Jvm.exec) (hb : c.code = cc) (hK : x_KA E s) (hH : x_HR E G H) {k n : Nat} (hk : G.1[k]? = some (.inr (0, n))) {i x : Int32} (hi : vp_in i n) (hdg : decode cc pc = .ok (.iastore, 1))
    (kk : ∀ (H1 : Heap) (z : Loc), z.base = E.2.2.1 + k → x_HR E (x_put G k i.toNatClampNeg .int (.int x)) H1 → (∀ q, q < E.2.2.1 → H1[q]? = H[q]?) → W p l e R s m args below meth c H1 (locs ++ [z]) cells slots Q (F0 m (pc + 1) ls rest)) : W p l e R s m args below meth c H locs cells slots Q (F0 m pc ls (.int x :: .int i :: .ref (E.2.2.1 + k) :: rest)) :=
  W.iast hx hb (hH.2 k _ hk) ((hK.2 0 (by omega)).1 n _) (fun q => by cases q) (by rw [arrV_size]; exact hi) rfl rfl hdg fun H1 e1 e2 e3 => kk H1 _ rfl (x_stored (t := 0) hH hk rfl e1 e2 e3) (x_low e3)
theorem x_last_ok (hx : p.tables.exec = Jvm.exec) (hb : c.code = cc) (hK : x_KA E s) (hH : x_HR E G H) {k n : Nat} (hk : G.1[k]? = some (.inr (1, n))) {i : Int32} {x : Int64} (hi : vp_in i n) (hdg : decode cc pc = .ok (.lastore, 1))
    (kk : ∀ (H1 : Heap) (z : Loc), z.base = E.2.2.1 + k → x_HR E (x_put G k i.toNatClampNeg .long (.long x)) H1 → (∀ q, q < E.2.2.1 → H1[q]? = H[q]?) → W p l e R s m args below meth c H1 (locs ++ [z]) cells slots Q (F0 m (pc + 1) ls rest)) : W p l e R s m args below meth c H locs cells slots Q (F0 m pc ls (.long x :: .int i :: .ref (E.2.2.1 + k) :: rest)) :=
  W.last hx hb (hH.2 k _ hk) ((hK.2 1 (by omega)).1 n _) (fun q => by cases q) (by rw [arrV_size]; exact hi) rfl rfl hdg fun H1 e1 e2 e3 => kk H1 _ rfl (x_stored (t := 1) hH hk rfl e1 e2 e3) (x_low e3)
theorem x_nb_fit (x : Int32) : x_fit .byte (narrow .byte (.int x)) = true := by
  show (decide (narrow .byte (.int x.toInt8.toInt32) = .int x.toInt8.toInt32) && fits .byte (.int x.toInt8.toInt32)) = true
  rw [pk_nb, pk_fb]; simp
theorem x_nz_fit (x : Int32) : x_fit .boolean (narrow .boolean (.int x)) = true := by
  show (decide (narrow .boolean (.int (x &&& 1)) = .int (x &&& 1)) && fits .boolean (.int (x &&& 1))) = true
  have h : x &&& 1 = 0 ∨ x &&& 1 = 1 := by
    have h1 : (x &&& 1).toBitVec = x.toBitVec &&& 1#32 := rfl
    rcases Nat.mod_two_eq_zero_or_one x.toBitVec.toNat with q | q
    · left
      apply Int32.toBitVec_inj.mp
      apply BitVec.eq_of_toNat_eq
      rw [h1, BitVec.toNat_and]
      simpa using q
    · right
      apply Int32.toBitVec_inj.mp
      apply BitVec.eq_of_toNat_eq
      rw [h1, BitVec.toNat_and]
      simpa using q
  rcases h with h | h <;> rw [h] <;> decide
theorem x_bast_ok (hx : p.tables.exec = Jvm.exec) (hb : c.code = cc) (hK : x_KA E s) (hH : x_HR E G H) {k n : Nat} (hk : G.1[k]? = some (.inr (2, n))) {i x : Int32} (hi : vp_in i n) (hdg : decode cc pc = .ok (.bastore, 1))
    (kk : ∀ (H1 : Heap) (z : Loc), z.base = E.2.2.1 + k → x_HR E (x_put G k i.toNatClampNeg .byte (narrow .byte (.int x))) H1 → (∀ q, q < E.2.2.1 → H1[q]? = H[q]?) → W p l e R s m args below meth c H1 (locs ++ [z]) cells slots Q (F0 m (pc + 1) ls rest)) : W p l e R s m args below meth c H locs cells slots Q (F0 m pc ls (.int x :: .int i :: .ref (E.2.2.1 + k) :: rest)) :=
  W.bast hx hb (hH.2 k _ hk) ((hK.2 2 (by omega)).1 n _) (fun q => by cases q) (by rw [arrV_size]; exact hi) rfl rfl hdg fun H1 e1 e2 e3 => kk H1 _ rfl (x_stored (t := 2) hH hk (x_nb_fit x) e1 e2 e3) (x_low e3)
theorem x_zast_ok (hx : p.tables.exec = Jvm.exec) (hb : c.code = cc) (hK : x_KA E s) (hH : x_HR E G H) {k n : Nat} (hk : G.1[k]? = some (.inr (3, n))) {i x : Int32} (hi : vp_in i n) (hdg : decode cc pc = .ok (.bastore, 1))
    (kk : ∀ (H1 : Heap) (z : Loc), z.base = E.2.2.1 + k → x_HR E (x_put G k i.toNatClampNeg .boolean (narrow .boolean (.int x))) H1 → (∀ q, q < E.2.2.1 → H1[q]? = H[q]?) → W p l e R s m args below meth c H1 (locs ++ [z]) cells slots Q (F0 m (pc + 1) ls rest)) : W p l e R s m args below meth c H locs cells slots Q (F0 m pc ls (.int x :: .int i :: .ref (E.2.2.1 + k) :: rest)) :=
  W.zast hx hb (hH.2 k _ hk) ((hK.2 3 (by omega)).1 n _) (fun q => by cases q) (by rw [arrV_size]; exact hi) rfl rfl hdg fun H1 e1 e2 e3 => kk H1 _ rfl (x_stored (t := 3) hH hk (x_nz_fit x) e1 e2 e3) (x_low e3)
/-- the class of the elements of an array of references -/
noncomputable def x_eci : Nat → Nat | 4 => 9 | 5 => 4 | _ => 6
theorem x_aast_ok (hx : p.tables.exec = Jvm.exec) (hb : c.code = cc) (hK : x_KA E s) (hH : x_HR E G H) {k t n k2 : Nat} (hk : G.1[k]? = some (.inr (t, n))) (ht4 : 4 ≤ t) (ht : t < 7) {i : Int32} (hi : vp_in i n) (hk2 : G.1[k2]? = some (.inl (x_eci t))) (hdg : decode cc pc = .ok (.aastore, 1))
    (kk : ∀ (H1 : Heap) (z : Loc), z.base = E.2.2.1 + k → x_HR E (x_put G k i.toNatClampNeg (x_ety t) (.ref k2)) H1 → (∀ q, q < E.2.2.1 → H1[q]? = H[q]?) → W p l e R s m args below meth c H1 (locs ++ [z]) cells slots Q (F0 m (pc + 1) ls rest)) : W p l e R s m args below meth c H locs cells slots Q (F0 m pc ls (.ref (E.2.2.1 + k2) :: .int i :: .ref (E.2.2.1 + k) :: rest)) := by
  have hlt : i.toNatClampNeg < n := Nat.not_le.mp fun q => hi (Or.inr q)
  have h0 : ¬ i < 0 := fun q => hi (Or.inl q)
  have hcl : ∃ C T N, vwCl[x_eci t]? = some (C, T, N) ∧ x_ety t = .object C := by
    match t, ht4, ht with
    | 4, _, _ => exact ⟨_, _, _, rfl, rfl⟩
    | 5, _, _ => exact ⟨_, _, _, rfl, rfl⟩
    | 6, _, _ => exact ⟨_, _, _, rfl, rfl⟩
  obtain ⟨C, T, N, hvw, hty⟩ := hcl
  have hcls := (hK.1 (x_eci t) _ hvw).2
  have hra := (hK.2 t ht).2
  rw [hty] at hra
  obtain ⟨kA, comp, k1, k2', k3, -⟩ := hra
  have hcomp : comp = E.1.1 (x_eci t) := Option.some.inj (k3.symm.trans hcls.1)
  subst hcomp
  obtain ⟨cellV, g1, g2, g3, -⟩ := hH.2 k2 _ hk2
  obtain ⟨kC, hkC, -⟩ := hcls.2
  refine W.aast hx hb (hH.2 k _ hk) (fun q h => by cases h) (fun h => by cases h) k1 k2' rfl hkC ⟨h0, by rw [arrV_size]; exact hlt⟩ g1 (fun q h => by rw [g3] at h; cases h) (by rw [g2]; exact hkC) (by rw [g2]; exact va_assign hcls) rfl rfl hdg fun H1 e1 e2 e3 => ?_
  exact kk H1 _ rfl (x_stored hH hk (by rw [hty]; rfl) e1 e2 e3) (x_low e3)
theorem x_aastN_ok (hx : p.tables.exec = Jvm.exec) (hb : c.code = cc) (hK : x_KA E s) (hH : x_HR E G H) {k t n : Nat} (hk : G.1[k]? = some (.inr (t, n))) (ht4 : 4 ≤ t) (ht : t < 7) {i : Int32} (hi : vp_in i n) (hdg : decode cc pc = .ok (.aastore, 1))
    (kk : ∀ (H1 : Heap) (z : Loc), z.base = E.2.2.1 + k → x_HR E (x_put G k i.toNatClampNeg (x_ety t) .null) H1 → (∀ q, q < E.2.2.1 → H1[q]? = H[q]?) → W p l e R s m args below meth c H1 (locs ++ [z]) cells slots Q (F0 m (pc + 1) ls rest)) : W p l e R s m args below meth c H locs cells slots Q (F0 m pc ls (.null :: .int i :: .ref (E.2.2.1 + k) :: rest)) := by
  have hcl : ∃ C, x_ety t = .object C := by
    match t, ht4, ht with
    | 4, _, _ => exact ⟨_, rfl⟩
    | 5, _, _ => exact ⟨_, rfl⟩
    | 6, _, _ => exact ⟨_, rfl⟩
  obtain ⟨C, hty⟩ := hcl
  have ha := (hK.2 t ht).1
  rw [hty] at ha
  refine va_WaastN (C := C) hx hb (hH.2 k _ hk) (ha n _) (fun h => by cases h) (by rw [arrV_size]; exact hi) rfl rfl hdg fun H1 e1 e2 e3 => ?_
  exact kk H1 _ rfl (x_stored hH hk (by rw [hty]; rfl) e1 e2 e3) (x_low e3)
theorem x_new_ok (hx : p.tables.exec = Jvm.exec) (hb : c.code = cc) (hts : ∀ w ∈ x_gw, w.before args s = true) {own C : String} {T : u_T} {N ci index : Nat} (hC : x_CI ci C T N) (hnf : ∀ j, (x_fty ci).getD j .int ≠ .float ∧ (x_fty ci).getD j .int ≠ .double) (hown : s.vm.findClass own = some m.cls) (hK : x_KA E s) (hH : x_HR E G H)
    (hcl : (Cond.classLink own index C).before args s = true) (hinst : (Cond.instantiable C N).before args s = true) (hini : (Cond.initialized C).before args s = true) (hcells : cells + 1 ≤ R.cells) (hslots : slots + N ≤ R.slots) (hdg : decode cc pc = .ok (.new index, 3))
    (kk : ∀ H1 : Heap, x_HR E (x_new G (.inl ci)) H1 → (∀ q, q < E.2.2.1 → H1[q]? = H[q]?) → W p l e R s m args below meth c H1 locs (cells + 1) (slots + N) Q (F0 m (pc + 3) ls (.ref (E.2.2.1 + G.1.length) :: rest))) : W p l e R s m args below meth c H locs cells slots Q (F0 m pc ls rest) := by
  obtain ⟨hc, hN, hty, -, hin⟩ := hC
  have hKn := hK.1 ci _ hc
  refine W.newcK hx hb hown hcl hinst hini rfl hdg hcells hslots hKn.2.1 hH.1 fun H1 kC hkC e1 z1 o1 => ?_
  refine kk H1 (x_HR_new hH (by rw [z1, hH.1]) (fun q hq => o1 q (by rw [← hH.1]; exact hq)) ?_) (fun q hq => o1 q (by omega))
  have hb := u_born (fun k => (x_fty ci).getD k .int) hts hin hKn hkC e1 hty
  show t_OB _ _ (x_fty ci).length _ _ _
  rw [hN]
  refine hb.to fun j hj => ?_
  rw [x_fv_new0 (hnf j).1 (hnf j).2]
  cases (x_fty ci).getD j .int <;> rfl
noncomputable def x_atn : ArrayType → Option Nat | .int => some 0 | .long => some 1 | .byte => some 2 | .boolean => some 3 | _ => none
theorem x_newa_ok (hx : p.tables.exec = Jvm.exec) (hb : c.code = cc) (hK : x_KA E s) (hH : x_HR E G H) {at_ : ArrayType} {t : Nat} (hat : x_atn at_ = some t) {n : Int32} (harr : (Cond.arrayClass (newarray.typeOf at_)).before args s = true) (hn : ¬ n < 0) (hN : n.toNatClampNeg ≤ 100000)
    (hcells : cells + 1 ≤ R.cells) (hslots : slots + n.toNatClampNeg ≤ R.slots) (hdg : decode cc pc = .ok (.newarray at_, 2))
    (kk : ∀ H1 : Heap, x_HR E (x_new G (.inr (t, n.toNatClampNeg))) H1 → (∀ q, q < E.2.2.1 → H1[q]? = H[q]?) → W p l e R s m args below meth c H1 locs (cells + 1) (slots + n.toNatClampNeg) Q (F0 m (pc + 2) ls (.ref (E.2.2.1 + G.1.length) :: rest))) : W p l e R s m args below meth c H locs cells slots Q (F0 m pc ls (.int n :: rest)) := by
  have h4 : t < 4 ∧ newarray.typeOf at_ = x_ety t := by cases at_ <;> cases hat <;> exact ⟨by omega, rfl⟩
  refine va_newaK hx hb harr rfl hdg rfl hn rfl (by
    have : componentBytes (newarray.typeOf at_) ≤ 8 := by cases at_ <;> decide
    calc n.toNatClampNeg * componentBytes (newarray.typeOf at_) ≤ 100000 * 8 := Nat.mul_le_mul hN this
      _ ≤ 536870912 := by decide) hcells hslots hH.1 fun H1 cA e1 z1 o1 hAr hNm => ?_
  have hcA : cA = E.2.1 t := by
    have h5 := (hK.2 t (by omega)).2
    rw [← h4.2] at h5
    have h6 : s.vm.findClass ("[" ++ (newarray.typeOf at_).toString) = some (E.2.1 t) := by cases at_ <;> cases hat <;> exact h5
    exact Option.some.inj (hNm.symm.trans h6)
  subst hcA
  refine kk H1 (x_HR_new hH (by rw [z1, hH.1]) (fun q hq => o1 q (by rw [← hH.1]; exact hq)) ?_) (fun q hq => o1 q (by omega))
  show H1[_]? = _
  rw [e1, h4.2]
  congr 2
  funext j
  rw [x_fv_new0]
  · cases at_ <;> cases hat <;> rfl
  · cases at_ <;> cases hat <;> decide
  · cases at_ <;> cases hat <;> decide
theorem x_newq_ok (hx : p.tables.exec = Jvm.exec) (hb : c.code = cc) (hK : x_KA E s) (hH : x_HR E G H) {own C : String} {index t : Nat} (ht4 : 4 ≤ t) (ht : t < 7) (hty : x_ety t = .object C) (hown : s.vm.findClass own = some m.cls) (hclink : (Cond.classLink own index C).before args s = true) (hover : (Cond.arrayOver (.object C)).before args s = true) {n : Int32} (hn : ¬ n < 0) (hN : n.toNatClampNeg ≤ 100000)
    (hcells : cells + 1 ≤ R.cells) (hslots : slots + n.toNatClampNeg ≤ R.slots) (hdg : decode cc pc = .ok (.anewarray index, 3))
    (kk : ∀ H1 : Heap, x_HR E (x_new G (.inr (t, n.toNatClampNeg))) H1 → (∀ q, q < E.2.2.1 → H1[q]? = H[q]?) → W p l e R s m args below meth c H1 locs (cells + 1) (slots + n.toNatClampNeg) Q (F0 m (pc + 3) ls (.ref (E.2.2.1 + G.1.length) :: rest))) : W p l e R s m args below meth c H locs cells slots Q (F0 m pc ls (.int n :: rest)) := by
  refine W.anew hx hb hown hclink hover rfl hdg rfl hn (by omega) hcells hslots fun cA kA comp f1 f2 f3 f4 => ?_
  have hra := (hK.2 t ht).2
  rw [hty] at hra
  obtain ⟨kA', comp', -, -, -, k4⟩ := hra
  have hcA : cA = E.2.1 t := Option.some.inj (f1.symm.trans k4)
  subst hcA
  rw [show F0 m pc ls (.int n :: rest) = F0 m pc ls (.int n :: rest) from rfl, hH.1]
  refine kk _ (x_HR_new hH (by rw [Array.size_push]) (fun q hq => by rw [Array.getElem?_push, if_neg (Nat.ne_of_lt hq)]) ?_) (fun q hq => by rw [Array.getElem?_push, if_neg (by have := hH.1; omega)])
  show (H.push _)[_]? = _
  rw [← hH.1, Array.getElem?_push_size, arrV_new]
  congr 2
  funext j
  rw [hty, x_fv_new0 (by intro h; cases h) (by intro h; cases h)]
  rfl
/-- System.arraycopy of ints or longs -/
noncomputable def x_cpy (G : x_G) (k0 k1 t sp dp n : Nat) : x_G := if t = 1 then (G.1, G.2.1, (fun a => if a = k1 then va_cpy (G.2.2.1 k0) (G.2.2.1 k1) sp dp n else G.2.2.1 a), G.2.2.2) else (G.1, (fun a => if a = k1 then va_cpy (G.2.1 k0) (G.2.1 k1) sp dp n else G.2.1 a), G.2.2.1, G.2.2.2)
theorem x_cpy_ok (hx : p.tables.exec = Jvm.exec) (hb : c.code = cc) (hml : c.maxLocals = ls.size) (hK : x_KA E s) (hH : x_HR E G H) {own : String} {index k0 k1 t n0 n1 : Nat} (hown : s.vm.findClass own = some m.cls) (hlink : (Cond.methodLink own index arraycopyName).before args s = true) (hnat : (Cond.native arraycopyName).before args s = true) (hstat : (Cond.static arraycopyName).before args s = true) (hini : (Cond.initialized "java/lang/System").before args s = true)
    (ht : t < 2) (hk0 : G.1[k0]? = some (.inr (t, n0))) (hk1 : G.1[k1]? = some (.inr (t, n1))) {sp dp n : Int32} (h1 : ¬ sp < 0) (h2 : ¬ dp < 0) (h3 : ¬ n < 0) (h4 : sp.toNatClampNeg + n.toNatClampNeg ≤ n0) (h5 : dp.toNatClampNeg + n.toNatClampNeg ≤ n1)
    (hframes : 1 ≤ R.frames) (hlocals : 64 ≤ R.locals) (hdg : decode cc pc = .ok (.invokestatic index, 3))
    (kk : ∀ (H1 : Heap) (L : List Loc), (∀ z ∈ L, z.base = E.2.2.1 + k1) → x_HR E (x_cpy G k0 k1 t sp.toNatClampNeg dp.toNatClampNeg n.toNatClampNeg) H1 → (∀ q, q < E.2.2.1 → H1[q]? = H[q]?) → W p l e R s m args below meth c H1 (locs ++ L) cells slots Q (F0 m (pc + 3) ls [])) : W p l e R s m args below meth c H locs cells slots Q (F0 m pc ls [.int n, .int dp, .ref (E.2.2.1 + k1), .int sp, .ref (E.2.2.1 + k0)]) := by
  have nn : ∀ z : Int32, ¬ z < 0 → z.toInt = (z.toNatClampNeg : Int) := by
    intro z hz
    have hz0 : (0 : Int) ≤ z.toInt := by
      have := Int32.not_lt.mp hz
      simpa using Int32.le_iff_toInt_le.mp this
    show z.toInt = ((z.toInt.toNat : Nat) : Int)
    omega
  intro T hT X
  generalize hF0 : (fun j => x_cv E.2.2.1 E.2.2.2 (x_fv G k0 j (x_ety t))) = f0
  generalize hF1 : (fun j => x_cv E.2.2.1 E.2.2.2 (x_fv G k1 j (x_ety t))) = f1
  have hc0 : H[E.2.2.1 + k0]? = some (arrV (E.2.1 t) n0 f0) := by rw [← hF0]; exact hH.2 k0 _ hk0
  have hc1 : H[E.2.2.1 + k1]? = some (arrV (E.2.1 t) n1 f1) := by rw [← hF1]; exact hH.2 k1 _ hk1
  obtain ⟨-, q0, hq0, cm0, hkk0⟩ := (hK.2 t (by omega)).1 n0 f0
  obtain ⟨-, q1, hq1, cm1, hkk1⟩ := (hK.2 t (by omega)).1 n1 f1
  have hprim : refKind (x_ety t) = false := by
    match t, ht with
    | 0, _ => rfl
    | 1, _ => rfl
  obtain ⟨vm', X', step⟩ := X.arraycopy hx hown hlink hnat hstat hini (src := E.2.2.1 + k0) (dst := E.2.2.1 + k1) (cs := arrV (E.2.1 t) n0 f0) (cd := arrV (E.2.1 t) n1 f1) (srcPos := sp) (destPos := dp) (n := n) (by rw [hT]; exact hc0) (by rw [hT]; exact hc1)
    (fun _ h => by cases h) (fun _ h => by cases h) (fun h => by cases h) (fun h => by cases h) hq0 hq1 hkk0 hkk1 (by simp [hprim]) h1 h2 h3
    (by rw [nn sp h1, nn n h3, arrV_size]; omega)
    (by rw [nn dp h2, nn n h3, arrV_size]; omega)
    (fun vm₁ _ i hi => by
      have e : (arrV (E.2.1 t) n0 f0).slots.getD (sp.toNatClampNeg + i) .null = f0 (sp.toNatClampNeg + i) := by
        rw [Array.getD_eq_getD_getElem?, arrV_read _ _ (by omega)]
        rfl
      rw [e, ← hF0]
      match t, ht with
      | 0, _ => exact ⟨rfl, trivial⟩
      | 1, _ => exact ⟨rfl, trivial⟩)
    (g := F0 m pc ls [.int n, .int dp, .ref (E.2.2.1 + k1), .int sp, .ref (E.2.2.1 + k0)]) rfl (by rw [hml]) (rest := []) rfl (by rw [hb]; exact hdg) hframes (by
      have : nativeFrameWords "java/lang/System" "arraycopy" 5 + 11 ≤ 64 := by decide
      show 2 * 0 + _ + _ ≤ _
      simp only [List.map_nil, List.sum_nil]
      omega)
  have e1 : copied (arrV (E.2.1 t) n0 f0) (arrV (E.2.1 t) n1 f1) sp dp n = arrV (E.2.1 t) n1 (va_cpy f0 f1 sp.toNatClampNeg dp.toNatClampNeg n.toNatClampNeg) := va_copied (fun z => z) (E.2.1 t) (E.2.1 t) f0 f1 h4
  rw [e1] at X' step
  have hl : E.2.2.1 + k1 < H.size := (Array.getElem?_eq_some_iff.mp hc1).1
  generalize hcell : arrV (E.2.1 t) n1 (va_cpy f0 f1 sp.toNatClampNeg dp.toNatClampNeg n.toNatClampNeg) = cell at X' step
  have hheap : ((T.setVm vm').setCell (E.2.2.1 + k1) cell).heap = H.setIfInBounds (E.2.2.1 + k1) cell := by rw [← hT]; rfl
  have oq : ∀ q : Nat, q ≠ E.2.2.1 + k1 → (H.setIfInBounds (E.2.2.1 + k1) cell)[q]? = H[q]? := fun q hq => by simp [Array.getElem?_setIfInBounds, Ne.symm hq]
  have hHR : x_HR E (x_cpy G k0 k1 t sp.toNatClampNeg dp.toNatClampNeg n.toNatClampNeg) (H.setIfInBounds (E.2.2.1 + k1) cell) := by
    have hG1 : (x_cpy G k0 k1 t sp.toNatClampNeg dp.toNatClampNeg n.toNatClampNeg).1 = G.1 := by unfold x_cpy; split <;> rfl
    refine ⟨by rw [hG1]; simpa using hH.1, fun a sh hs => ?_⟩
    rw [hG1] at hs
    by_cases hak : a = k1
    · subst hak
      rw [hk1] at hs
      cases hs
      show (H.setIfInBounds (E.2.2.1 + a) cell)[E.2.2.1 + a]? = _
      rw [Array.getElem?_setIfInBounds, if_pos rfl, if_pos hl, ← hcell]
      congr 2
      funext j
      rw [← hF0, ← hF1]
      obtain rfl | rfl : t = 0 ∨ t = 1 := by omega
      · have h9 : (x_cpy G k0 a 0 sp.toNatClampNeg dp.toNatClampNeg n.toNatClampNeg).2.1 a = va_cpy (G.2.1 k0) (G.2.1 a) sp.toNatClampNeg dp.toNatClampNeg n.toNatClampNeg := by simp [x_cpy]
        refine Eq.symm ?_
        show x_cv _ _ (.int ((x_cpy G k0 a 0 sp.toNatClampNeg dp.toNatClampNeg n.toNatClampNeg).2.1 a j)) = _
        rw [h9]
        unfold va_cpy
        split <;> rfl
      · have h9 : (x_cpy G k0 a 1 sp.toNatClampNeg dp.toNatClampNeg n.toNatClampNeg).2.2.1 a = va_cpy (G.2.2.1 k0) (G.2.2.1 a) sp.toNatClampNeg dp.toNatClampNeg n.toNatClampNeg := by simp [x_cpy]
        refine Eq.symm ?_
        show x_cv _ _ (.long ((x_cpy G k0 a 1 sp.toNatClampNeg dp.toNatClampNeg n.toNatClampNeg).2.2.1 a j)) = _
        rw [h9]
        unfold va_cpy
        split <;> rfl
    · refine x_at_kept (hH.2 a sh hs) (oq _ (by omega)) (fun j' ty' => ?_)
      unfold x_cpy
      split <;> cases ty' <;> simp [x_fv, hak]
  obtain ⟨t', a1, b1⟩ := kk _ _ (fun z hz => by
    obtain ⟨w, -, hw⟩ := List.mem_map.mp hz
    rw [← hw]) hHR (fun q hq => oq q (by omega)) _ hheap X'
  exact ⟨t', step t' a1, b1⟩
end XARR
