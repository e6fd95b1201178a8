/-! ===== how many READINGS a PORT has a part in: counted in the list ===== -/
noncomputable def s_is1 (p : Int) (t : Int × Int × Int) : Int := if p = -1 ∨ p = t.1 ∨ p = t.2.1 then 1 else 0
noncomputable def s_cnp (p : Int) : s_RL → Int
  | [] => 0
  | t :: L => s_is1 p t + s_cnp p L
noncomputable def s_t1 (D : s_D) (x : Int64) (p : Int) : Nat → Int
  | 0 => 0
  | a + 1 => s_t1 D x p a + s_c1 D x p a
noncomputable def s_t2 (D : s_D) (x : Int64) (p : Int) (N : Nat) : Nat → Int
  | 0 => 0
  | a + 1 => s_t2 D x p N a + s_cc D x p a N
section CNL
variable {D : s_D} {x : Int64} {p : Int} {L L2 : s_RL} {t : Int × Int × Int} {g : Nat → Nat → Int32} {k : Nat}
theorem s_cn_app : ∀ (L L2 : s_RL), s_cnp p (L ++ L2) = s_cnp p L + s_cnp p L2
  | [], L2 => by show s_cnp p L2 = 0 + s_cnp p L2; omega
  | t :: L, L2 => by
    have ih := s_cn_app L L2
    show s_is1 p t + s_cnp p (L ++ L2) = s_is1 p t + s_cnp p L + s_cnp p L2
    omega
theorem s_is1_b (t : Int × Int × Int) : 0 ≤ s_is1 p t ∧ s_is1 p t ≤ 1 := by unfold s_is1; split <;> omega
theorem s_is1_all (t : Int × Int × Int) : s_is1 (-1) t = 1 := if_pos (Or.inl rfl)
theorem s_cn_all : ∀ L : s_RL, s_cnp (-1) L = (L.length : Int)
  | [] => rfl
  | t :: L => by
    have ih := s_cn_all L
    have h := s_is1_all t
    show s_is1 (-1) t + s_cnp (-1) L = ((L.length + 1 : Nat) : Int)
    omega
theorem s_cn_b : ∀ L : s_RL, 0 ≤ s_cnp p L ∧ s_cnp p L ≤ (L.length : Int)
  | [] => ⟨Int.le_refl 0, Int.le_refl 0⟩
  | t :: L => by
    have ih := s_cn_b L
    have h := s_is1_b (p := p) t
    show 0 ≤ s_is1 p t + s_cnp p L ∧ s_is1 p t + s_cnp p L ≤ ((L.length + 1 : Nat) : Int)
    omega
theorem s_cn_E {a b : Int} : ∀ (m : Nat) (e : Int), s_cnp p (s_rE D x a b m e) = s_if (p = -1 ∨ p = a ∨ p = b) (s_cb D x a b m e) 0
  | 0, e => by
    by_cases hp : p = -1 ∨ p = a ∨ p = b
    · rw [s_ifT hp]; rfl
    · rw [s_ifF hp]; rfl
  | m + 1, e => by
    have ih := s_cn_E (a := a) (b := b) m (e + 1)
    show s_cnp p (s_if (s_bw D a b e = x) ((a, b, e) :: s_rE D x a b m (e + 1)) (s_rE D x a b m (e + 1))) = s_if (p = -1 ∨ p = a ∨ p = b) (s_if (s_bw D a b e = x) 1 0 + s_cb D x a b m (e + 1)) 0
    by_cases hx : s_bw D a b e = x
    · rw [s_ifT hx, s_ifT (x := (1 : Int)) hx]
      show s_is1 p (a, b, e) + s_cnp p (s_rE D x a b m (e + 1)) = _
      rw [ih]
      by_cases hp : p = -1 ∨ p = a ∨ p = b
      · have h1 : s_is1 p (a, b, e) = 1 := if_pos hp
        rw [s_ifT hp, s_ifT hp]; omega
      · have h1 : s_is1 p (a, b, e) = 0 := if_neg hp
        rw [s_ifF hp, s_ifF hp]; omega
    · rw [s_ifF hx, s_ifF (x := (1 : Int)) hx, ih]
      by_cases hp : p = -1 ∨ p = a ∨ p = b
      · rw [s_ifT hp, s_ifT hp]; omega
      · rw [s_ifF hp, s_ifF hp]
theorem s_cn_B {a : Nat} : ∀ (m b : Nat), s_cc D x p a b + s_cnp p (s_rB D x (a : Int) m (b : Int)) = s_cc D x p a (b + m)
  | 0, b => by
    show s_cc D x p a b + 0 = s_cc D x p a b
    omega
  | m + 1, b => by
    have ih := s_cn_B (a := a) m (b + 1)
    have e : s_cnp p (s_rB D x (a : Int) (m + 1) (b : Int)) = s_cnp p (s_rE D x (a : Int) (b : Int) (13 - s_lb (a : Int) (b : Int)).toNat (s_lb (a : Int) (b : Int))) + s_cnp p (s_rB D x (a : Int) m ((b : Int) + 1)) := s_cn_app _ _
    have e2 : s_cc D x p a (b + 1) = s_cc D x p a b + s_if (p = -1 ∨ p = (a : Int) ∨ p = (b : Int)) (s_cB D x (a : Int) (b : Int)) 0 := rfl
    have e3 : s_cnp p (s_rE D x (a : Int) (b : Int) (13 - s_lb (a : Int) (b : Int)).toNat (s_lb (a : Int) (b : Int))) = s_if (p = -1 ∨ p = (a : Int) ∨ p = (b : Int)) (s_cB D x (a : Int) (b : Int)) 0 := s_cn_E _ _
    have e4 : ((b + 1 : Nat) : Int) = (b : Int) + 1 := rfl
    rw [e4] at ih
    rw [show b + (m + 1) = b + 1 + m by omega, ← ih, e, e2, e3]
    omega
theorem s_cn_A : ∀ (m a : Nat), s_t2 D x p (D 0).toNat a + s_cnp p (s_rA D x m (a : Int)) = s_t2 D x p (D 0).toNat (a + m)
  | 0, a => by
    show s_t2 D x p (D 0).toNat a + 0 = s_t2 D x p (D 0).toNat a
    omega
  | m + 1, a => by
    have ih := s_cn_A m (a + 1)
    have e : s_cnp p (s_rA D x (m + 1) (a : Int)) = s_cnp p (s_rB D x (a : Int) (D 0).toNat 0) + s_cnp p (s_rA D x m ((a : Int) + 1)) := s_cn_app _ _
    have e1 := s_cn_B (D := D) (x := x) (p := p) (a := a) (D 0).toNat 0
    have e2 : s_t2 D x p (D 0).toNat (a + 1) = s_t2 D x p (D 0).toNat a + s_cc D x p a (D 0).toNat := rfl
    have e3 : s_cc D x p a 0 = 0 := rfl
    have e4 : ((a + 1 : Nat) : Int) = (a : Int) + 1 := rfl
    have e5 : (((0 : Nat) : Int)) = 0 := rfl
    rw [e4] at ih
    rw [e3, e5, Nat.zero_add] at e1
    rw [show a + (m + 1) = a + 1 + m by omega, ← ih, e, e2, ← e1]
    omega
theorem s_cn_P (hp : p = -1 ∨ 0 ≤ p) : ∀ (m q : Nat), s_t1 D x p q + s_cnp p (s_rP D x m (q : Int)) = s_t1 D x p (q + m)
  | 0, q => by
    show s_t1 D x p q + 0 = s_t1 D x p q
    omega
  | m + 1, q => by
    have ih := s_cn_P hp m (q + 1)
    have e4 : ((q + 1 : Nat) : Int) = (q : Int) + 1 := rfl
    rw [e4] at ih
    have e2 : s_t1 D x p (q + 1) = s_t1 D x p q + s_c1 D x p q := rfl
    have e : s_cnp p (s_rP D x (m + 1) (q : Int)) = s_c1 D x p q + s_cnp p (s_rP D x m ((q : Int) + 1)) := by
      show s_cnp p (s_if (s_hd D (q : Int) = x) (((q : Int), -1, -1) :: s_rP D x m ((q : Int) + 1)) (s_rP D x m ((q : Int) + 1))) = _
      by_cases hx : s_hd D (q : Int) = x
      · rw [s_ifT hx]
        show s_is1 p ((q : Int), -1, -1) + s_cnp p (s_rP D x m ((q : Int) + 1)) = _
        have h1 : s_is1 p ((q : Int), -1, -1) = s_c1 D x p q := by
          unfold s_c1
          by_cases hq : p = -1 ∨ p = (q : Int)
          · rw [s_ifT ⟨hq, hx⟩]; exact if_pos (hq.elim Or.inl (fun h => Or.inr (Or.inl h)))
          · rw [s_ifF (fun hh => hq hh.1)]; exact if_neg (fun hh => hq (hh.elim Or.inl (fun h => h.elim Or.inr Or.inl)))
        rw [h1]
      · have h1 : s_c1 D x p q = 0 := s_ifF (fun hh => hx hh.2)
        rw [s_ifF hx, h1]; omega
    rw [show q + (m + 1) = q + 1 + m by omega, ← ih, e, e2]
    omega
theorem s_cr_t {N : Nat} : ∀ k : Nat, s_cr D x p N k = s_t1 D x p k + s_t2 D x p N k
  | 0 => rfl
  | k + 1 => by
    have ih := s_cr_t (N := N) k
    show s_cr D x p N k + s_c1 D x p k + s_cc D x p k N = s_t1 D x p k + s_c1 D x p k + (s_t2 D x p N k + s_cc D x p k N)
    omega
/-- counted in the list, or one after another: alike -/
theorem s_cn_ct (hp : p = -1 ∨ 0 ≤ p) : s_cnp p (s_rL D x) = s_ct D x p := by
  have e : s_cnp p (s_rL D x) = s_cnp p (s_rP D x (D 0).toNat 0) + s_cnp p (s_rA D x (D 0).toNat 0) := s_cn_app _ _
  have e1 := s_cn_P (D := D) (x := x) hp (D 0).toNat 0
  have e2 := s_cn_A (D := D) (x := x) (p := p) (D 0).toNat 0
  have e3 : s_t1 D x p 0 = 0 := rfl
  have e4 : s_t2 D x p (D 0).toNat 0 = 0 := rfl
  have e5 : (((0 : Nat) : Int)) = 0 := rfl
  rw [e3, e5, Nat.zero_add] at e1
  rw [e4, e5, Nat.zero_add] at e2
  have e6 : s_ct D x p = s_t1 D x p (D 0).toNat + s_t2 D x p (D 0).toNat (D 0).toNat := s_cr_t _
  omega
theorem s_ct_L : s_ct D x (-1) = ((s_rL D x).length : Int) := by rw [← s_cn_ct (Or.inl rfl), s_cn_all]
theorem s_ct_le (hp : 0 ≤ p) : 0 ≤ s_ct D x p ∧ s_ct D x p ≤ s_ct D x (-1) := by
  rw [s_ct_L, ← s_cn_ct (Or.inr hp)]
  exact s_cn_b _
/-- one further in the list -/
theorem s_cn_tk (h : L[k]? = some t) : s_cnp p (L.take (k + 1)) = s_cnp p (L.take k) + s_is1 p t := by
  rw [List.take_succ, h, s_cn_app]
  show _ + (s_is1 p t + 0) = _
  omega
theorem s_S2_at (h : s_S2 g L) (hk : k < L.length) : ∃ t, L[k]? = some t ∧ (g 78 k).toInt = t.1 ∧ (g 79 k).toInt = t.2.1 := by
  have e : L[k]? = some L[k] := List.getElem?_eq_getElem hk
  have h2 := h.2 k _ e
  exact ⟨_, e, h2.1, h2.2.1⟩
end CNL
