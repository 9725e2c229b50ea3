/-! Shutter -/
set_option maxRecDepth 100000 in
set_option maxHeartbeats 1000000 in
theorem s_6has {m : zMe} {e g : Int32} {x i : Nat} (e1 : e = zI (x : Int)) (e2 : g = zI (i : Int)) (r1 : x < 512) (r2 : i < 9) : f_X6_has e g (zM m) = some (zI (zB (x.testBit i = true)), zM (m)) := by
  subst e1; subst e2
  refine zOk.eq ?_
  unfold f_X6_has
  rw [zbit_at r2 r1]
  by_cases h : x.testBit i = true
  · rw [zB_p h, if_pos (by decide)]
    exact ⟨_, _, rfl, rfl, rfl⟩
  · rw [zB_n h, if_neg (by decide)]
    exact ⟨_, _, rfl, rfl, rfl⟩
theorem z_6has {m : zMe} {e g : Int32} {x i : Nat} (e1 : e = zI (x : Int)) (e2 : g = zI (i : Int)) (r1 : x < 512) (r2 : i < 9) {α : Type} {kf : Int32 × Hp → Option (α × Hp)} {Q : α → zMe → Prop} (K : zOk (kf (zI (zB (x.testBit i = true)), zM (m))) Q) : zOk ((f_X6_has e g (zM m)).bind kf) Q := z_b (s_6has e1 e2 r1 r2) K
set_option maxRecDepth 100000 in
set_option maxHeartbeats 1000000 in
theorem s_6bitCount {m : zMe} {e : Int32} {x : Nat} (e1 : e = zI (x : Int)) (r1 : x < 512) : f_J6_bitCount_0f7a4 e (zM m) = some (zI (zPop x : Nat), zM (m)) := by
  subst e1
  exact s_pop r1 _
theorem z_6bitCount {m : zMe} {e : Int32} {x : Nat} (e1 : e = zI (x : Int)) (r1 : x < 512) {α : Type} {kf : Int32 × Hp → Option (α × Hp)} {Q : α → zMe → Prop} (K : zOk (kf (zI (zPop x : Nat), zM (m))) Q) : zOk ((f_J6_bitCount_0f7a4 e (zM m)).bind kf) Q := z_b (s_6bitCount e1 r1) K
theorem zPop_le (x : Nat) : zPop x ≤ 9 := zPn_le 9 _
theorem zOwn_lt {m : zMe} {r : Nat} {t : Int} (h : 0 ≤ m r 1 ∧ m r 1 ≤ 9) : zOwn m r t < 512 := by
  have h1 := zBn_lt (m r 1).toNat (fun k => decide (m (r + 7) (k : Int) = -1 ∧ (m (r + 4) (k : Int) = t ∨ m (r + 5) (k : Int) = t)))
  have h2 : 2 ^ (m r 1).toNat ≤ 2 ^ 9 := Nat.pow_le_pow_right (by omega) (by omega)
  unfold zOwn
  omega
theorem zLeft_lt {m : zMe} {r : Nat} (h : 0 ≤ m r 1 ∧ m r 1 ≤ 9) : zLeft m r < 512 := by
  have h1 := zBn_lt (m r 1).toNat (fun k => decide (m (r + 7) (k : Int) = -1))
  have h2 : 2 ^ (m r 1).toNat ≤ 2 ^ 9 := Nat.pow_le_pow_right (by omega) (by omega)
  unfold zLeft
  omega
/-- what a team has, were all its games left won by it -/
def zRe (m : zMe) (r : Nat) (t : Int) : Int := zPt m r t + (m r 2 + 1) * (zPop (zOwn m r t) : Nat)
theorem zSm_range {n : Nat} {f : Nat → Int} {a b : Int} (ha : a ≤ 0) (hb : 0 ≤ b) (h : ∀ k, k < n → a ≤ f k ∧ f k ≤ b) : n * a ≤ zSm n f ∧ zSm n f ≤ n * b := by
  induction n with
  | zero => simp [zSm]
  | succ n ih =>
    have h1 := ih (fun k hk => h k (by omega))
    have h2 := h n (by omega)
    have e1 : ((n + 1 : Nat) : Int) * a = n * a + a := by rw [Int.natCast_add, Int.add_mul]; simp
    have e2 : ((n + 1 : Nat) : Int) * b = n * b + b := by rw [Int.natCast_add, Int.add_mul]; simp
    rw [e1, e2]
    unfold zSm
    omega
theorem zGm_range {m : zMe} {r : Nat} {k res t : Int} (hK : 0 ≤ m r 2 ∧ m r 2 ≤ 2) (hn : ¬ m (r + 4) k = m (r + 5) k) : 0 ≤ zGm m r k res t ∧ zGm m r k res t ≤ 3 := by
  unfold zGm zGn
  (repeat' split) <;> omega
theorem zPi_range {m : zMe} {r : Nat} (h0 : ∀ t, 0 ≤ t → t < m r 0 → 0 ≤ m (r + 1) t ∧ m (r + 1) t ≤ 9) (hK : 0 ≤ m r 2 ∧ m r 2 ≤ 2) (hn : ∀ k : Nat, (k : Int) < m r 1 → ¬ m (r + 4) (k : Int) = m (r + 5) (k : Int)) (n : Nat) (hN : (n : Int) ≤ m r 1) {t : Int} (ht : 0 ≤ t) : 0 ≤ zPi m r n t ∧ zPi m r n t ≤ 9 + n * 3 := by
  have h1 := zSm_range (n := n) (f := fun k => if m (r + 7) (k : Int) = -1 then 0 else zGm m r k (m (r + 7) (k : Int)) t) (a := 0) (b := 3) (by omega) (by omega) (fun k hk => by
    have := zGm_range (m := m) (r := r) (k := k) (res := m (r + 7) (k : Int)) (t := t) hK (hn k (by omega))
    split <;> omega)
  unfold zPi
  by_cases ht2 : t < m r 0
  · have := h0 t ht ht2
    rw [if_pos ht2]
    omega
  · rw [if_neg ht2]
    omega
theorem zPt_range {m : zMe} {r : Nat} (h : zWf m r) {t : Int} (ht : 0 ≤ t) : 0 ≤ zPt m r t ∧ zPt m r t ≤ 36 := by
  have := zPi_range (m := m) (r := r) (fun t a b => (h.2.1 t a b).1) h.1.2.2 (fun k hk => (h.2.2.1 k (by omega) hk).2.2.2.1) (m r 1).toNat (by have := h.1.2.1; omega) ht
  have := h.1.2.1
  unfold zPt
  omega
theorem zRe_range {m : zMe} {r : Nat} (h : zWf m r) {t : Int} (ht : 0 ≤ t) : 0 ≤ zRe m r t ∧ zRe m r t ≤ 63 := by
  have h1 := zPt_range h ht
  have h2 := zPop_le (zOwn m r t)
  have h3 := h.1.2.2
  unfold zRe
  have h4 : 0 ≤ (m r 2 + 1) * (zPop (zOwn m r t) : Nat) ∧ (m r 2 + 1) * (zPop (zOwn m r t) : Nat) ≤ 27 := by
    have : m r 2 = 0 ∨ m r 2 = 1 ∨ m r 2 = 2 := by omega
    rcases this with e | e | e <;> rw [e] <;> omega
  omega
/-- the two teams of a game, as bits -/
def zMk (o p : Int) : Int := zOr (zShl 1 o) (zShl 1 p)
set_option maxRecDepth 100000 in
theorem zMk_tab : ∀ o : Nat, o < 6 → ∀ p : Nat, p < 6 → (0 ≤ zMk o p ∧ zMk o p < 64) ∧ ∀ s : Nat, s < 64 → (zI (zAnd (s : Int) (zMk o p)) = zI (zMk o p) ↔ (s.testBit o = true ∧ s.testBit p = true)) := by decide +kernel
