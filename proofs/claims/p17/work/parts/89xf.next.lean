/-! the bits within others, in rising order; the fewest -/
theorem zAnd2 (a b : Nat) : a &&& b = 2 * (a / 2 &&& b / 2) + (if a % 2 = 1 ∧ b % 2 = 1 then 1 else 0) := by
  have h1 : (a &&& b) / 2 = a / 2 &&& b / 2 := Nat.and_div_two
  have h2 : (a &&& b) % 2 = if a % 2 = 1 ∧ b % 2 = 1 then 1 else 0 := by
    have h3 : ((a &&& b) % 2 = 1) ↔ (a % 2 = 1 ∧ b % 2 = 1) := by
      have := Nat.testBit_and a b 0
      rw [Nat.testBit_zero, Nat.testBit_zero, Nat.testBit_zero, ← Bool.decide_and, decide_eq_decide] at this
      exact this
    split
    · rename_i h
      exact h3.mpr h
    · rename_i h
      have : ¬ (a &&& b) % 2 = 1 := fun q => h (h3.mp q)
      omega
  omega
theorem zSbh {b w : Nat} (h : b &&& w = b) : b / 2 &&& w / 2 = b / 2 ∧ (b % 2 = 1 → w % 2 = 1) := by
  have := zAnd2 b w
  rw [h] at this
  split at this
  · rename_i q
    exact ⟨by omega, fun _ => q.2⟩
  · rename_i q
    exact ⟨by omega, fun p => by omega⟩
theorem zNxA (n : Nat) : ∀ b w : Nat, w < 2 ^ n → b &&& w = b → (b + (2 ^ n - 1 - w)) &&& w = b := by
  induction n with
  | zero =>
    intro b w hw hb
    have : w = 0 := by omega
    subst this
    rw [Nat.and_zero] at hb
    rw [Nat.and_zero]
    exact hb
  | succ n ih =>
    intro b w hw hb
    have e2 : 2 ^ (n + 1) = 2 * 2 ^ n := by rw [Nat.pow_succ]; omega
    obtain ⟨h1, h2⟩ := zSbh hb
    have hi := ih (b / 2) (w / 2) (by omega) h1
    rw [e2] at hw ⊢
    rw [zAnd2]
    have e3 : (b + (2 * 2 ^ n - 1 - w)) / 2 = b / 2 + (2 ^ n - 1 - w / 2) := by omega
    rw [e3, hi]
    split
    · omega
    · omega
theorem zNxB (n : Nat) : ∀ b w c : Nat, w < 2 ^ n → b &&& w = b → c &&& w = c → b < c → b < (b + 2 ^ n - w) &&& w ∧ (b + 2 ^ n - w) &&& w ≤ c := by
  induction n with
  | zero =>
    intro b w c hw hb hc hl
    have : w = 0 := by omega
    subst this
    rw [Nat.and_zero] at hb hc
    omega
  | succ n ih =>
    intro b w c hw hb hc hl
    have e2 : 2 ^ (n + 1) = 2 * 2 ^ n := by rw [Nat.pow_succ]; omega
    obtain ⟨h1, h2⟩ := zSbh hb
    obtain ⟨h3, h4⟩ := zSbh hc
    rw [e2] at hw ⊢
    by_cases hq : b % 2 = w % 2
    · have hi := ih (b / 2) (w / 2) (c / 2) (by omega) h1 h3 (by omega)
      have ez := zAnd2 (b + 2 * 2 ^ n - w) w
      rw [show (b + 2 * 2 ^ n - w) / 2 = b / 2 + 2 ^ n - w / 2 by omega, if_neg (by omega)] at ez
      rw [ez]
      omega
    · have ha := zNxA n (b / 2) (w / 2) (by omega) h1
      have ez := zAnd2 (b + 2 * 2 ^ n - w) w
      rw [show (b + 2 * 2 ^ n - w) / 2 = b / 2 + (2 ^ n - 1 - w / 2) by omega, ha, if_pos (by omega)] at ez
      rw [ez]
      omega
theorem zBv_ofInt (x : Int) : (zI x).toBitVec.toNat = (x % 4294967296).toNat := by
  show (BitVec.ofInt 32 x).toNat = _
  rw [BitVec.toNat_ofInt]
  rfl
theorem zAnd_next {b w : Nat} (hb : b < 512) (hw : w < 512) : zAnd ((b : Int) - (w : Int)) (w : Int) = (((b + 512 - w) &&& w : Nat) : Int) := by
  have e1 : (zI ((b : Int) - (w : Int)) &&& zI (w : Int)).toBitVec.toNat = (b + 512 - w) &&& w := by
    have e : (zI ((b : Int) - (w : Int)) &&& zI (w : Int)).toBitVec = (zI ((b : Int) - (w : Int))).toBitVec &&& (zI (w : Int)).toBitVec := rfl
    rw [e, BitVec.toNat_and, zBv_ofInt, zBv_ofInt, show ((w : Int) % 4294967296).toNat = w by omega]
    generalize hX : (((b : Int) - (w : Int)) % 4294967296).toNat = X
    have hX2 : X % 512 = (b + 512 - w) % 512 := by omega
    have l1 : X &&& w < 512 := Nat.lt_of_le_of_lt Nat.and_le_right hw
    have l2 : (b + 512 - w) &&& w < 512 := Nat.lt_of_le_of_lt Nat.and_le_right hw
    have m1 : (X &&& w) % 2 ^ 9 = X % 2 ^ 9 &&& w % 2 ^ 9 := Nat.and_mod_two_pow
    have m2 : ((b + 512 - w) &&& w) % 2 ^ 9 = (b + 512 - w) % 2 ^ 9 &&& w % 2 ^ 9 := Nat.and_mod_two_pow
    have p9 : (2 : Nat) ^ 9 = 512 := rfl
    rw [p9] at m1 m2
    rw [hX2] at m1
    omega
  have l2 : (b + 512 - w) &&& w < 512 := Nat.lt_of_le_of_lt Nat.and_le_right hw
  unfold zAnd
  show BitVec.toInt (zI ((b : Int) - (w : Int)) &&& zI (w : Int)).toBitVec = _
  rw [← e1]
  exact BitVec.toInt_eq_toNat_of_lt (by omega)
/-- bits of the fewest, of like ones the least, with P; -1: none -/
def zMn (P : Nat → Prop) (v : Int) : Prop := (v = -1 ∧ ∀ c, c < 512 → ¬ P c) ∨ ∃ b : Nat, v = (b : Int) ∧ b < 512 ∧ P b ∧ ∀ c, c < 512 → P c → zPop b < zPop c ∨ (zPop b = zPop c ∧ b ≤ c)
theorem zMn_u {P : Nat → Prop} {v w : Int} (h1 : zMn P v) (h2 : zMn P w) : v = w := by
  rcases h1 with ⟨rfl, h1⟩ | ⟨b, rfl, hb, pb, h1⟩
  · rcases h2 with ⟨rfl, h2⟩ | ⟨c, rfl, hc, pc, h2⟩
    · rfl
    · exact absurd pc (h1 c hc)
  · rcases h2 with ⟨rfl, h2⟩ | ⟨c, rfl, hc, pc, h2⟩
    · exact absurd pb (h2 b hb)
    · have q1 := h1 c hc pc
      have q2 := h2 b hb pb
      omega
theorem zMn_iff {P Q : Nat → Prop} {v : Int} (h : ∀ c, c < 512 → (P c ↔ Q c)) (hm : zMn P v) : zMn Q v := by
  rcases hm with ⟨rfl, h1⟩ | ⟨b, rfl, hb, pb, h1⟩
  · exact Or.inl ⟨rfl, fun c hc q => h1 c hc ((h c hc).mpr q)⟩
  · exact Or.inr ⟨b, rfl, hb, (h b hb).mp pb, fun c hc q => h1 c hc ((h c hc).mpr q)⟩
theorem zMn_r {P : Nat → Prop} {v : Int} (h : zMn P v) : -1 ≤ v ∧ v < 512 := by
  rcases h with ⟨rfl, -⟩ | ⟨b, rfl, hb, -⟩ <;> omega
theorem zPn_mono {n : Nat} {p q : Nat → Bool} (h : ∀ k, k < n → p k = true → q k = true) : zPn n p ≤ zPn n q := by
  induction n with
  | zero => exact Nat.le_refl _
  | succ n ih =>
    have hi := ih (fun k hk => h k (by omega))
    have e1 := zPn_Sm (n + 1) p
    have e2 := zPn_Sm (n + 1) q
    have e3 : zSm (n + 1) (fun k => if p k = true then 1 else 0) ≤ zSm (n + 1) (fun k => if q k = true then 1 else 0) := zSm_le (fun k hk => by
      by_cases hp : p k = true
      · rw [if_pos hp, if_pos (h k hk hp)]
        exact Int.le_refl _
      · rw [if_neg hp]
        split <;> omega)
    omega
theorem zSb_bit {b w k : Nat} (h : b &&& w = b) (hb : b.testBit k = true) : w.testBit k = true := by
  have := Nat.testBit_and b w k
  rw [h, hb] at this
  cases hw : w.testBit k with
  | true => rfl
  | false => rw [hw] at this; cases this
theorem zSb_of {b w : Nat} (h : ∀ k, b.testBit k = true → w.testBit k = true) : b &&& w = b := by
  refine Nat.eq_of_testBit_eq (fun k => ?_)
  rw [Nat.testBit_and]
  cases hb : b.testBit k with
  | false => rfl
  | true => rw [h k hb]; rfl
theorem zPop_mono {b w : Nat} (h : b &&& w = b) : zPop b ≤ zPop w := zPn_mono (fun k _ q => zSb_bit h q)
