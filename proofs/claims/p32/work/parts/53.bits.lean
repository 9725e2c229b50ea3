/-! bits -/
/-- those below n that have it, as bits -/
def zBn : Nat → (Nat → Bool) → Nat
  | 0, _ => 0
  | n + 1, p => zBn n p + (if p n then 2 ^ n else 0)
theorem zBn_lt (n : Nat) (p : Nat → Bool) : zBn n p < 2 ^ n := by
  induction n with
  | zero => simp [zBn]
  | succ n ih =>
    unfold zBn
    have : 2 ^ (n + 1) = 2 ^ n + 2 ^ n := by rw [Nat.pow_succ]; omega
    split <;> omega
theorem zBn_congr {n : Nat} {p q : Nat → Bool} (h : ∀ k, k < n → p k = q k) : zBn n p = zBn n q := by
  induction n with
  | zero => rfl
  | succ n ih =>
    unfold zBn
    rw [ih (fun k hk => h k (by omega)), h n (by omega)]
theorem zBn_bit (n : Nat) (p : Nat → Bool) (i : Nat) : (zBn n p).testBit i = (decide (i < n) && p i) := by
  induction n with
  | zero => simp [zBn]
  | succ n ih =>
    unfold zBn
    have hl := zBn_lt n p
    by_cases hp : p n
    · rw [if_pos hp, Nat.add_comm]
      by_cases hi : i = n
      · subst hi
        rw [Nat.testBit_two_pow_add_eq, ih]
        simp [hp]
      · by_cases hin : i < n
        · rw [Nat.testBit_two_pow_add_gt hin, ih]
          simp [hin, Nat.lt_succ_of_lt hin]
        · have h1 : ¬ i < n + 1 := by omega
          have h2 : 2 ^ n + zBn n p < 2 ^ i := by
            have : 2 ^ (n + 1) ≤ 2 ^ i := Nat.pow_le_pow_right (by omega) (by omega)
            rw [Nat.pow_succ] at this
            omega
          rw [Nat.testBit_lt_two_pow h2]
          simp [h1]
    · rw [if_neg hp, Nat.add_zero, ih]
      by_cases hi : i = n
      · subst hi
        simp [hp]
      · have : (i < n) = (i < n + 1) := by
          apply propext
          omega
        simp [this]
theorem zBn_t {n : Nat} {p : Nat → Bool} (h : p n = true) : zBn (n + 1) p = zBn n p + 2 ^ n := by
  show zBn n p + (if p n then 2 ^ n else 0) = _
  rw [if_pos h]
theorem zBn_f {n : Nat} {p : Nat → Bool} (h : ¬ p n = true) : zBn (n + 1) p = zBn n p := by
  show zBn n p + (if p n then 2 ^ n else 0) = _
  rw [if_neg h, Nat.add_zero]
/-- how many -/
def zPn : Nat → (Nat → Bool) → Nat
  | 0, _ => 0
  | n + 1, p => zPn n p + (if p n then 1 else 0)
theorem zPn_le (n : Nat) (p : Nat → Bool) : zPn n p ≤ n := by
  induction n with
  | zero => simp [zPn]
  | succ n ih =>
    unfold zPn
    split <;> omega
set_option maxRecDepth 100000 in
theorem zor_tab : ∀ i : Nat, i < 9 → ∀ x : Nat, x < 256 → x < 2 ^ i → (Int32.ofNat x ||| ((1 : Int32) <<< (Int32.ofNat i &&& 31))) = Int32.ofNat (x + 2 ^ i) := by decide +kernel
set_option maxRecDepth 100000 in
theorem zbit_tab : ∀ i : Nat, i < 9 → ∀ x : Nat, x < 512 → ((Int32.ofNat x >>> (Int32.ofNat i &&& 31)) &&& 1) = if x.testBit i then 1 else 0 := by decide +kernel
theorem zI_ofNat (n : Nat) : zI (n : Int) = Int32.ofNat n := Int32.ofInt_eq_ofNat
theorem zOr_bit {i x : Nat} (hi : i < 9) (hx : x < 2 ^ i) : zOr (x : Int) (zShl 1 (i : Int)) = ((x + 2 ^ i : Nat) : Int) := by
  have hx2 : x < 256 := by
    have : 2 ^ i ≤ 2 ^ 8 := Nat.pow_le_pow_right (by omega) (by omega)
    omega
  have h := zor_tab i hi x hx2 hx
  unfold zOr zShl
  rw [show zI ((zI 1 <<< (zI (i : Int) &&& 31)).toInt) = (1 : Int32) <<< (Int32.ofNat i &&& 31) from by rw [← zI_self, zI_ofNat]; rfl, zI_ofNat, h, ← zI_ofNat]
  apply zI_toInt
  have : 2 ^ i ≤ 2 ^ 8 := Nat.pow_le_pow_right (by omega) (by omega)
  omega
theorem zbit_at {i x : Nat} (hi : i < 9) (hx : x < 512) : (zI (x : Int) >>> (zI (i : Int) &&& 31)) &&& 1 = zI (zB (x.testBit i = true)) := by
  rw [zI_ofNat, zI_ofNat, zbit_tab i hi x hx]
  by_cases h : x.testBit i = true
  · rw [if_pos h, zB_p h]; rfl
  · rw [if_neg h, zB_n h]; rfl
def zPop (x : Nat) : Nat := zPn 9 (fun i => x.testBit i)
set_option maxRecDepth 100000 in
theorem zpop_tab : ∀ x : Nat, x < 512 → (f_J6_bitCount_0f7a4 (Int32.ofNat x) []).map (fun q => q.1) = some (Int32.ofNat (zPop x)) := by decide +kernel
theorem s_pop_h (e : Int32) : ∃ v : Int32, ∀ h : Hp, f_J6_bitCount_0f7a4 e h = some (v, h) := ⟨_, fun _ => rfl⟩
theorem s_pop {x : Nat} (hx : x < 512) (h : Hp) : f_J6_bitCount_0f7a4 (zI (x : Int)) h = some (zI (zPop x : Nat), h) := by
  obtain ⟨v, hv⟩ := s_pop_h (zI (x : Int))
  have h1 := zpop_tab x hx
  rw [← zI_ofNat, hv] at h1
  have h2 : v = Int32.ofNat (zPop x) := Option.some.inj h1
  rw [hv, h2, zI_ofNat]
