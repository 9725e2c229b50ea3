/-! rows of points as keys; how many different ones come -/
def zKy (f : Int → Int) : Nat → Int
  | 0 => 0
  | n + 1 => 64 * zKy f n + f (n : Int)
theorem zKy_inj {f g : Int → Int} {n : Nat} (hf : ∀ k : Nat, k < n → 0 ≤ f (k : Int) ∧ f (k : Int) < 64) (hg : ∀ k : Nat, k < n → 0 ≤ g (k : Int) ∧ g (k : Int) < 64) (h : zKy f n = zKy g n) : ∀ k : Nat, k < n → f (k : Int) = g (k : Int) := by
  induction n with
  | zero => exact fun k hk => absurd hk (by omega)
  | succ n ih =>
    have e1 : zKy f (n + 1) = 64 * zKy f n + f (n : Int) := rfl
    have e2 : zKy g (n + 1) = 64 * zKy g n + g (n : Int) := rfl
    have h1 := hf n (by omega)
    have h2 := hg n (by omega)
    have hi := ih (fun k hk => hf k (by omega)) (fun k hk => hg k (by omega)) (by omega)
    intro k hk
    by_cases hkn : k = n
    · subst hkn
      have := h
      omega
    · exact hi k (by omega)
theorem zKy_congr {f g : Int → Int} {n : Nat} (h : ∀ k : Nat, k < n → f (k : Int) = g (k : Int)) : zKy f n = zKy g n := by
  induction n with
  | zero => rfl
  | succ n ih =>
    show 64 * zKy f n + f (n : Int) = 64 * zKy g n + g (n : Int)
    rw [ih (fun k hk => h k (by omega)), h n (by omega)]
theorem zKy_range {f : Int → Int} {n : Nat} (hf : ∀ k : Nat, k < n → 0 ≤ f (k : Int) ∧ f (k : Int) < 64) : 0 ≤ zKy f n ∧ zKy f n < ((64 ^ n : Nat) : Int) := by
  induction n with
  | zero => exact ⟨Int.le_refl 0, by show (0 : Int) < 1; omega⟩
  | succ n ih =>
    have e1 : zKy f (n + 1) = 64 * zKy f n + f (n : Int) := rfl
    have h1 := hf n (by omega)
    have hi := ih (fun k hk => hf k (by omega))
    have e2 : 64 ^ (n + 1) = 64 * 64 ^ n := by rw [Nat.pow_succ]; omega
    rw [e1, e2]
    omega
theorem zKy_36 {f : Int → Int} (hf : ∀ k : Nat, k < 6 → 0 ≤ f (k : Int) ∧ f (k : Int) < 64) : 0 ≤ zKy f 6 ∧ zKy f 6 < 68719476736 := zKy_range hf
/-- keys that come of these games, from these points on -/
def zQk (K d : Int) (L : List (Int × Int)) (f : Int → Int) (x : Int) : Prop := ∃ xs, xs.length = L.length ∧ (∀ y, y ∈ xs → zOx d y) ∧ x = zKy (fun u => f u + zTo K L xs u) 6
theorem zQk_congr {K d : Int} {L : List (Int × Int)} {f g : Int → Int} {x : Int} (h : ∀ u, 0 ≤ u → u < 6 → f u = g u) : zQk K d L f x ↔ zQk K d L g x := by
  have e : ∀ xs, zKy (fun u => f u + zTo K L xs u) 6 = zKy (fun u => g u + zTo K L xs u) 6 := fun xs => zKy_congr (fun k hk => by
    rw [h (k : Int) (by omega) (by omega)])
  unfold zQk
  simp only [e]
theorem zQk_n {K d : Int} {f : Int → Int} {x : Int} : zQk K d [] f x ↔ x = zKy f 6 := by
  have e : zKy (fun u => f u + zTo K [] [] u) 6 = zKy f 6 := zKy_congr (fun k hk => by
    show f (k : Int) + 0 = f (k : Int)
    omega)
  constructor
  · rintro ⟨xs, h1, h2, h3⟩
    have := List.eq_nil_of_length_eq_zero h1
    subst this
    rw [h3, e]
  · intro h
    exact ⟨[], rfl, fun y hy => absurd hy (by simp), by rw [e]; exact h⟩
theorem zQk_c {K d : Int} {e : Int × Int} {es : List (Int × Int)} {f : Int → Int} {x : Int} : zQk K d (e :: es) f x ↔ ∃ y, zOx d y ∧ zQk K d es (fun u => f u + zGn K e.1 e.2 y u) x := by
  have ek : ∀ y ys, zKy (fun u => f u + zTo K (e :: es) (y :: ys) u) 6 = zKy (fun u => (fun u => f u + zGn K e.1 e.2 y u) u + zTo K es ys u) 6 := fun y ys => zKy_congr (fun k hk => by
    show f (k : Int) + (zGn K e.1 e.2 y (k : Int) + zTo K es ys (k : Int)) = f (k : Int) + zGn K e.1 e.2 y (k : Int) + zTo K es ys (k : Int)
    omega)
  constructor
  · rintro ⟨xs, h1, h2, h3⟩
    cases xs with
    | nil => cases h1
    | cons y ys =>
      refine ⟨y, h2 y (by simp), ys, by simpa using h1, fun z hz => h2 z (by simp [hz]), ?_⟩
      rw [h3, ek]
  · rintro ⟨y, hy, ys, h1, h2, h3⟩
    refine ⟨y :: ys, by simp [h1], fun z hz => ?_, by rw [ek]; exact h3⟩
    rcases List.mem_cons.mp hz with q | q
    · rw [q]
      exact hy
    · exact h2 z q
/-- n different values, just those with P -/
def zDf (g : Nat → Int) (n : Nat) (P : Int → Prop) : Prop := (∀ i j, i < n → j < n → g i = g j → i = j) ∧ ∀ x, (∃ j, j < n ∧ g j = x) ↔ P x
theorem zDf_iff {g : Nat → Int} {n : Nat} {P Q : Int → Prop} (h : ∀ x, P x ↔ Q x) (hd : zDf g n P) : zDf g n Q := ⟨hd.1, fun x => (hd.2 x).trans (h x)⟩
theorem zDf_congr {g g' : Nat → Int} {n : Nat} {P : Int → Prop} (h : ∀ j, j < n → g' j = g j) (hd : zDf g n P) : zDf g' n P := by
  refine ⟨fun i j hi hj e => hd.1 i j hi hj (by rw [← h i hi, ← h j hj]; exact e), fun x => Iff.trans ?_ (hd.2 x)⟩
  constructor
  · rintro ⟨j, hj, e⟩
    exact ⟨j, hj, by rw [← h j hj]; exact e⟩
  · rintro ⟨j, hj, e⟩
    exact ⟨j, hj, by rw [h j hj]; exact e⟩
theorem zDf_add {g g' : Nat → Int} {n : Nat} {P : Int → Prop} {x : Int} (hd : zDf g n P) (hx : ¬ P x) (h : ∀ j, j < n → g' j = g j) (hn : g' n = x) : zDf g' (n + 1) (fun y => P y ∨ y = x) := by
  have hd' := zDf_congr h hd
  have hno : ∀ j, j < n → ¬ g' j = x := fun j hj e => hx ((hd'.2 x).mp ⟨j, hj, e⟩)
  refine ⟨fun i j hi hj e => ?_, fun y => ?_⟩
  · by_cases h1 : i = n
    · by_cases h2 : j = n
      · omega
      · exfalso
        rw [h1, hn] at e
        exact hno j (by omega) e.symm
    · by_cases h2 : j = n
      · exfalso
        rw [h2, hn] at e
        exact hno i (by omega) e
      · exact hd'.1 i j (by omega) (by omega) e
  · constructor
    · rintro ⟨j, hj, e⟩
      by_cases h1 : j = n
      · rw [h1, hn] at e
        exact Or.inr e.symm
      · exact Or.inl ((hd'.2 y).mp ⟨j, by omega, e⟩)
    · rintro (q | q)
      · obtain ⟨j, hj, e⟩ := (hd'.2 y).mpr q
        exact ⟨j, by omega, e⟩
      · exact ⟨n, by omega, by rw [hn, q]⟩
theorem zCard {f : Nat → Int} (n : Nat) (S : List Int) (hi : ∀ i j, i < n → j < n → f i = f j → i = j) (h : ∀ i, i < n → f i ∈ S) : n ≤ S.length := by
  induction n generalizing S with
  | zero => omega
  | succ n ih =>
    obtain ⟨l1, l2, e⟩ := List.append_of_mem (h n (by omega))
    have := ih (l1 ++ l2) (fun i j a b => hi i j (by omega) (by omega)) (fun i hin => by
      have h1 := h i (by omega)
      rw [e] at h1
      rcases List.mem_append.mp h1 with q | q
      · exact List.mem_append_left _ q
      · rcases List.mem_cons.mp q with q | q
        · have := hi i n (by omega) (by omega) q
          omega
        · exact List.mem_append_right _ q)
    rw [e]
    simp only [List.length_append, List.length_cons] at this ⊢
    omega
theorem zDf_le {g g' : Nat → Int} {n n' : Nat} {P : Int → Prop} (h1 : zDf g n P) (h2 : zDf g' n' P) : n ≤ n' := by
  have := zCard n ((List.range n').map g') h1.1 (fun i hi => by
    obtain ⟨j, hj, e⟩ := (h2.2 (g i)).mpr ((h1.2 (g i)).mp ⟨i, hi, rfl⟩)
    exact List.mem_map.mpr ⟨j, List.mem_range.mpr hj, e⟩)
  rw [List.length_map, List.length_range] at this
  exact this
theorem zDf_u {g g' : Nat → Int} {n n' : Nat} {P : Int → Prop} (h1 : zDf g n P) (h2 : zDf g' n' P) : n = n' := Nat.le_antisymm (zDf_le h1 h2) (zDf_le h2 h1)
/-- the code of a row, step by step -/
theorem zJ_step {c r : Int} (hc : 0 ≤ c ∧ c < 1152921504606846976 / 64) (hr : 0 ≤ r ∧ r < 64) : ((zJ c <<< (Int32.toInt64 (6 : Int32) &&& 63)) ||| Int32.toInt64 (zI r)) = zJ (64 * c + r) := by
  have e1 : Int32.toInt64 (zI r) = zJ r := by
    unfold zJ
    rw [← Int64.ofInt_toInt (Int32.toInt64 (zI r)), Int32.toInt_toInt64, zI_toInt (by omega)]
  have e2 : (Int32.toInt64 (6 : Int32) &&& 63 : Int64) = 6 := by decide
  rw [e1, e2]
  have hb : ∀ x : Int, 0 ≤ x → x < 9223372036854775808 → (zJ x).toBitVec.toNat = x.toNat := fun x x0 x1 => by
    show (BitVec.ofInt 64 x).toNat = _
    rw [BitVec.toNat_ofInt]
    omega
  have e3 : (zJ c <<< (6 : Int64)).toBitVec = (zJ c).toBitVec <<< 6 := rfl
  have e4 : (zJ c <<< (6 : Int64) ||| zJ r).toBitVec = (zJ c <<< (6 : Int64)).toBitVec ||| (zJ r).toBitVec := rfl
  have e5 : (zJ c <<< (6 : Int64) ||| zJ r).toBitVec = (zJ (64 * c + r)).toBitVec := by
    refine BitVec.eq_of_toNat_eq ?_
    rw [e4, e3, BitVec.toNat_or, BitVec.toNat_shiftLeft, hb c (by omega) (by omega), hb r (by omega) (by omega), hb (64 * c + r) (by omega) (by omega), Nat.shiftLeft_eq]
    have h1 : c.toNat * 2 ^ 6 % 2 ^ 64 = 2 ^ 6 * c.toNat := by
      have p6 : (2 : Nat) ^ 6 = 64 := rfl
      have p64 : (2 : Nat) ^ 64 = 18446744073709551616 := rfl
      rw [p6, p64]
      omega
    rw [h1, ← Nat.two_pow_add_eq_or_of_lt (show r.toNat < 2 ^ 6 by have p6 : (2 : Nat) ^ 6 = 64 := rfl; omega)]
    have p6 : (2 : Nat) ^ 6 = 64 := rfl
    rw [p6]
    omega
  exact Int64.toBitVec_inj.mp e5
theorem zJ_inj {x y : Int} (hx : 0 ≤ x ∧ x < 9223372036854775808) (hy : 0 ≤ y ∧ y < 9223372036854775808) : zJ x = zJ y ↔ x = y := by
  constructor
  · intro h
    have := congrArg Int64.toInt h
    unfold zJ at this
    rw [Int64.toInt_ofInt_of_le (by omega) (by omega), Int64.toInt_ofInt_of_le (by omega) (by omega)] at this
    exact this
  · intro h
    rw [h]
