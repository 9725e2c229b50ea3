/-! p1: one call on a fresh object -/
def p1b (o : Option (Int32 × Hp)) (f : Hp → Option (Int32 × Hp)) : Bool := match o with
  | some q => (match f q.2 with
    | some r => decide (q.1 = r.1)
    | none => false)
  | none => false
theorem p1b_use {o : Option (Int32 × Hp)} {f : Hp → Option (Int32 × Hp)} (h : p1b o f = true) : ∃ q r, o = some q ∧ f q.2 = some r ∧ q.1 = r.1 := by
  unfold p1b at h
  split at h
  · rename_i q
    split at h
    · rename_i r hr
      exact ⟨q, r, rfl, hr, of_decide_eq_true h⟩
    · cases h
  · cases h
theorem p1b_of {o : Option (Int32 × Hp)} {f : Hp → Option (Int32 × Hp)} {r : Int32} {h h' : Hp} (h1 : o = some (r, h)) (h2 : f h = some (r, h')) : p1b o f = true := by
  subst h1
  simp [p1b, h2]
theorem p1_c3 {k : Int32} (h0 : ¬ k < 0) (h2 : ¬ 2 < k) : k = 0 ∨ k = 1 ∨ k = 2 := by
  rw [Int32.lt_iff_toInt_lt] at h0 h2
  have e0 : (0 : Int32).toInt = 0 := rfl
  have e2 : (2 : Int32).toInt = 2 := rfl
  have : k.toInt = 0 ∨ k.toInt = 1 ∨ k.toInt = 2 := by omega
  rcases this with h | h | h
  · exact Or.inl (Int32.toInt_inj.mp h)
  · exact Or.inr (Or.inl (Int32.toInt_inj.mp h))
  · exact Or.inr (Or.inr (Int32.toInt_inj.mp h))
theorem p1_c4 {k : Int32} (h0 : ¬ k < 0) (h2 : ¬ 4 ≤ k) : k = 0 ∨ k = 1 ∨ k = 2 ∨ k = 3 := by
  rw [Int32.lt_iff_toInt_lt] at h0
  rw [Int32.le_iff_toInt_le] at h2
  have e0 : (0 : Int32).toInt = 0 := rfl
  have e2 : (4 : Int32).toInt = 4 := rfl
  have : k.toInt = 0 ∨ k.toInt = 1 ∨ k.toInt = 2 ∨ k.toInt = 3 := by omega
  rcases this with h | h | h | h
  · exact Or.inl (Int32.toInt_inj.mp h)
  · exact Or.inr (Or.inl (Int32.toInt_inj.mp h))
  · exact Or.inr (Or.inr (Or.inl (Int32.toInt_inj.mp h)))
  · exact Or.inr (Or.inr (Or.inr (Int32.toInt_inj.mp h)))
theorem p1_c5 {k : Int32} (h0 : ¬ k < 1) (h2 : k ≤ 5) : k = 1 ∨ k = 2 ∨ k = 3 ∨ k = 4 ∨ k = 5 := by
  rw [Int32.lt_iff_toInt_lt] at h0
  rw [Int32.le_iff_toInt_le] at h2
  have e0 : (1 : Int32).toInt = 1 := rfl
  have e2 : (5 : Int32).toInt = 5 := rfl
  have : k.toInt = 1 ∨ k.toInt = 2 ∨ k.toInt = 3 ∨ k.toInt = 4 ∨ k.toInt = 5 := by omega
  rcases this with h | h | h | h | h
  · exact Or.inl (Int32.toInt_inj.mp h)
  · exact Or.inr (Or.inl (Int32.toInt_inj.mp h))
  · exact Or.inr (Or.inr (Or.inl (Int32.toInt_inj.mp h)))
  · exact Or.inr (Or.inr (Or.inr (Or.inl (Int32.toInt_inj.mp h))))
  · exact Or.inr (Or.inr (Or.inr (Or.inr (Int32.toInt_inj.mp h))))
theorem i7_in (a x y : Int32) (h : Hp) : f_X7_in a.toInt64 x.toInt64 y.toInt64 h = some (if x ≤ a ∧ a ≤ y then 1 else 0, h) := by
  unfold f_X7_in
  by_cases h1 : x ≤ a
  · have h2 : ¬ lg_cmp a.toInt64 x.toInt64 < 0 := by
      rw [lg_cmp_lt, Int32.toInt64_lt, Int32.not_lt]
      exact h1
    rw [if_neg h2]
    by_cases h3 : a ≤ y
    · have h4 : ¬ 0 < lg_cmp a.toInt64 y.toInt64 := by
        rw [lg_cmp_gt, Int32.toInt64_lt, Int32.not_lt]
        exact h3
      rw [if_neg h4, if_pos ⟨h1, h3⟩]
    · have h4 : 0 < lg_cmp a.toInt64 y.toInt64 := by
        rw [lg_cmp_gt, Int32.toInt64_lt, ← Int32.not_le]
        exact h3
      rw [if_pos h4, if_neg (fun q => h3 q.2)]
  · have h2 : lg_cmp a.toInt64 x.toInt64 < 0 := by
      rw [lg_cmp_lt, Int32.toInt64_lt, ← Int32.not_le]
      exact h1
    rw [if_pos h2, if_neg (fun q => h1 q.1)]
theorem bz_ite (c : Prop) [Decidable c] : bz (if c then 1 else 0) = some () := by
  by_cases h : c <;> simp [h, bz]
theorem p1_ck6 : ck hi_25 0 6 = some () := rfl
theorem p1_ck7 : ck hi_25 50 7 = some () := rfl
theorem p1_ck0 : ck hi_25 3 0 = some () := rfl
theorem p1_r1 : gR hi_25 0 6 1 = some 3 := rfl
theorem p1_T : gI hi_25 3 0 0 = some 0 := rfl
theorem p1_N : gI hi_25 3 0 1 = some 0 := rfl
theorem p1_w : gR hi_25 50 7 0 = some 51 := rfl
theorem p1_w0 : aL hi_25 51 0 = some 0 := rfl
theorem p1_w1 : aL hi_25 51 1 = some 0 := rfl
theorem p1_no (a : Int32) : (if a < 0 then some ((0 : Int32), hi_25) else if (0 : Int32) ≤ a then some (0, hi_25) else some (1, hi_25)) = some (0, hi_25) := by
  by_cases h : a < 0
  · rw [if_pos h]
  · rw [if_neg h, if_pos (Int32.not_lt.mp h)]
theorem p1_ht (a : Int32) : f_X0_hasTeam 3 a hi_25 = some (0, hi_25) := by
  simp only [f_X0_hasTeam, p1_ck0, p1_T, Option.bind_some]
  exact p1_no a
theorem p1_hg (a : Int32) : f_X0_hasGame 3 a hi_25 = some (0, hi_25) := by
  simp only [f_X0_hasGame, p1_ck0, p1_N, Option.bind_some]
  exact p1_no a
theorem p1_nin (a : Int32) : ¬ ((0 : Int32) ≤ a ∧ a ≤ 0 - 1) := by
  intro ⟨h1, h2⟩
  rw [Int32.le_iff_toInt_le] at h1 h2
  have e0 : (0 : Int32).toInt = 0 := rfl
  have e1 : ((0 : Int32) - 1).toInt = -1 := rfl
  omega
theorem p1_in0 (a : Int32) (h : Hp) : f_X7_in a.toInt64 0 (Int32.toInt64 (0 - 1)) h = some (0, h) := by
  refine (i7_in a 0 (0 - 1) h).trans ?_
  rw [if_neg (p1_nin a)]
theorem p1_bz0 : bz 0 = some () := rfl
theorem p1_bz1 : bz 1 = some () := rfl
theorem p1_it (a : Int32) : f_X7_isTeam 50 a hi_25 = some (0, hi_25) := by
  simp only [f_X7_isTeam, p1_ck7, p1_w, p1_w0, Option.bind_some, p1_in0, p1_bz0]
theorem p1_ig (a : Int32) : f_X7_isGame 50 a hi_25 = some (0, hi_25) := by
  simp only [f_X7_isGame, p1_ck7, p1_w, p1_w1, Option.bind_some, p1_in0, p1_bz0]

theorem p1_told (a b : Int32) : p1b (f_X6_told 0 a b hi_25) (f_X7_told 50 a b) = true := by
  refine p1b_of (r := -2) (h := hi_25) (h' := hi_25) ?_ ?_
  · simp only [f_X6_told, p1_ck6, p1_r1, p1_ht, Option.bind_some, ↓reduceIte]
  · simp only [f_X7_told, p1_ck7, p1_it, Option.bind_some, ↓reduceIte]
theorem p1_between (a b : Int32) : p1b (f_X6_between 0 a b hi_25) (f_X7_between 50 a b) = true := by
  refine p1b_of (r := -2) (h := hi_25) (h' := hi_25) ?_ ?_
  · simp only [f_X6_between, p1_ck6, p1_r1, p1_ht, Option.bind_some, ↓reduceIte]
  · simp only [f_X7_between, p1_ck7, p1_it, Option.bind_some, ↓reduceIte]
theorem p1_isIn (a : Int32) : p1b (f_X6_isIn 0 a hi_25) (f_X7_isIn 50 a) = true := by
  refine p1b_of (r := -2) (h := hi_25) (h' := hi_25) ?_ ?_
  · simp only [f_X6_isIn, p1_ck6, p1_r1, p1_ht, Option.bind_some, ↓reduceIte]
  · simp only [f_X7_isIn, p1_ck7, p1_it, Option.bind_some, ↓reduceIte]
theorem p1_set (a b : Int32) : p1b (f_X6_set 0 a b hi_25) (f_X7_set 50 a b) = true := by
  refine p1b_of (r := -2) (h := hi_25) (h' := hi_25) ?_ ?_
  · simp only [f_X6_set, p1_ck6, p1_r1, p1_ht, Option.bind_some, ↓reduceIte]
  · simp only [f_X7_set, p1_ck7, p1_it, Option.bind_some, ↓reduceIte]
theorem p1_run (a b : Int32) : p1b (f_X6_run 0 a b hi_25) (f_X7_run 50 a b) = true := by
  refine p1b_of (r := -2) (h := hi_25) (h' := hi_25) ?_ ?_
  · simp only [f_X6_run, p1_ck6, p1_r1, p1_ht, Option.bind_some, ↓reduceIte]
  · simp only [f_X7_run, p1_ck7, p1_it, Option.bind_some, ↓reduceIte]
theorem p1_pattern (a : Int32) : p1b (f_X6_pattern 0 a hi_25) (f_X7_pattern 50 a) = true := by
  refine p1b_of (r := -2) (h := hi_25) (h' := hi_25) ?_ ?_
  · simp only [f_X6_pattern, p1_ck6, p1_r1, p1_ht, Option.bind_some, ↓reduceIte]
  · simp only [f_X7_pattern, p1_ck7, p1_it, Option.bind_some, ↓reduceIte]
theorem p1_needs (a b : Int32) : p1b (f_X6_needs 0 a b hi_25) (f_X7_needs 50 a b) = true := by
  refine p1b_of (r := -2) (h := hi_25) (h' := hi_25) ?_ ?_
  · simp only [f_X6_needs, p1_ck6, p1_r1, p1_ht, Option.bind_some, ↓reduceIte]
  · simp only [f_X7_needs, p1_ck7, p1_it, Option.bind_some, ↓reduceIte]
theorem p1_since (a b : Int32) : p1b (f_X6_since 0 a b hi_25) (f_X7_since 50 a b) = true := by
  refine p1b_of (r := -2) (h := hi_25) (h' := hi_25) ?_ ?_
  · simp only [f_X6_since, p1_ck6, p1_r1, p1_ht, Option.bind_some, ↓reduceIte]
  · simp only [f_X7_since, p1_ck7, p1_it, Option.bind_some, ↓reduceIte]
theorem p1_help (a b : Int32) : p1b (f_X6_help 0 a b hi_25) (f_X7_help 50 a b) = true := by
  refine p1b_of (r := -2) (h := hi_25) (h' := hi_25) ?_ ?_
  · simp only [f_X6_help, p1_ck6, p1_r1, p1_ht, Option.bind_some, ↓reduceIte]
  · simp only [f_X7_help, p1_ck7, p1_it, Option.bind_some, ↓reduceIte]
theorem p1_chance (a b c d : Int32) : p1b (f_X6_chance 0 a b c d hi_25) (f_X7_chance 50 a b c d) = true := by
  refine p1b_of (r := -2) (h := hi_25) (h' := hi_25) ?_ ?_
  · simp only [f_X6_chance, p1_ck6, p1_r1, p1_ht, Option.bind_some, ↓reduceIte]
  · simp only [f_X7_chance, p1_ck7, p1_it, Option.bind_some, ↓reduceIte]
theorem p1_play (a b : Int32) : p1b (f_X6_play 0 a b hi_25) (f_X7_play 50 a b) = true := by
  refine p1b_of (r := -2) (h := hi_25) (h' := hi_25) ?_ ?_
  · simp only [f_X6_play, p1_ck6, p1_r1, p1_hg, Option.bind_some, ↓reduceIte]
  · simp only [f_X7_play, p1_ck7, p1_ig, Option.bind_some, ↓reduceIte]
theorem p1_unplay (a : Int32) : p1b (f_X6_unplay 0 a hi_25) (f_X7_unplay 50 a) = true := by
  refine p1b_of (r := -2) (h := hi_25) (h' := hi_25) ?_ ?_
  · simp only [f_X6_unplay, p1_ck6, p1_r1, p1_hg, Option.bind_some, ↓reduceIte]
  · simp only [f_X7_unplay, p1_ck7, p1_ig, Option.bind_some, ↓reduceIte]
theorem p1_game (a b : Int32) : p1b (f_X6_game 0 a b hi_25) (f_X7_game 50 a b) = true := by
  refine p1b_of (r := -2) (h := hi_25) (h' := hi_25) ?_ ?_
  · simp only [f_X6_game, p1_ck6, p1_r1, p1_hg, Option.bind_some, ↓reduceIte]
  · simp only [f_X7_game, p1_ck7, p1_ig, Option.bind_some, ↓reduceIte]
theorem p1_without (a : Int32) : p1b (f_X6_without 0 a hi_25) (f_X7_without 50 a) = true := by
  refine p1b_of (r := -2) (h := hi_25) (h' := hi_25) ?_ ?_
  · simp only [f_X6_without, p1_ck6, p1_r1, p1_hg, Option.bind_some, ↓reduceIte]
  · simp only [f_X7_without, p1_ck7, p1_ig, Option.bind_some, ↓reduceIte]
theorem p1_text : p1b (f_X6_text 0 hi_25) (f_X7_text 50) = true := by decide +kernel
theorem p1_named : p1b (f_X6_named 0 hi_25) (f_X7_named 50) = true := by decide +kernel
theorem p1_all : p1b (f_X6_all 0 hi_25) (f_X7_all 50) = true := by decide +kernel
theorem p1_tables : p1b (f_X6_tables 0 hi_25) (f_X7_tables 50) = true := by decide +kernel
theorem p1_image : p1b (f_X6_image 0 hi_25) (f_X7_image 50) = true := by decide +kernel
theorem p1_back : p1b (f_X6_back 0 hi_25) (f_X7_back 50) = true := by decide +kernel
theorem p1_drawn (a : Int32) : p1b (f_X6_drawn 0 a hi_25) (f_X7_drawn 50 a) = true := by rfl
theorem p1_system (a : Int32) : p1b (f_X6_system 0 a hi_25) (f_X7_system 50 a) = true := by
  by_cases h0 : a < 0
  · have e6 : ∀ h, f_X6_isSystem a h = some (0, h) := fun h => by simp only [f_X6_isSystem, if_pos h0]
    have e7 : ∀ h, f_X7_in a.toInt64 0 2 h = some (0, h) := fun h => (i7_in a 0 2 h).trans (by rw [if_neg (fun q => Int32.not_le.mpr h0 q.1)])
    refine p1b_of (r := -2) (h := hi_25) (h' := hi_25) ?_ ?_
    · simp only [f_X6_system, p1_ck6, e6, Option.bind_some, ↓reduceIte]
    · simp only [f_X7_system, p1_ck7, e7, Option.bind_some, ↓reduceIte]
  · by_cases h2 : 2 < a
    · have e6 : ∀ h, f_X6_isSystem a h = some (0, h) := fun h => by simp only [f_X6_isSystem, if_neg h0, if_pos h2]
      have e7 : ∀ h, f_X7_in a.toInt64 0 2 h = some (0, h) := fun h => (i7_in a 0 2 h).trans (by rw [if_neg (fun q => Int32.not_le.mpr h2 q.2)])
      refine p1b_of (r := -2) (h := hi_25) (h' := hi_25) ?_ ?_
      · simp only [f_X6_system, p1_ck6, e6, Option.bind_some, ↓reduceIte]
      · simp only [f_X7_system, p1_ck7, e7, Option.bind_some, ↓reduceIte]
    · rcases p1_c3 h0 h2 with rfl | rfl | rfl <;> decide +kernel
theorem p1_taken (a : Int32) : p1b (f_X6_taken 0 a hi_25) (f_X7_taken 50 a) = true := by
  by_cases h0 : a < 0
  · have e6 : ∀ h, f_X6_isSystem a h = some (0, h) := fun h => by simp only [f_X6_isSystem, if_pos h0]
    have e7 : ∀ h, f_X7_in a.toInt64 0 2 h = some (0, h) := fun h => (i7_in a 0 2 h).trans (by rw [if_neg (fun q => Int32.not_le.mpr h0 q.1)])
    refine p1b_of (r := -2) (h := hi_25) (h' := hi_25) ?_ ?_
    · simp only [f_X6_taken, p1_ck6, e6, Option.bind_some, ↓reduceIte]
    · simp only [f_X7_taken, p1_ck7, e7, Option.bind_some, ↓reduceIte]
  · by_cases h2 : 2 < a
    · have e6 : ∀ h, f_X6_isSystem a h = some (0, h) := fun h => by simp only [f_X6_isSystem, if_neg h0, if_pos h2]
      have e7 : ∀ h, f_X7_in a.toInt64 0 2 h = some (0, h) := fun h => (i7_in a 0 2 h).trans (by rw [if_neg (fun q => Int32.not_le.mpr h2 q.2)])
      refine p1b_of (r := -2) (h := hi_25) (h' := hi_25) ?_ ?_
      · simp only [f_X6_taken, p1_ck6, e6, Option.bind_some, ↓reduceIte]
      · simp only [f_X7_taken, p1_ck7, e7, Option.bind_some, ↓reduceIte]
    · rcases p1_c3 h0 h2 with rfl | rfl | rfl <;> decide +kernel
theorem p1_count (a : Int32) : p1b (f_X6_count 0 a hi_25) (f_X7_count 50 a) = true := by
  by_cases c0 : a = 0
  · subst c0; decide +kernel
  by_cases c1 : a = 1
  · subst c1; decide +kernel
  by_cases c2 : a = 2
  · subst c2; decide +kernel
  by_cases c3 : a = 3
  · subst c3; decide +kernel
  by_cases c4 : a = 4
  · subst c4; decide +kernel
  have e : ∃ h, f_X7_looks 50 hi_25 = some ((), h) := ⟨_, rfl⟩
  obtain ⟨h, e⟩ := e
  refine p1b_of (r := -2) (h := hi_25) (h' := h) ?_ ?_
  · simp only [f_X6_count, p1_ck6, if_neg c0, if_neg c1, if_neg c2, if_neg c3, if_neg c4, Option.bind_some]
  · simp only [f_X7_count, p1_ck7, e, if_neg c0, if_neg c1, if_neg c2, if_neg c3, if_neg c4, Option.bind_some]
theorem p1_s6n {a : Int32} (h0 : a < 0 ∨ 4 ≤ a) (h : Hp) : f_X6_isSheet a h = some (0, h) := by
  unfold f_X6_isSheet
  rcases h0 with h0 | h0
  · rw [if_pos h0]
  · by_cases h1 : a < 0
    · rw [if_pos h1]
    · rw [if_neg h1, if_pos h0]
theorem p1_s7n {a : Int32} (h0 : a < 0 ∨ 4 ≤ a) (h : Hp) : f_X7_isSheet a h = some (0, h) := by
  have e : f_X7_in a.toInt64 0 3 h = some (0, h) := by
    refine (i7_in a 0 3 h).trans ?_
    rw [if_neg]
    intro ⟨h1, h2⟩
    rw [Int32.le_iff_toInt_le] at h1 h2
    rw [Int32.lt_iff_toInt_lt, Int32.le_iff_toInt_le] at h0
    have e0 : (0 : Int32).toInt = 0 := rfl
    have e3 : (3 : Int32).toInt = 3 := rfl
    have e4 : (4 : Int32).toInt = 4 := rfl
    omega
  simp only [f_X7_isSheet, e, Option.bind_some, p1_bz0]
theorem p1_s {a : Int32} (h : ¬ (a < 0 ∨ 4 ≤ a)) : a = 0 ∨ a = 1 ∨ a = 2 ∨ a = 3 := p1_c4 (fun q => h (Or.inl q)) (fun q => h (Or.inr q))
theorem p1_s6y {a : Int32} (h0 : a = 0 ∨ a = 1 ∨ a = 2 ∨ a = 3) (h : Hp) : f_X6_isSheet a h = some (1, h) := by
  rcases h0 with rfl | rfl | rfl | rfl <;> rfl
theorem p1_s7y {a : Int32} (h0 : a = 0 ∨ a = 1 ∨ a = 2 ∨ a = 3) (h : Hp) : f_X7_isSheet a h = some (1, h) := by
  rcases h0 with rfl | rfl | rfl | rfl <;> rfl
theorem p1_pn {b : Int32} (h0 : ¬ b = 0) (h1 : ¬ b = 1) (h : Hp) : f_X6_isPart b h = some (0, h) := by simp only [f_X6_isPart, if_neg h0, if_neg h1]
theorem p1_on {b : Int32} (h0 : ¬ b = 0) (h1 : ¬ b = 1) (h : Hp) : f_X6_isSort b h = some (0, h) := by simp only [f_X6_isSort, if_neg h0, if_neg h1]
theorem p1_pn7 {b : Int32} (h0 : ¬ b = 0) (h1 : ¬ b = 1) (h : Hp) : f_X7_in b.toInt64 0 1 h = some (0, h) := by
  refine (i7_in b 0 1 h).trans ?_
  rw [if_neg]
  intro ⟨h2, h3⟩
  rw [Int32.le_iff_toInt_le] at h2 h3
  have e0 : (0 : Int32).toInt = 0 := rfl
  have e1 : (1 : Int32).toInt = 1 := rfl
  have : b.toInt = 0 ∨ b.toInt = 1 := by omega
  rcases this with z | z
  · exact h0 (Int32.toInt_inj.mp z)
  · exact h1 (Int32.toInt_inj.mp z)
theorem p1_on7 {b : Int32} (h0 : ¬ b = 0) (h1 : ¬ b = 1) (hm : ¬ b = -1) (h : Hp) : f_X7_in b.toInt64 (-1) 1 h = some (0, h) := by
  refine (i7_in b (-1) 1 h).trans ?_
  rw [if_neg]
  intro ⟨h2, h3⟩
  rw [Int32.le_iff_toInt_le] at h2 h3
  have e0 : (-1 : Int32).toInt = -1 := rfl
  have e1 : (1 : Int32).toInt = 1 := rfl
  have : b.toInt = -1 ∨ b.toInt = 0 ∨ b.toInt = 1 := by omega
  rcases this with z | z | z
  · exact hm (Int32.toInt_inj.mp z)
  · exact h0 (Int32.toInt_inj.mp z)
  · exact h1 (Int32.toInt_inj.mp z)
theorem p1_one : ((1 : Int32) = 0) = False := by simp
theorem p1_tells (a b : Int32) : p1b (f_X6_tells 0 a b hi_25) (f_X7_tells 50 a b) = true := by
  by_cases hs : a < 0 ∨ 4 ≤ a
  · refine p1b_of (r := -2) (h := hi_25) (h' := hi_25) ?_ ?_
    · simp only [f_X6_tells, p1_ck6, p1_s6n hs, Option.bind_some, ↓reduceIte]
    · simp only [f_X7_tells, p1_ck7, p1_s7n hs, Option.bind_some, ↓reduceIte]
  have hs := p1_s hs
  by_cases h0 : b = 0
  · subst h0
    rcases hs with rfl | rfl | rfl | rfl <;> decide +kernel
  by_cases h1 : b = 1
  · subst h1
    rcases hs with rfl | rfl | rfl | rfl <;> decide +kernel
  refine p1b_of (r := -2) (h := hi_25) (h' := hi_25) ?_ ?_
  · simp only [f_X6_tells, p1_ck6, p1_s6y hs, p1_pn h0 h1, Option.bind_some, ↓reduceIte, p1_one]
  · simp only [f_X7_tells, p1_ck7, p1_s7y hs, p1_pn7 h0 h1, Option.bind_some, ↓reduceIte, p1_one]
theorem p1_film (a b : Int32) : p1b (f_X6_film 0 a b hi_25) (f_X7_film 50 a b) = true := by
  by_cases hs : a < 0 ∨ 4 ≤ a
  · refine p1b_of (r := -2) (h := hi_25) (h' := hi_25) ?_ ?_
    · simp only [f_X6_film, p1_ck6, p1_s6n hs, Option.bind_some, ↓reduceIte]
    · simp only [f_X7_film, p1_ck7, p1_s7n hs, Option.bind_some, ↓reduceIte]
  have hs := p1_s hs
  rcases hs with rfl | rfl | rfl | rfl <;> rfl
theorem p1_rng {lo x hi : Int} (rl : -2147483648 ≤ lo ∧ lo < 2147483648) (rx : -2147483648 ≤ x ∧ x < 2147483648) (rh : -2147483648 ≤ hi ∧ hi < 2147483648) (h : zI lo ≤ zI x ∧ zI x ≤ zI hi) : lo ≤ x ∧ x ≤ hi := ⟨(zI_le rl rx).mp h.1, (zI_le rx rh).mp h.2⟩
theorem p1_sheet_v (a b c : Int32) (hs : a = 0 ∨ a = 1 ∨ a = 2 ∨ a = 3) (hb : b = 0 ∨ b = 1 ∨ b = -1) (h40 : b = -1 ∨ c ≤ 40) (h0 : b = -1 ∨ 0 ≤ c) : p1b (f_X6_sheet 0 a b c hi_25) (f_X7_sheet 50 a b c) = true := by
  rw [← zM_hi]
  obtain ⟨a', rfl, ha⟩ : ∃ z : Int, a = zI z ∧ (0 ≤ z ∧ z < 4) := by
    rcases hs with rfl | rfl | rfl | rfl
    · exact ⟨0, rfl, by omega⟩
    · exact ⟨1, rfl, by omega⟩
    · exact ⟨2, rfl, by omega⟩
    · exact ⟨3, rfl, by omega⟩
  obtain ⟨n, rfl, rn⟩ := zI_of c
  obtain ⟨b', rfl, hb'⟩ : ∃ z : Int, b = zI z ∧ (z = -1 ∨ z = 0 ∨ z = 1) := by
    rcases hb with rfl | rfl | rfl
    · exact ⟨0, rfl, by omega⟩
    · exact ⟨1, rfl, by omega⟩
    · exact ⟨-1, rfl, by omega⟩
  have hm : zI b' = -1 → b' = -1 := fun q => (zI_inj (x := b') (y := -1) (by omega) (by omega)).mp q
  have hn : b' = -1 ∨ (0 ≤ n ∧ n ≤ 40) := by
    rcases h40 with q | q
    · exact Or.inl (hm q)
    · rcases h0 with w | w
      · exact Or.inl (hm w)
      · exact Or.inr (p1_rng (lo := 0) (hi := 40) (by omega) rn (by omega) ⟨w, q⟩)
  exact p1b_of (s6_sheet ha hb' hn rn) (s7_sheet ha hb' hn rn)
theorem p1_sheet (a b c : Int32) : p1b (f_X6_sheet 0 a b c hi_25) (f_X7_sheet 50 a b c) = true := by
  by_cases hs : a < 0 ∨ 4 ≤ a
  · refine p1b_of (r := -2) (h := hi_25) (h' := hi_25) ?_ ?_
    · simp only [f_X6_sheet, p1_ck6, p1_s6n hs, Option.bind_some, ↓reduceIte]
    · simp only [f_X7_sheet, p1_ck7, p1_s7n hs, Option.bind_some, ↓reduceIte]
  have hs := p1_s hs
  by_cases hm : b = -1
  · subst hm
    exact p1_sheet_v a (-1) c hs (Or.inr (Or.inr rfl)) (Or.inl rfl) (Or.inl rfl)
  by_cases hb : b = 0 ∨ b = 1
  · have e6 : ∀ h, f_X6_isSort b h = some (1, h) := fun h => by rcases hb with rfl | rfl <;> rfl
    have e7 : ∀ h, f_X7_in b.toInt64 (-1) 1 h = some (1, h) := fun h => by rcases hb with rfl | rfl <;> rfl
    by_cases h40 : c ≤ 40
    · by_cases h0 : 0 ≤ c
      · exact p1_sheet_v a b c hs (hb.elim Or.inl (fun q => Or.inr (Or.inl q))) (Or.inr h40) (Or.inr h0)
      · refine p1b_of (r := -14) (h := hi_25) (h' := hi_25) ?_ ?_
        · simp only [f_X6_sheet, p1_ck6, p1_s6y hs, e6, if_neg hm, if_pos h40, if_neg h0, Option.bind_some, ↓reduceIte, p1_one]
        · simp only [f_X7_sheet, f_X7_sheet_33, p1_ck7, p1_s7y hs, e7, if_neg hm, if_pos h40, if_neg h0, Option.bind_some, ↓reduceIte, p1_one]
    · refine p1b_of (r := -2) (h := hi_25) (h' := hi_25) ?_ ?_
      · simp only [f_X6_sheet, p1_ck6, p1_s6y hs, e6, if_neg hm, if_neg h40, Option.bind_some, ↓reduceIte, p1_one]
      · simp only [f_X7_sheet, p1_ck7, p1_s7y hs, e7, if_neg hm, if_neg h40, Option.bind_some, ↓reduceIte, p1_one]
  · have h0 : ¬ b = 0 := fun q => hb (Or.inl q)
    have h1 : ¬ b = 1 := fun q => hb (Or.inr q)
    refine p1b_of (r := -2) (h := hi_25) (h' := hi_25) ?_ ?_
    · simp only [f_X6_sheet, p1_ck6, p1_s6y hs, p1_on h0 h1, if_neg hm, Option.bind_some, ↓reduceIte, p1_one]
    · simp only [f_X7_sheet, p1_ck7, p1_s7y hs, p1_on7 h0 h1 hm, Option.bind_some, ↓reduceIte, p1_one]
theorem p1_put (a b c : Int32) : p1b (f_X6_put 0 a b c hi_25) (f_X7_put 50 a b c) = true := by
  by_cases hs : a < 0 ∨ 4 ≤ a
  · refine p1b_of (r := -2) (h := hi_25) (h' := hi_25) ?_ ?_
    · simp only [f_X6_put, p1_ck6, p1_s6n hs, Option.bind_some, ↓reduceIte]
    · simp only [f_X7_put, p1_ck7, p1_s7n hs, Option.bind_some, ↓reduceIte]
  have hs := p1_s hs
  rcases hs with rfl | rfl | rfl | rfl <;> rfl
theorem p1_copy (a b c d e : Int32) : p1b (f_X6_copy 0 a b c d e hi_25) (f_X7_copy 50 a b c d e) = true := by
  by_cases hs : a < 0 ∨ 4 ≤ a
  · refine p1b_of (r := -2) (h := hi_25) (h' := hi_25) ?_ ?_
    · simp only [f_X6_copy, p1_ck6, p1_s6n hs, Option.bind_some, ↓reduceIte]
    · simp only [f_X7_copy, p1_ck7, p1_s7n hs, Option.bind_some, ↓reduceIte]
  have hs := p1_s hs
  by_cases ht : c < 0 ∨ 4 ≤ c
  · refine p1b_of (r := -2) (h := hi_25) (h' := hi_25) ?_ ?_
    · simp only [f_X6_copy, p1_ck6, p1_s6y hs, p1_s6n ht, Option.bind_some, ↓reduceIte, p1_one]
    · simp only [f_X7_copy, p1_ck7, p1_s7y hs, p1_s7n ht, Option.bind_some, ↓reduceIte, p1_one]
  have ht := p1_s ht
  rcases hs with rfl | rfl | rfl | rfl <;> rcases ht with rfl | rfl | rfl | rfl <;> rfl
theorem p1_load (a b c d : Int32) : p1b (f_X6_load 0 a b c d hi_25) (f_X7_load 50 a b c d) = true := by
  by_cases hs : a < 0 ∨ 4 ≤ a
  · refine p1b_of (r := -2) (h := hi_25) (h' := hi_25) ?_ ?_
    · simp only [f_X6_load, p1_ck6, p1_s6n hs, Option.bind_some, ↓reduceIte]
    · simp only [f_X7_load, p1_ck7, p1_s7n hs, Option.bind_some, ↓reduceIte]
  have hs := p1_s hs
  by_cases hb : b = 0 ∨ b = 1
  · have e6 : ∀ h, f_X6_isSort b h = some (1, h) := fun h => by rcases hb with rfl | rfl <;> rfl
    have e7 : ∀ h, f_X7_in b.toInt64 0 1 h = some (1, h) := fun h => by rcases hb with rfl | rfl <;> rfl
    by_cases hd : 0 ≤ d ∧ d ≤ 9
    · have e9 : ∀ h, f_X7_in d.toInt64 0 9 h = some (1, h) := fun h => (i7_in d 0 9 h).trans (by rw [if_pos hd])
      have h0 : ¬ d < 0 := Int32.not_lt.mpr hd.1
      simp only [p1b, f_X6_load, f_X7_load, p1_ck6, p1_s6y hs, p1_s7y hs, e6, e7, e9, if_neg h0, if_pos hd.2, Option.bind_some, ↓reduceIte, p1_one]
      rcases hs with rfl | rfl | rfl | rfl <;> rcases hb with rfl | rfl <;> rfl
    · have e9 : ∀ h, f_X7_in d.toInt64 0 9 h = some (0, h) := fun h => (i7_in d 0 9 h).trans (by rw [if_neg hd])
      refine p1b_of (r := -2) (h := hi_25) (h' := hi_25) ?_ ?_
      · by_cases h0 : d < 0
        · simp only [f_X6_load, p1_ck6, p1_s6y hs, e6, if_pos h0, Option.bind_some, ↓reduceIte, p1_one]
        · have h9 : ¬ d ≤ 9 := fun q => hd ⟨Int32.not_lt.mp h0, q⟩
          simp only [f_X6_load, p1_ck6, p1_s6y hs, e6, if_neg h0, if_neg h9, Option.bind_some, ↓reduceIte, p1_one]
      · simp only [f_X7_load, p1_ck7, p1_s7y hs, e7, e9, Option.bind_some, ↓reduceIte, p1_one]
  · have h0 : ¬ b = 0 := fun q => hb (Or.inl q)
    have h1 : ¬ b = 1 := fun q => hb (Or.inr q)
    refine p1b_of (r := -2) (h := hi_25) (h' := hi_25) ?_ ?_
    · simp only [f_X6_load, p1_ck6, p1_s6y hs, p1_on h0 h1, Option.bind_some, ↓reduceIte, p1_one]
    · simp only [f_X7_load, p1_ck7, p1_s7y hs, p1_pn7 h0 h1, Option.bind_some, ↓reduceIte, p1_one]
theorem p1_b6 (a : Int32) (h : Hp) : f_X6_isByte a h = some (if 0 ≤ a ∧ a ≤ 255 then 1 else 0, h) := by
  unfold f_X6_isByte
  by_cases h0 : a < 0
  · rw [if_pos h0, if_neg (fun q => Int32.not_le.mpr h0 q.1)]
  · by_cases h1 : 255 < a
    · rw [if_neg h0, if_pos h1, if_neg (fun q => Int32.not_le.mpr h1 q.2)]
    · rw [if_neg h0, if_neg h1, if_pos ⟨Int32.not_lt.mp h0, Int32.not_lt.mp h1⟩]
theorem p1_b7 (a : Int32) (h : Hp) : f_X7_isByte a h = some (if 0 ≤ a ∧ a ≤ 255 then 1 else 0, h) := by
  have e : f_X7_in a.toInt64 0 255 h = some (if 0 ≤ a ∧ a ≤ 255 then 1 else 0, h) := i7_in a 0 255 h
  simp only [f_X7_isByte, e, Option.bind_some, bz_ite]
theorem p1_f6 {n a b c d e : Int32} (h : f_X6_feed 0 n a b c d e hi_25 = some (-2, hi_25)) (g : f_X7_feed 50 n a b c d e hi_25 = some (-2, hi_25)) : p1b (f_X6_feed 0 n a b c d e hi_25) (f_X7_feed 50 n a b c d e) = true := p1b_of h g
theorem p1_feed_v (n a b c d e : Int32) (hn : 1 ≤ n ∧ n ≤ 5) (ha : 0 ≤ a ∧ a ≤ 255) (hb : 0 ≤ b ∧ b ≤ 255) (hc : 0 ≤ c ∧ c ≤ 255) (hd : 0 ≤ d ∧ d ≤ 255) (he : 0 ≤ e ∧ e ≤ 255) : p1b (f_X6_feed 0 n a b c d e hi_25) (f_X7_feed 50 n a b c d e) = true := by
  rw [← zM_hi]
  obtain ⟨n, rfl, rn⟩ := zI_of n
  obtain ⟨a, rfl, ra⟩ := zI_of a
  obtain ⟨b, rfl, rb⟩ := zI_of b
  obtain ⟨c, rfl, rc⟩ := zI_of c
  obtain ⟨d, rfl, rd⟩ := zI_of d
  obtain ⟨e, rfl, re⟩ := zI_of e
  have hn := p1_rng (lo := 1) (hi := 5) (by omega) rn (by omega) hn
  have ha := p1_rng (lo := 0) (hi := 255) (by omega) ra (by omega) ha
  have hb := p1_rng (lo := 0) (hi := 255) (by omega) rb (by omega) hb
  have hc := p1_rng (lo := 0) (hi := 255) (by omega) rc (by omega) hc
  have hd := p1_rng (lo := 0) (hi := 255) (by omega) rd (by omega) hd
  have he := p1_rng (lo := 0) (hi := 255) (by omega) re (by omega) he
  have h : zFd n a b c d e := ⟨hn, ha, hb, hc, hd, he⟩
  have e1 : zM0 1 1 = 0 := rfl
  have h6 := s6_feed (m := zM0) h (by omega)
  rw [e1] at h6
  have e2 : (zU (zF zM0 2 0 n (zArg a b c d e)) 1 1 (0 + n)) 50 11 = 0 := rfl
  have h7 := s7_feed (m := zU (zF zM0 2 0 n (zArg a b c d e)) 1 1 (0 + n)) h (by omega)
  rw [e2] at h7
  exact p1b_of h6 h7
theorem p1_feed (n a b c d e : Int32) : p1b (f_X6_feed 0 n a b c d e hi_25) (f_X7_feed 50 n a b c d e) = true := by
  by_cases hn : 1 ≤ n ∧ n ≤ 5
  · have n1 : ¬ n < 1 := Int32.not_lt.mpr hn.1
    have e5 : ∀ h, f_X7_in n.toInt64 1 5 h = some (1, h) := fun h => (i7_in n 1 5 h).trans (by rw [if_pos hn])
    by_cases ha : 0 ≤ a ∧ a ≤ 255
    rotate_left
    · refine p1_f6 ?_ ?_
      · simp only [f_X6_feed, p1_ck6, if_neg n1, if_pos hn.2, p1_b6, if_neg ha, Option.bind_some, ↓reduceIte, p1_one]
      · simp only [f_X7_feed, p1_ck7, e5, p1_b7, if_neg ha, Option.bind_some, ↓reduceIte, p1_one]
    by_cases hb : 0 ≤ b ∧ b ≤ 255
    rotate_left
    · refine p1_f6 ?_ ?_
      · simp only [f_X6_feed, p1_ck6, if_neg n1, if_pos hn.2, p1_b6, if_pos ha, if_neg hb, Option.bind_some, ↓reduceIte, p1_one]
      · simp only [f_X7_feed, p1_ck7, e5, p1_b7, if_pos ha, if_neg hb, Option.bind_some, ↓reduceIte, p1_one]
    by_cases hc : 0 ≤ c ∧ c ≤ 255
    rotate_left
    · refine p1_f6 ?_ ?_
      · simp only [f_X6_feed, p1_ck6, if_neg n1, if_pos hn.2, p1_b6, if_pos ha, if_pos hb, if_neg hc, Option.bind_some, ↓reduceIte, p1_one]
      · simp only [f_X7_feed, p1_ck7, e5, p1_b7, if_pos ha, if_pos hb, if_neg hc, Option.bind_some, ↓reduceIte, p1_one]
    by_cases hd : 0 ≤ d ∧ d ≤ 255
    rotate_left
    · refine p1_f6 ?_ ?_
      · simp only [f_X6_feed, p1_ck6, if_neg n1, if_pos hn.2, p1_b6, if_pos ha, if_pos hb, if_pos hc, if_neg hd, Option.bind_some, ↓reduceIte, p1_one]
      · simp only [f_X7_feed, p1_ck7, e5, p1_b7, if_pos ha, if_pos hb, if_pos hc, if_neg hd, Option.bind_some, ↓reduceIte, p1_one]
    by_cases he : 0 ≤ e ∧ e ≤ 255
    rotate_left
    · refine p1_f6 ?_ ?_
      · simp only [f_X6_feed, p1_ck6, if_neg n1, if_pos hn.2, p1_b6, if_pos ha, if_pos hb, if_pos hc, if_pos hd, if_neg he, Option.bind_some, ↓reduceIte, p1_one]
      · simp only [f_X7_feed, p1_ck7, e5, p1_b7, if_pos ha, if_pos hb, if_pos hc, if_pos hd, if_neg he, Option.bind_some, ↓reduceIte, p1_one]
    exact p1_feed_v n a b c d e hn ha hb hc hd he
  · have e5 : ∀ h, f_X7_in n.toInt64 1 5 h = some (0, h) := fun h => (i7_in n 1 5 h).trans (by rw [if_neg hn])
    refine p1_f6 ?_ ?_
    · by_cases n1 : n < 1
      · simp only [f_X6_feed, p1_ck6, if_pos n1, Option.bind_some, ↓reduceIte, p1_one]
      · have n5 : ¬ n ≤ 5 := fun q => hn ⟨Int32.not_lt.mp n1, q⟩
        simp only [f_X6_feed, p1_ck6, if_neg n1, if_neg n5, Option.bind_some, ↓reduceIte, p1_one]
    · simp only [f_X7_feed, p1_ck7, e5, Option.bind_some, ↓reduceIte, p1_one]
theorem p1_end {xs : Nat → Int32} {h : Hp} : lp (f_L_law_18 xs 7) 599 (0, 50, 7) h = some (1, h) := by
  show f_L_law_18 xs 7 (lp (f_L_law_18 xs 7) 598) (0, 50, 7) h = _
  unfold f_L_law_18
  dsimp only
  rw [if_pos (by decide)]
theorem p1_fin {xs : Nat → Int32} {A : Option (Int32 × Hp)} {B : Hp → Option (Int32 × Hp)} (h : p1b A B = true) : ∃ q, (A.bind fun q1 => (B q1.2).bind fun q2 => if q1.1 = q2.1 then lp (f_L_law_18 xs 7) 599 (0, 50, 7) q2.2 else some ((0 : Int32), q2.2)) = some q ∧ q.1 = 1 := by
  obtain ⟨q, r, h1, h2, h3⟩ := p1b_use h
  refine ⟨(1, r.2), ?_, rfl⟩
  simp only [h1, h2, Option.bind_some, if_pos h3, p1_end]
theorem p1_x0 (xs : Nat → Int32) : sL xs 7 0 = some (xs 0) := rfl
theorem p1_x1 (xs : Nat → Int32) : sL xs 7 (0 + 1) = some (xs 1) := rfl
theorem p1_x2 (xs : Nat → Int32) : sL xs 7 (0 + 2) = some (xs 2) := rfl
theorem p1_x3 (xs : Nat → Int32) : sL xs 7 (0 + 3) = some (xs 3) := rfl
theorem p1_x4 (xs : Nat → Int32) : sL xs 7 (0 + 4) = some (xs 4) := rfl
theorem p1_x5 (xs : Nat → Int32) : sL xs 7 (0 + 5) = some (xs 5) := rfl
theorem p1_x6 (xs : Nat → Int32) : sL xs 7 (0 + 6) = some (xs 6) := rfl
theorem p1_07 : (0 : Int32) + 7 = 7 := rfl
set_option maxRecDepth 100000 in
set_option maxHeartbeats 4000000 in
theorem p1_seven (xs : Nat → Int32) : ∃ q, lp (f_L_law_18 xs 7) 600 (0, 50, 0) hi_25 = some q ∧ q.1 = 1 := by
  show ∃ q, f_L_law_18 xs 7 (lp (f_L_law_18 xs 7) 599) (0, 50, 0) hi_25 = some q ∧ q.1 = 1
  unfold f_L_law_18
  dsimp only
  rw [if_neg (by decide)]
  simp only [p1_x0, p1_x1, p1_x2, p1_x3, p1_x4, p1_x5, p1_x6, Option.bind_some, p1_07]
  by_cases c0 : xs 0 &&& 31 = 0
  · rw [if_pos c0]
    exact p1_fin (A := f_X6_feed 0 (xs 1) (xs 2) (xs 3) (xs 4) (xs 5) (xs 6) hi_25) (B := f_X7_feed 50 (xs 1) (xs 2) (xs 3) (xs 4) (xs 5) (xs 6)) (p1_feed _ _ _ _ _ _)
  rw [if_neg c0]
  by_cases c1 : xs 0 &&& 31 = 1
  · rw [if_pos c1]
    exact p1_fin (A := f_X6_text 0 hi_25) (B := f_X7_text 50) (p1_text)
  rw [if_neg c1]
  by_cases c2 : xs 0 &&& 31 = 2
  · rw [if_pos c2]
    exact p1_fin (A := f_X6_named 0 hi_25) (B := f_X7_named 50) (p1_named)
  rw [if_neg c2]
  by_cases c3 : xs 0 &&& 31 = 3
  · rw [if_pos c3]
    exact p1_fin (A := f_X6_system 0 (xs 1) hi_25) (B := f_X7_system 50 (xs 1)) (p1_system _)
  rw [if_neg c3]
  by_cases c4 : xs 0 &&& 31 = 4
  · rw [if_pos c4]
    exact p1_fin (A := f_X6_play 0 (xs 1) (xs 2) hi_25) (B := f_X7_play 50 (xs 1) (xs 2)) (p1_play _ _)
  rw [if_neg c4]
  by_cases c5 : xs 0 &&& 31 = 5
  · rw [if_pos c5]
    exact p1_fin (A := f_X6_unplay 0 (xs 1) hi_25) (B := f_X7_unplay 50 (xs 1)) (p1_unplay _)
  rw [if_neg c5]
  by_cases c6 : xs 0 &&& 31 = 6
  · rw [if_pos c6]
    exact p1_fin (A := f_X6_told 0 (xs 1) (xs 2) hi_25) (B := f_X7_told 50 (xs 1) (xs 2)) (p1_told _ _)
  rw [if_neg c6]
  by_cases c7 : xs 0 &&& 31 = 7
  · rw [if_pos c7]
    exact p1_fin (A := f_X6_game 0 (xs 1) (xs 2) hi_25) (B := f_X7_game 50 (xs 1) (xs 2)) (p1_game _ _)
  rw [if_neg c7]
  by_cases c8 : xs 0 &&& 31 = 8
  · rw [if_pos c8]
    exact p1_fin (A := f_X6_between 0 (xs 1) (xs 2) hi_25) (B := f_X7_between 50 (xs 1) (xs 2)) (p1_between _ _)
  rw [if_neg c8]
  by_cases c9 : xs 0 &&& 31 = 9
  · rw [if_pos c9]
    exact p1_fin (A := f_X6_taken 0 (xs 1) hi_25) (B := f_X7_taken 50 (xs 1)) (p1_taken _)
  rw [if_neg c9]
  by_cases c10 : xs 0 &&& 31 = 10
  · rw [if_pos c10]
    exact p1_fin (A := f_X6_isIn 0 (xs 1) hi_25) (B := f_X7_isIn 50 (xs 1)) (p1_isIn _)
  rw [if_neg c10]
  by_cases c11 : xs 0 &&& 31 = 11
  · rw [if_pos c11]
    exact p1_fin (A := f_X6_all 0 hi_25) (B := f_X7_all 50) (p1_all)
  rw [if_neg c11]
  by_cases c12 : xs 0 &&& 31 = 12
  · rw [if_pos c12]
    exact p1_fin (A := f_X6_set 0 (xs 1) (xs 2) hi_25) (B := f_X7_set 50 (xs 1) (xs 2)) (p1_set _ _)
  rw [if_neg c12]
  by_cases c13 : xs 0 &&& 31 = 13
  · rw [if_pos c13]
    exact p1_fin (A := f_X6_run 0 (xs 1) (xs 2) hi_25) (B := f_X7_run 50 (xs 1) (xs 2)) (p1_run _ _)
  rw [if_neg c13]
  by_cases c14 : xs 0 &&& 31 = 14
  · rw [if_pos c14]
    exact p1_fin (A := f_X6_pattern 0 (xs 1) hi_25) (B := f_X7_pattern 50 (xs 1)) (p1_pattern _)
  rw [if_neg c14]
  by_cases c15 : xs 0 &&& 31 = 15
  · rw [if_pos c15]
    exact p1_fin (A := f_X6_needs 0 (xs 1) (xs 2) hi_25) (B := f_X7_needs 50 (xs 1) (xs 2)) (p1_needs _ _)
  rw [if_neg c15]
  by_cases c16 : xs 0 &&& 31 = 16
  · rw [if_pos c16]
    exact p1_fin (A := f_X6_since 0 (xs 1) (xs 2) hi_25) (B := f_X7_since 50 (xs 1) (xs 2)) (p1_since _ _)
  rw [if_neg c16]
  by_cases c17 : xs 0 &&& 31 = 17
  · rw [if_pos c17]
    exact p1_fin (A := f_X6_help 0 (xs 1) (xs 2) hi_25) (B := f_X7_help 50 (xs 1) (xs 2)) (p1_help _ _)
  rw [if_neg c17]
  by_cases c18 : xs 0 &&& 31 = 18
  · rw [if_pos c18]
    exact p1_fin (A := f_X6_without 0 (xs 1) hi_25) (B := f_X7_without 50 (xs 1)) (p1_without _)
  rw [if_neg c18]
  by_cases c19 : xs 0 &&& 31 = 19
  · rw [if_pos c19]
    exact p1_fin (A := f_X6_tables 0 hi_25) (B := f_X7_tables 50) (p1_tables)
  rw [if_neg c19]
  by_cases c20 : xs 0 &&& 31 = 20
  · rw [if_pos c20]
    exact p1_fin (A := f_X6_drawn 0 (xs 1) hi_25) (B := f_X7_drawn 50 (xs 1)) (p1_drawn _)
  rw [if_neg c20]
  by_cases c21 : xs 0 &&& 31 = 21
  · rw [if_pos c21]
    exact p1_fin (A := f_X6_chance 0 (xs 1) (xs 2) (xs 3) (xs 4) hi_25) (B := f_X7_chance 50 (xs 1) (xs 2) (xs 3) (xs 4)) (p1_chance _ _ _ _)
  rw [if_neg c21]
  by_cases c22 : xs 0 &&& 31 = 22
  · rw [if_pos c22]
    exact p1_fin (A := f_X6_tells 0 (xs 1) (xs 2) hi_25) (B := f_X7_tells 50 (xs 1) (xs 2)) (p1_tells _ _)
  rw [if_neg c22]
  by_cases c23 : xs 0 &&& 31 = 23
  · rw [if_pos c23]
    exact p1_fin (A := f_X6_film 0 (xs 1) (xs 2) hi_25) (B := f_X7_film 50 (xs 1) (xs 2)) (p1_film _ _)
  rw [if_neg c23]
  by_cases c24 : xs 0 &&& 31 = 24
  · rw [if_pos c24]
    exact p1_fin (A := f_X6_image 0 hi_25) (B := f_X7_image 50) (p1_image)
  rw [if_neg c24]
  by_cases c25 : xs 0 &&& 31 = 25
  · rw [if_pos c25]
    exact p1_fin (A := f_X6_back 0 hi_25) (B := f_X7_back 50) (p1_back)
  rw [if_neg c25]
  by_cases c26 : xs 0 &&& 31 = 26
  · rw [if_pos c26]
    exact p1_fin (A := f_X6_count 0 (xs 1) hi_25) (B := f_X7_count 50 (xs 1)) (p1_count _)
  rw [if_neg c26]
  by_cases c27 : xs 0 &&& 31 = 27
  · rw [if_pos c27]
    exact p1_fin (A := f_X6_sheet 0 (xs 1) (xs 2) (xs 3) hi_25) (B := f_X7_sheet 50 (xs 1) (xs 2) (xs 3)) (p1_sheet _ _ _)
  rw [if_neg c27]
  by_cases c28 : xs 0 &&& 31 = 28
  · rw [if_pos c28]
    exact p1_fin (A := f_X6_put 0 (xs 1) (xs 2) (xs 3) hi_25) (B := f_X7_put 50 (xs 1) (xs 2) (xs 3)) (p1_put _ _ _)
  rw [if_neg c28]
  by_cases c29 : xs 0 &&& 31 = 29
  · rw [if_pos c29]
    exact p1_fin (A := f_X6_copy 0 (xs 1) (xs 2) (xs 3) (xs 4) (xs 5) hi_25) (B := f_X7_copy 50 (xs 1) (xs 2) (xs 3) (xs 4) (xs 5)) (p1_copy _ _ _ _ _)
  rw [if_neg c29]
  by_cases c30 : xs 0 &&& 31 = 30
  · rw [if_pos c30]
    exact p1_fin (A := f_X6_load 0 (xs 1) (xs 2) (xs 3) (xs 4) hi_25) (B := f_X7_load 50 (xs 1) (xs 2) (xs 3) (xs 4)) (p1_load _ _ _ _)
  rw [if_neg c30]
  exact ⟨(1, hi_25), p1_end, rfl⟩
theorem law_pure (xs : Nat → Int32) (L : Nat) (hL : L ≤ 7) : ∃ q, lp (f_L_law_18 xs L) 600 (0, 50, 0) hi_25 = some q ∧ q.1 = 1 := by
  by_cases h7 : L = 7
  · subst h7
    exact p1_seven xs
  · refine ⟨(1, hi_25), ?_, rfl⟩
    show f_L_law_18 xs L (lp (f_L_law_18 xs L) 599) (0, 50, 0) hi_25 = _
    unfold f_L_law_18
    dsimp only
    rw [if_pos]
    match L, hL, h7 with
    | 0, _, _ => decide
    | 1, _, _ => decide
    | 2, _, _ => decide
    | 3, _, _ => decide
    | 4, _, _ => decide
    | 5, _, _ => decide
    | 6, _, _ => decide
    | 7, _, h => exact absurd rfl h
    | L + 8, h, _ => exact absurd h (by omega)
