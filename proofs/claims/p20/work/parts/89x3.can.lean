/-! who can win, as the class tells it: whoever has a run -/
theorem zPl_map (l : List Nat) (a b : Nat → Int) : zPl (fun i => a (l.getD i.toNat 0)) (fun i => b (l.getD i.toNat 0)) l.length 0 = l.map (fun k => (a k, b k)) := by
  have h : ∀ n i : Nat, i + n = l.length → zPl (fun i => a (l.getD i.toNat 0)) (fun i => b (l.getD i.toNat 0)) n (i : Int) = (l.drop i).map (fun k => (a k, b k)) := fun n => by
    induction n with
    | zero =>
      intro i hi
      have : l.drop i = [] := List.drop_eq_nil_of_le (by omega)
      rw [this]
      rfl
    | succ n ih =>
      intro i hi
      have hlt : i < l.length := by omega
      have e : l.drop i = l[i] :: l.drop (i + 1) := List.drop_eq_getElem_cons hlt
      have e2 : l.getD ((i : Int)).toNat 0 = l[i] := by simp [List.getD, hlt]
      rw [e]
      show (a (l.getD ((i : Int)).toNat 0), b (l.getD ((i : Int)).toNat 0)) :: zPl _ _ n ((i : Int) + 1) = (a l[i], b l[i]) :: (l.drop (i + 1)).map _
      rw [e2]
      have := ih (i + 1) (by omega)
      rw [← this]
      rfl
  exact h l.length 0 (by omega)
/-- the games of a list of numbers -/
def zGl (m : zMe) (r : Nat) (l : List Nat) : List (Int × Int) := l.map (fun (k : Nat) => (m (r + 4) (k : Int), m (r + 5) (k : Int)))
theorem zOf_Gl (m : zMe) (r : Nat) (l : List Nat) : zPl (zOf m r l 4) (zOf m r l 5) l.length 0 = zGl m r l := zPl_map l (fun k => m (r + 4) (k : Int)) (fun k => m (r + 5) (k : Int))
theorem zEd_app (L L' : List (Int × Int)) (A : Int → Bool) : zEd (L ++ L') A = zEd L A + zEd L' A := by
  induction L with
  | nil =>
    show zEd L' A = 0 + zEd L' A
    omega
  | cons e es ih =>
    show (if A e.1 = true ∧ A e.2 = true then 1 else 0) + zEd (es ++ L') A = (if A e.1 = true ∧ A e.2 = true then 1 else 0) + zEd es A + zEd L' A
    rw [ih]
    omega
theorem zEd_congr {L : List (Int × Int)} {A B : Int → Bool} (h : ∀ e, e ∈ L → A e.1 = B e.1 ∧ A e.2 = B e.2) : zEd L A = zEd L B := by
  induction L with
  | nil => rfl
  | cons e es ih =>
    show (if A e.1 = true ∧ A e.2 = true then 1 else 0) + zEd es A = (if B e.1 = true ∧ B e.2 = true then 1 else 0) + zEd es B
    rw [ih (fun x hx => h x (by simp [hx])), (h e (by simp)).1, (h e (by simp)).2]
theorem zLs_in {m : zMe} {r : Nat} {t : Int} {n x : Nat} (h : x ∈ zLs m r t n) : x < n ∧ m (r + 7) (x : Int) = -1 ∧ ¬ m (r + 4) (x : Int) = t ∧ ¬ m (r + 5) (x : Int) = t := by
  induction n with
  | zero => exact absurd h (by simp [zLs])
  | succ n ih =>
    unfold zLs at h
    split at h
    · rename_i hc
      rcases List.mem_append.mp h with q | q
      · have := ih q
        exact ⟨by omega, this.2⟩
      · have := List.mem_singleton.mp q
        subst this
        exact ⟨by omega, hc.1, hc.2.1, hc.2.2⟩
    · have := ih h
      exact ⟨by omega, this.2⟩
theorem zGl_e {m : zMe} {r : Nat} {t : Int} (hW : zWf m r) {e : Int × Int} (h : e ∈ zGl m r (zLs m r t (m r 1).toNat)) : (0 ≤ e.1 ∧ e.1 < m r 0 ∧ ¬ e.1 = t) ∧ (0 ≤ e.2 ∧ e.2 < m r 0 ∧ ¬ e.2 = t) ∧ ¬ e.1 = e.2 := by
  obtain ⟨k, hk, rfl⟩ := List.mem_map.mp h
  obtain ⟨h1, h2, h3, h4⟩ := zLs_in hk
  have hN := hW.1.2.1
  have hg := hW.2.2.1 (k : Int) (by omega) (by omega)
  dsimp only
  omega
theorem zGl_Rg {m : zMe} {r : Nat} {t : Int} (hW : zWf m r) : zRg (zGl m r (zLs m r t (m r 1).toNat)) := fun e he => by
  have := zGl_e hW he
  have hT := hW.1.1
  omega
theorem zEd_In (m : zMe) (r : Nat) (t : Int) (s n : Nat) : zEd (zGl m r (zLs m r t n)) (fun u => s.testBit u.toNat) = zIn m r t s n := by
  induction n with
  | zero => rfl
  | succ n ih =>
    have e : zIn m r t s (n + 1) = zIn m r t s n + (if m (r + 7) (n : Int) = -1 ∧ (¬ m (r + 4) (n : Int) = t ∧ ¬ m (r + 5) (n : Int) = t) ∧ s.testBit (m (r + 4) (n : Int)).toNat = true ∧ s.testBit (m (r + 5) (n : Int)).toNat = true then 1 else 0) := rfl
    have eL : zLs m r t (n + 1) = if m (r + 7) (n : Int) = -1 ∧ (¬ m (r + 4) (n : Int) = t ∧ ¬ m (r + 5) (n : Int) = t) then zLs m r t n ++ [n] else zLs m r t n := rfl
    rw [e, ← ih, eL]
    by_cases h : m (r + 7) (n : Int) = -1 ∧ (¬ m (r + 4) (n : Int) = t ∧ ¬ m (r + 5) (n : Int) = t)
    · rw [if_pos h]
      unfold zGl
      rw [List.map_append, zEd_app]
      congr 1
      show (if s.testBit (m (r + 4) (n : Int)).toNat = true ∧ s.testBit (m (r + 5) (n : Int)).toNat = true then 1 else 0) + (0 : Int) = _
      by_cases h2 : s.testBit (m (r + 4) (n : Int)).toNat = true ∧ s.testBit (m (r + 5) (n : Int)).toNat = true
      · rw [if_pos h2, if_pos ⟨h.1, h.2, h2⟩]
        rfl
      · rw [if_neg h2, if_neg (fun q => h2 q.2.2)]
        rfl
    · rw [if_neg h, if_neg (fun q => h ⟨q.1, q.2.1⟩)]
      omega
theorem zSm_cut {n j : Nat} {f : Nat → Int} (h : ∀ k, n ≤ k → k < n + j → f k = 0) : zSm (n + j) f = zSm n f := by
  induction j with
  | zero => rfl
  | succ j ih =>
    show zSm (n + j) f + f (n + j) = zSm n f
    rw [ih (fun k a b => h k a (by omega)), h (n + j) (by omega) (by omega)]
    omega
theorem zPt_out {m : zMe} {r : Nat} (hW : zWf m r) {u : Int} (hu : m r 0 ≤ u) : zPt m r u = 0 := by
  have hN := hW.1.2.1
  unfold zPt zPi
  rw [if_neg (by omega), zSm_0 _ _ (fun k hk => ?_)]
  · rfl
  · have hg := hW.2.2.1 (k : Int) (by omega) (by omega)
    split
    · rfl
    · exact zGm_out (by omega) (by omega)
/-- rooms below what t can reach -/
def zFr1 (m : zMe) (r : Nat) (t : Int) : Int → Int := fun u => zRe m r t - zPt m r u
theorem zRo_own {m : zMe} {r : Nat} {t u : Int} : zRo m r t (zOwn m r t) (m r 1).toNat u = zFr1 m r t u := by
  have h : zLo m r t (zOwn m r t) (m r 1).toNat u = 0 := by
    refine zSm_0 _ _ (fun k hk => ?_)
    rw [if_neg]
    rintro ⟨h1, h2, h3⟩
    unfold zOwn at h2
    rw [zBn_bit] at h2
    have : decide (m (r + 7) (k : Int) = -1 ∧ (m (r + 4) (k : Int) = t ∨ m (r + 5) (k : Int) = t)) = true := decide_eq_true ⟨h1, by omega⟩
    rw [this, decide_eq_true hk] at h2
    cases h2
  unfold zRo zFr1 zRe
  rw [h]
  omega
theorem zFr1_t {m : zMe} {r : Nat} {t : Int} (hW : zWf m r) : 0 ≤ zFr1 m r t t := by
  have hK := hW.1.2.2
  have h : 0 ≤ (m r 2 + 1) * (zPop (zOwn m r t) : Nat) := Int.mul_nonneg (by omega) (by omega)
  unfold zFr1 zRe
  omega
theorem zSl_max {m : zMe} {r : Nat} {t : Int} (n s : Nat) (h1 : 1 ≤ s) (h2 : s ≤ n) (h3 : ¬ s.testBit t.toNat = true) : zAb m r t s ≤ (zSl m r t n).2 := by
  induction n with
  | zero => omega
  | succ n ih =>
    unfold zSl
    by_cases hs : s = n + 1
    · subst hs
      rw [if_neg h3]
      split
      · exact Int.le_refl _
      · rename_i h
        have := Int.not_lt.mp (fun q => h (Or.inl q))
        exact this
    · have := ih (by omega)
      split
      · exact this
      · split
        · rename_i h
          rcases h with h | h
          · show _ ≤ zAb m r t (n + 1)
            omega
          · show _ ≤ zAb m r t (n + 1)
            omega
        · exact this
theorem zSl_le {m : zMe} {r : Nat} {t : Int} (n : Nat) (h : ∀ s, 1 ≤ s → s ≤ n → ¬ s.testBit t.toNat = true → zAb m r t s ≤ 0) : (zSl m r t n).2 ≤ 0 := by
  induction n with
  | zero => exact Int.le_refl 0
  | succ n ih =>
    have hi := ih (fun s a b c => h s a (by omega) c)
    unfold zSl
    split
    · exact hi
    · split
      · rename_i h1 h2
        exact h (n + 1) (by omega) (Nat.le_refl _) h1
      · exact hi
theorem zAb_Ca {m : zMe} {r : Nat} {t : Int} (hW : zWf m r) (s : Nat) (hs : s < 2 ^ (m r 0).toNat) : zAb m r t s = (if m r 2 = 0 then 1 else 2) * zEd (zGl m r (zLs m r t (m r 1).toNat)) (fun u => s.testBit u.toNat) - zCa (fun u => s.testBit u.toNat) (zFr1 m r t) := by
  have hT := hW.1.1
  have hbit : ∀ k : Nat, (m r 0).toNat ≤ k → s.testBit k = false := fun k hk => Nat.testBit_lt_two_pow (Nat.lt_of_lt_of_le hs (Nat.pow_le_pow_right (by omega) hk))
  rw [zEd_In]
  have h1 : zCa (fun u => s.testBit u.toNat) (zFr1 m r t) + zSm (m r 0).toNat (fun u => if s.testBit u = true then zPt m r (u : Int) - zRe m r t else 0) = 0 := by
    have e6 : 6 = (m r 0).toNat + (6 - (m r 0).toNat) := by omega
    unfold zCa
    rw [e6, zSm_cut (fun k a b => ?_), ← zSm_add]
    · refine zSm_0 _ _ (fun k hk => ?_)
      show (if s.testBit ((k : Int)).toNat = true then zFr1 m r t (k : Int) else 0) + _ = 0
      rw [Int.toNat_natCast]
      unfold zFr1
      split <;> omega
    · show (if s.testBit ((k : Int)).toNat = true then zFr1 m r t (k : Int) else 0) = 0
      rw [Int.toNat_natCast, hbit k a]
      rfl
  unfold zAb
  omega
theorem zSet_iff {m : zMe} {r : Nat} {t : Int} (hW : zWf m r) (ht : 0 ≤ t ∧ t < m r 0) : (zSet m r t).2 ≤ 0 ↔ ∀ A, (if m r 2 = 0 then 1 else 2) * zEd (zGl m r (zLs m r t (m r 1).toNat)) A ≤ zCa A (zFr1 m r t) := by
  have hT := hW.1.1
  have hre := zRe_range hW (t := t) ht.1
  have h2T : 0 < 2 ^ (m r 0).toNat := Nat.pow_pos (by omega)
  constructor
  · intro h A
    have hA' : zEd (zGl m r (zLs m r t (m r 1).toNat)) A = zEd (zGl m r (zLs m r t (m r 1).toNat)) (fun u => A u && decide (0 ≤ u ∧ u < m r 0 ∧ ¬ u = t)) := zEd_congr (fun e he => by
      have := zGl_e hW he
      rw [decide_eq_true this.1, decide_eq_true this.2.1]
      simp)
    have hs : ∀ u : Int, 0 ≤ u → u < 6 → (zBn (m r 0).toNat (fun k => A (k : Int) && decide (0 ≤ (k : Int) ∧ (k : Int) < m r 0 ∧ ¬ (k : Int) = t))).testBit u.toNat = (A u && decide (0 ≤ u ∧ u < m r 0 ∧ ¬ u = t)) := fun u u0 u1 => by
      rw [zBn_bit]
      have e : ((u.toNat : Nat) : Int) = u := by omega
      rw [e]
      by_cases hu : u < m r 0
      · rw [decide_eq_true (show u.toNat < (m r 0).toNat by omega)]
        simp
      · rw [decide_eq_false (show ¬ u.toNat < (m r 0).toNat by omega), decide_eq_false (show ¬ (0 ≤ u ∧ u < m r 0 ∧ ¬ u = t) by omega)]
        simp
    have hlt := zBn_lt (m r 0).toNat (fun k => A (k : Int) && decide (0 ≤ (k : Int) ∧ (k : Int) < m r 0 ∧ ¬ (k : Int) = t))
    generalize zBn (m r 0).toNat (fun k => A (k : Int) && decide (0 ≤ (k : Int) ∧ (k : Int) < m r 0 ∧ ¬ (k : Int) = t)) = s at hs hlt
    have hE : zEd (zGl m r (zLs m r t (m r 1).toNat)) (fun u => A u && decide (0 ≤ u ∧ u < m r 0 ∧ ¬ u = t)) = zEd (zGl m r (zLs m r t (m r 1).toNat)) (fun u => s.testBit u.toNat) := zEd_congr (fun e he => by
      have := zGl_e hW he
      rw [hs e.1 (by omega) (by omega), hs e.2 (by omega) (by omega)]
      exact ⟨rfl, rfl⟩)
    have hC : zCa (fun u => s.testBit u.toNat) (zFr1 m r t) ≤ zCa A (zFr1 m r t) := by
      refine zSm_le (fun k hk => ?_)
      show (if s.testBit ((k : Int)).toNat = true then zFr1 m r t (k : Int) else 0) ≤ _
      rw [hs (k : Int) (by omega) (by omega)]
      by_cases hq : 0 ≤ (k : Int) ∧ (k : Int) < m r 0 ∧ ¬ (k : Int) = t
      · rw [decide_eq_true hq]
        simp
      · rw [decide_eq_false hq]
        simp
        split
        · by_cases hk : (k : Int) = t
          · rw [hk]
            exact zFr1_t hW
          · have := zPt_out hW (u := (k : Int)) (by omega)
            unfold zFr1
            omega
        · exact Int.le_refl _
    have hab : zAb m r t s ≤ 0 := by
      by_cases h0 : s = 0
      · subst h0
        rw [zAb_Ca hW 0 hlt]
        have z1 : zEd (zGl m r (zLs m r t (m r 1).toNat)) (fun u => (0 : Nat).testBit u.toNat) = 0 := by
          rw [zEd_In]
          exact zSm_0 _ _ (fun k hk => by simp)
        have z2 : zCa (fun u => (0 : Nat).testBit u.toNat) (zFr1 m r t) = 0 := zSm_0 _ _ (fun k hk => by simp)
        rw [z1, z2]
        omega
      · have hst : ¬ s.testBit t.toNat = true := by
          rw [hs t ht.1 (by omega), decide_eq_false (show ¬ (0 ≤ t ∧ t < m r 0 ∧ ¬ t = t) by omega)]
          simp
        have := zSl_max (m := m) (r := r) (t := t) (2 ^ (m r 0).toNat - 1) s (by omega) (by omega) hst
        unfold zSet at h
        omega
    rw [zAb_Ca hW s hlt] at hab
    rw [hA', hE]
    omega
  · intro h
    refine zSl_le _ (fun s h1 h2 h3 => ?_)
    rw [zAb_Ca hW s (by omega)]
    have := h (fun u => s.testBit u.toNat)
    omega
theorem zCn_iff {m : zMe} {r : Nat} {t : Int} {wins : Nat} (hW : zWf m r) : zCn m r t wins ↔ ∃ xs, zFi (m r 2) (if m r 2 = 0 then 0 else 1) (zGl m r (zLs m r t (m r 1).toNat)) (zRo m r t wins (m r 1).toNat) xs := by
  have hK := hW.1.2.2
  have hT := hW.1.1
  have hN := hW.1.2.1
  have hS : (∀ u, 0 ≤ u → u < 6 → 0 ≤ zRo m r t wins (m r 1).toNat u) → zRn m r t wins = zFo (m r 2) (if m r 2 = 0 then 0 else 1) (zGl m r (zLs m r t (m r 1).toNat)) (zRo m r t wins (m r 1).toNat) := fun hf => by
    unfold zRn
    rw [zSv_F hK (fun j a b => ?_) hf, zOf_Gl]
    have hj : j.toNat < (zLs m r t (m r 1).toNat).length := by omega
    have hlt := getD_lt (zLs_lt m r t (m r 1).toNat) hj
    have hg := hW.2.2.1 (((zLs m r t (m r 1).toNat).getD j.toNat 0 : Nat) : Int) (by omega) (by omega)
    unfold zOf
    omega
  constructor
  · rintro ⟨h1, h2⟩
    rw [hS h1] at h2
    exact zFo_iff.mp h2
  · rintro ⟨xs, h⟩
    have hf : ∀ u, 0 ≤ u → u < 6 → 0 ≤ zRo m r t wins (m r 1).toNat u := fun u u0 u1 => Int.le_trans (zTo_0 hK _ _) (h.2.2 u u0 u1)
    refine ⟨hf, ?_⟩
    rw [hS hf]
    exact zFo_iff.mpr ⟨xs, h⟩
/-- IN: there is a run -/
def zHr (m : zMe) (r : Nat) (t : Int) : Prop := ∃ xs, zFi (m r 2) (if m r 2 = 0 then 0 else 1) (zGl m r (zLs m r t (m r 1).toNat)) (zFr1 m r t) xs
theorem zCw_Hr {m : zMe} {r : Nat} {t : Int} (hW : zWf m r) (ht : 0 ≤ t ∧ t < m r 0) : zCw m r t ↔ zHr m r t := by
  have hK := hW.1.2.2
  have hC : zCn m r t (zOwn m r t) ↔ zHr m r t := by
    rw [zCn_iff hW]
    unfold zHr
    constructor
    · rintro ⟨xs, h⟩
      exact ⟨xs, zFi_congr (fun u u0 u1 => zRo_own) h⟩
    · rintro ⟨xs, h⟩
      exact ⟨xs, zFi_congr (fun u u0 u1 => zRo_own.symm) h⟩
  unfold zCw
  constructor
  · rintro ⟨h1, h2⟩
    by_cases h3 : m r 2 = 2
    · exact hC.mp (h2 h3)
    · exact zSet_Fi (by omega) (zGl_Rg hW) ((zSet_iff hW ht).mp h1)
  · intro h
    refine ⟨(zSet_iff hW ht).mpr (fun A => ?_), fun _ => hC.mpr h⟩
    obtain ⟨xs, hx⟩ := h
    exact zFi_set hK (fun q => if_pos q) (zGl_Rg hW) hx A
