/-! patterns: which games are drawn; the class -/
/-- of these games just the ones of pat are drawn -/
def zAgr (pat : Nat) : List Nat → List Int → Prop
  | [], [] => True
  | k :: ks, x :: xs => (pat.testBit k = true ↔ x = 0) ∧ zAgr pat ks xs
  | _, _ => False
/-- what the games of pat take -/
def zDwc (o p : Nat → Int) (pat : Nat) (D : Int) : List Nat → Int → Int
  | [], _ => 0
  | k :: ks, u => (if pat.testBit k = true then (if o k = u ∨ p k = u then D else 0) else 0) + zDwc o p pat D ks u
def zFt (pat : Nat) : List Nat → List Nat
  | [] => []
  | k :: ks => if pat.testBit k = true then zFt pat ks else k :: zFt pat ks
theorem zSm_front (n : Nat) (f : Nat → Int) : zSm (n + 1) f = f 0 + zSm n (fun k => f (k + 1)) := by
  induction n with
  | zero =>
    show (0 : Int) + f 0 = f 0 + 0
    omega
  | succ n ih =>
    show zSm (n + 1) f + f (n + 1) = f 0 + (zSm n (fun k => f (k + 1)) + f (n + 1))
    rw [ih]
    omega
theorem zDw_c {m : zMe} {r pat : Nat} {D u : Int} (l : List Nat) : zDw m r l pat D l.length u = zDwc (fun k => m (r + 4) (k : Int)) (fun k => m (r + 5) (k : Int)) pat D l u := by
  induction l with
  | nil => rfl
  | cons k ks ih =>
    unfold zDw at ih ⊢
    rw [List.length_cons, zSm_front]
    show (if pat.testBit k = true then (if m (r + 4) (k : Int) = u ∨ m (r + 5) (k : Int) = u then D else 0) else 0) + _ = _ + zDwc _ _ pat D ks u
    rw [← ih]
    rfl
theorem zFl_front (k : Nat) (ks : List Nat) (pat n : Nat) : zFl (k :: ks) pat (n + 1) = (if pat.testBit k = true then [] else [k]) ++ zFl ks pat n := by
  induction n with
  | zero =>
    show (if pat.testBit k = true then [] else [] ++ [k]) = _
    split <;> rfl
  | succ n ih =>
    have e1 : zFl (k :: ks) pat (n + 1 + 1) = if pat.testBit (ks.getD n 0) = true then zFl (k :: ks) pat (n + 1) else zFl (k :: ks) pat (n + 1) ++ [ks.getD n 0] := rfl
    have e2 : zFl ks pat (n + 1) = if pat.testBit (ks.getD n 0) = true then zFl ks pat n else zFl ks pat n ++ [ks.getD n 0] := rfl
    rw [e1, e2, ih]
    split
    · rfl
    · rw [List.append_assoc]
theorem zFl_Ft (l : List Nat) (pat : Nat) : zFl l pat l.length = zFt pat l := by
  induction l with
  | nil => rfl
  | cons k ks ih =>
    rw [List.length_cons, zFl_front, ih]
    have e : zFt pat (k :: ks) = if pat.testBit k = true then zFt pat ks else k :: zFt pat ks := rfl
    rw [e]
    split <;> rfl
def zGlk (o p : Nat → Int) (l : List Nat) : List (Int × Int) := l.map (fun k => (o k, p k))
theorem zPat_iff {K d D : Int} {o p : Nat → Int} {pat : Nat} (hD : D = if K = 0 then 0 else 1) (l : List Nat) (hne : ∀ k, k ∈ l → ¬ o k = p k) (hd : ∀ k, k ∈ l → pat.testBit k = true → ¬ d = 0) (f : Int → Int) : (∃ ys, zFi K 0 (zGlk o p (zFt pat l)) (fun u => f u - zDwc o p pat D l u) ys) ↔ ∃ xs, zFi K d (zGlk o p l) f xs ∧ zAgr pat l xs := by
  induction l generalizing f with
  | nil =>
    have hf : (fun u => f u - zDwc o p pat D [] u) = f := by
      funext u
      show f u - 0 = f u
      omega
    rw [hf]
    constructor
    · rintro ⟨ys, h⟩
      have := (zFi_n.mp h)
      exact ⟨[], zFi_n.mpr ⟨rfl, this.2⟩, trivial⟩
    · rintro ⟨xs, h, -⟩
      have := (zFi_n.mp h)
      exact ⟨[], zFi_n.mpr ⟨rfl, this.2⟩⟩
  | cons k ks ih =>
    have ihk := fun f => ih (fun x hx => hne x (by simp [hx])) (fun x hx => hd x (by simp [hx])) f
    have hkn := hne k (by simp)
    have hkd := hd k (by simp)
    have eF : zFt pat (k :: ks) = if pat.testBit k = true then zFt pat ks else k :: zFt pat ks := rfl
    have eD : ∀ u, zDwc o p pat D (k :: ks) u = (if pat.testBit k = true then (if o k = u ∨ p k = u then D else 0) else 0) + zDwc o p pat D ks u := fun u => rfl
    have eG : zGlk o p (k :: ks) = (o k, p k) :: zGlk o p ks := rfl
    by_cases hb : pat.testBit k = true
    · have hf : (fun u => f u - zDwc o p pat D (k :: ks) u) = (fun u => (fun u => f u - zGn K (o k) (p k) 0 u) u - zDwc o p pat D ks u) := by
        funext u
        have hg : zGn K (o k) (p k) 0 u = if o k = u ∨ p k = u then D else 0 := by
          unfold zGn
          rw [hD]
          by_cases h1 : u = o k
          · rw [if_pos h1, if_neg (show ¬ u = p k by omega), if_pos (Or.inl h1.symm), if_neg (show ¬ (0 : Int) = 1 by omega), if_pos rfl]
            omega
          · by_cases h2 : u = p k
            · rw [if_neg h1, if_pos h2, if_pos (Or.inr h2.symm), if_neg (show ¬ (0 : Int) = 2 by omega), if_pos rfl]
              omega
            · rw [if_neg h1, if_neg h2, if_neg (show ¬ (o k = u ∨ p k = u) by omega)]
              omega
        dsimp only
        rw [eD, if_pos hb, hg]
        omega
      rw [eF, if_pos hb, hf, ihk, eG]
      constructor
      · rintro ⟨xs, h1, h2⟩
        exact ⟨0 :: xs, zFi_c.mpr ⟨Or.inr (Or.inr ⟨rfl, hkd hb⟩), h1⟩, ⟨fun _ => rfl, fun _ => hb⟩, h2⟩
      · rintro ⟨zs, h1, h2⟩
        obtain ⟨x, xs, rfl, hx, h3⟩ := zFi_l h1
        have hx0 : x = 0 := h2.1.mp hb
        subst hx0
        exact ⟨xs, h3, h2.2⟩
    · have hf : (fun u => f u - zDwc o p pat D (k :: ks) u) = (fun u => f u - zDwc o p pat D ks u) := by
        funext u
        rw [eD, if_neg hb]
        omega
      have hsw : ∀ x, (fun u => (fun u => f u - zDwc o p pat D ks u) u - zGn K (o k) (p k) x u) = (fun u => (fun u => f u - zGn K (o k) (p k) x u) u - zDwc o p pat D ks u) := fun x => by
        funext u
        dsimp only
        omega
      rw [eF, if_neg hb, hf, eG]
      constructor
      · rintro ⟨ys, h⟩
        obtain ⟨x, xs, rfl, hx, h3⟩ := zFi_l (e := (o k, p k)) (es := zGlk o p (zFt pat ks)) h
        rw [hsw] at h3
        obtain ⟨xs', h4, h5⟩ := (ihk _).mp ⟨xs, h3⟩
        refine ⟨x :: xs', zFi_c.mpr ⟨?_, h4⟩, ⟨fun q => absurd q hb, fun q => ?_⟩, h5⟩
        · rcases hx with h | h | ⟨h, h'⟩
          · exact Or.inl h
          · exact Or.inr (Or.inl h)
          · exact absurd rfl h'
        · rcases hx with h | h | ⟨h, h'⟩
          · exfalso
            omega
          · exfalso
            omega
          · exact absurd rfl h'
      · rintro ⟨zs, h1, h2⟩
        obtain ⟨x, xs, rfl, hx, h3⟩ := zFi_l h1
        have hx0 : ¬ x = 0 := fun q => hb (h2.1.mpr q)
        obtain ⟨ys, h4⟩ := (ihk _).mpr ⟨xs, h3, h2.2⟩
        refine ⟨x :: ys, (zFi_c (e := (o k, p k)) (es := zGlk o p (zFt pat ks))).mpr ⟨?_, ?_⟩⟩
        · rcases hx with h | h | ⟨h, h'⟩
          · exact Or.inl h
          · exact Or.inr (Or.inl h)
          · exact absurd h hx0
        · rw [hsw]
          exact h4
theorem zAgr_0 {K : Int} {o p : Nat → Int} {f : Int → Int} {l : List Nat} {xs : List Int} (h : zFi K 0 (zGlk o p l) f xs) : zAgr 0 l xs := by
  induction l generalizing f xs with
  | nil =>
    have := (zFi_n.mp h).1
    subst this
    trivial
  | cons k ks ih =>
    obtain ⟨x, xs, rfl, hx, h3⟩ := zFi_l h
    refine ⟨⟨fun q => (by rw [Nat.zero_testBit] at q; cases q), fun q => ?_⟩, ih h3⟩
    rcases hx with h | h | ⟨h, h'⟩
    · exfalso
      omega
    · exfalso
      omega
    · exact absurd rfl h'
theorem zMn_0 {P : Nat → Prop} (h : P 0) : zMn P 0 := Or.inr ⟨0, rfl, by omega, h, fun c hc q => by
  have : zPop 0 = 0 := rfl
  omega⟩
/-- a pattern of t -/
def zPp (m : zMe) (t : Int) (pat : Nat) : Prop := (∀ k, pat.testBit k = true → k ∈ zLs m 3 t (m 3 1).toNat) ∧ ∃ xs, zFi (m 3 2) (if m 3 2 = 0 then 0 else 1) (zGl m 3 (zLs m 3 t (m 3 1).toNat)) (zFr1 m 3 t) xs ∧ zAgr pat (zLs m 3 t (m 3 1).toNat) xs
/-- what the class asks of a pattern -/
def zPq (m : zMe) (t : Int) (pat : Nat) : Prop := ∃ ys, zFi (m 3 2) 0 (zGl m 3 (zFt pat (zLs m 3 t (m 3 1).toNat))) (fun u => zFr1 m 3 t u - zDwc (fun k => m (3 + 4) (k : Int)) (fun k => m (3 + 5) (k : Int)) pat (if m 3 2 = 0 then 0 else 1) (zLs m 3 t (m 3 1).toNat) u) ys
theorem zPp_q {m : zMe} {t : Int} {pat : Nat} (hW : zWf m 3) (hK : ¬ m 3 2 = 0) : zPq m t pat ↔ ∃ xs, zFi (m 3 2) (if m 3 2 = 0 then 0 else 1) (zGl m 3 (zLs m 3 t (m 3 1).toNat)) (zFr1 m 3 t) xs ∧ zAgr pat (zLs m 3 t (m 3 1).toNat) xs := by
  have hN := hW.1.2.1
  refine zPat_iff rfl _ (fun k hk => ?_) (fun k _ _ => by rw [if_neg hK]; omega) _
  have := (zLs_in hk).1
  exact (hW.2.2.1 (k : Int) (by omega) (by omega)).2.2.2.1
theorem zPp_w {m : zMe} {t x : Int} {wi : Nat} (hW : zWf m 3) (ht : 0 ≤ t ∧ t < m 3 0) (hwi : ∀ k, wi.testBit k = true ↔ k ∈ zLs m 3 t (m 3 1).toNat) (h : zMn (fun b => b &&& wi = b ∧ (zCw m 3 t ∧ zPq m t b)) x) : zMn (zPp m t) x := by
  have hsub : ∀ b, b &&& wi = b ↔ ∀ k, b.testBit k = true → k ∈ zLs m 3 t (m 3 1).toNat := fun b => by
    constructor
    · intro q k hk
      exact (hwi k).mp (zSb_bit q hk)
    · intro q
      exact zSb_of (fun k hk => (hwi k).mpr (q k hk))
  have hcan : ∀ b, zPp m t b → zCw m 3 t := fun b q => by
    obtain ⟨xs, hx, -⟩ := q.2
    exact (zCw_Hr hW ht).mpr ⟨xs, hx⟩
  by_cases hK : m 3 2 = 0
  · by_cases hc : zCw m 3 t
    · obtain ⟨xs, hx⟩ := (zCw_Hr hW ht).mp hc
      have hp0 : zPp m t 0 := by
        refine ⟨fun k hk => (by rw [Nat.zero_testBit] at hk; cases hk), xs, hx, ?_⟩
        rw [if_pos hK] at hx
        exact zAgr_0 (o := fun k => m (3 + 4) (k : Int)) (p := fun k => m (3 + 5) (k : Int)) hx
      have hq0 : zPq m t 0 := by
        refine (zPat_iff (d := 0) rfl _ (fun k hk => ?_) (fun k _ q => by rw [Nat.zero_testBit] at q; cases q) _).mpr ⟨xs, ?_, ?_⟩
        · have hN := hW.1.2.1
          have := (zLs_in hk).1
          exact (hW.2.2.1 (k : Int) (by omega) (by omega)).2.2.2.1
        · rw [if_pos hK] at hx
          exact hx
        · rw [if_pos hK] at hx
          exact zAgr_0 (o := fun k => m (3 + 4) (k : Int)) (p := fun k => m (3 + 5) (k : Int)) hx
      have hx0 := zMn_u h (zMn_0 (P := fun b => b &&& wi = b ∧ (zCw m 3 t ∧ zPq m t b)) ⟨Nat.zero_and _, hc, hq0⟩)
      rw [hx0]
      exact zMn_0 hp0
    · rcases h with ⟨rfl, -⟩ | ⟨b, -, -, q, -⟩
      · exact Or.inl ⟨rfl, fun c _ q => hc (hcan c q)⟩
      · exact absurd q.2.1 hc
  · refine zMn_iff (fun b _ => ?_) h
    have hq := zPp_q (t := t) (pat := b) hW hK
    constructor
    · rintro ⟨h1, h2, h3⟩
      exact ⟨(hsub b).mp h1, hq.mp h3⟩
    · intro q
      exact ⟨(hsub b).mpr q.1, hcan b q, hq.mpr q.2⟩
