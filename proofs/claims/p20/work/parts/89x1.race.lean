/-! runs: what games bring, who has room, the first one -/
/-- what games bring, by these results -/
def zTo (K : Int) : List (Int × Int) → List Int → Int → Int
  | [], _, _ => 0
  | _ :: _, [], _ => 0
  | e :: es, x :: xs, u => zGn K e.1 e.2 x u + zTo K es xs u
/-- a result that may be -/
def zOx (d x : Int) : Prop := x = 1 ∨ x = 2 ∨ (x = 0 ∧ ¬ d = 0)
/-- these are results of these games by which nobody has more than its room -/
def zFi (K d : Int) (L : List (Int × Int)) (f : Int → Int) (xs : List Int) : Prop := xs.length = L.length ∧ (∀ x, x ∈ xs → zOx d x) ∧ ∀ u, 0 ≤ u → u < 6 → zTo K L xs u ≤ f u
theorem zFi_n {K d : Int} {f : Int → Int} {xs : List Int} : zFi K d [] f xs ↔ xs = [] ∧ ∀ u, 0 ≤ u → u < 6 → 0 ≤ f u := by
  constructor
  · rintro ⟨h1, h2, h3⟩
    exact ⟨List.eq_nil_of_length_eq_zero h1, h3⟩
  · rintro ⟨rfl, h⟩
    exact ⟨rfl, fun x hx => absurd hx (by simp), h⟩
theorem zFi_c {K d : Int} {e : Int × Int} {es : List (Int × Int)} {f : Int → Int} {x : Int} {xs : List Int} : zFi K d (e :: es) f (x :: xs) ↔ zOx d x ∧ zFi K d es (fun u => f u - zGn K e.1 e.2 x u) xs := by
  have e1 : ∀ u, zTo K (e :: es) (x :: xs) u = zGn K e.1 e.2 x u + zTo K es xs u := fun u => rfl
  constructor
  · rintro ⟨h1, h2, h3⟩
    refine ⟨h2 x (by simp), by simpa using h1, fun y hy => h2 y (by simp [hy]), fun u u0 u1 => ?_⟩
    have := h3 u u0 u1
    rw [e1] at this
    show _ ≤ f u - _
    omega
  · rintro ⟨h1, h2, h3, h4⟩
    refine ⟨by simp [h2], fun y hy => ?_, fun u u0 u1 => ?_⟩
    · rcases List.mem_cons.mp hy with q | q
      · rw [q]
        exact h1
      · exact h3 y q
    · have : zTo K es xs u ≤ f u - zGn K e.1 e.2 x u := h4 u u0 u1
      rw [e1]
      omega
theorem zFi_l {K d : Int} {e : Int × Int} {es : List (Int × Int)} {f : Int → Int} {ys : List Int} (h : zFi K d (e :: es) f ys) : ∃ x xs, ys = x :: xs ∧ zOx d x ∧ zFi K d es (fun u => f u - zGn K e.1 e.2 x u) xs := by
  cases ys with
  | nil => exact absurd h.1 (by simp)
  | cons x xs => exact ⟨x, xs, rfl, zFi_c.mp h⟩
theorem zGn_0 {K o p x u : Int} (hK : 0 ≤ K ∧ K ≤ 2) : 0 ≤ zGn K o p x u := by
  unfold zGn
  (repeat' split) <;> omega
theorem zTo_0 {K u : Int} (hK : 0 ≤ K ∧ K ≤ 2) (L : List (Int × Int)) (xs : List Int) : 0 ≤ zTo K L xs u := by
  induction L generalizing xs with
  | nil => exact Int.le_refl 0
  | cons e es ih =>
    cases xs with
    | nil => exact Int.le_refl 0
    | cons x xs =>
      have h1 := zGn_0 (o := e.1) (p := e.2) (x := x) (u := u) hK
      have h2 := ih xs
      show 0 ≤ zGn K e.1 e.2 x u + zTo K es xs u
      omega
/-- the first results, in the order 1, 2, 0 -/
noncomputable def zFo (K d : Int) : List (Int × Int) → (Int → Int) → Option (List Int)
  | [], f => zIf (∀ u, 0 ≤ u → u < 6 → 0 ≤ f u) (some []) none
  | e :: es, f =>
    match zFo K d es (fun u => f u - zGn K e.1 e.2 1 u) with
    | some l => some (1 :: l)
    | none =>
      match zFo K d es (fun u => f u - zGn K e.1 e.2 2 u) with
      | some l => some (2 :: l)
      | none => if d = 0 then none else (zFo K d es (fun u => f u - zGn K e.1 e.2 0 u)).map (fun l => 0 :: l)
theorem zFo_c (K d : Int) (e : Int × Int) (es : List (Int × Int)) (f : Int → Int) : zFo K d (e :: es) f = (match zFo K d es (fun u => f u - zGn K e.1 e.2 1 u) with
    | some l => some (1 :: l)
    | none =>
      match zFo K d es (fun u => f u - zGn K e.1 e.2 2 u) with
      | some l => some (2 :: l)
      | none => if d = 0 then none else (zFo K d es (fun u => f u - zGn K e.1 e.2 0 u)).map (fun l => 0 :: l)) := rfl
theorem zFo_some {K d : Int} {L : List (Int × Int)} {f : Int → Int} {l : List Int} (h : zFo K d L f = some l) : zFi K d L f l := by
  induction L generalizing f l with
  | nil =>
    by_cases hf : ∀ u, 0 ≤ u → u < 6 → 0 ≤ f u
    · have e : zFo K d [] f = some [] := zIf_p hf
      rw [e] at h
      cases h
      exact zFi_n.mpr ⟨rfl, hf⟩
    · have e : zFo K d [] f = none := zIf_n hf
      rw [e] at h
      cases h
  | cons e es ih =>
    rw [zFo_c] at h
    cases h1 : zFo K d es (fun u => f u - zGn K e.1 e.2 1 u) with
    | some l1 =>
      rw [h1] at h
      cases h
      exact zFi_c.mpr ⟨Or.inl rfl, ih h1⟩
    | none =>
      rw [h1] at h
      cases h2 : zFo K d es (fun u => f u - zGn K e.1 e.2 2 u) with
      | some l2 =>
        rw [h2] at h
        cases h
        exact zFi_c.mpr ⟨Or.inr (Or.inl rfl), ih h2⟩
      | none =>
        rw [h2] at h
        dsimp only at h
        by_cases hd : d = 0
        · rw [if_pos hd] at h
          cases h
        · rw [if_neg hd] at h
          cases h3 : zFo K d es (fun u => f u - zGn K e.1 e.2 0 u) with
          | some l3 =>
            rw [h3] at h
            cases h
            exact zFi_c.mpr ⟨Or.inr (Or.inr ⟨rfl, hd⟩), ih h3⟩
          | none =>
            rw [h3] at h
            cases h
theorem zFo_none {K d : Int} {L : List (Int × Int)} {f : Int → Int} (h : zFo K d L f = none) (xs : List Int) : ¬ zFi K d L f xs := by
  induction L generalizing f xs with
  | nil =>
    intro hq
    have hf := (zFi_n.mp hq).2
    have e : zFo K d [] f = some [] := zIf_p hf
    rw [e] at h
    cases h
  | cons e es ih =>
    intro hq
    obtain ⟨x, ys, rfl, hx, hy⟩ := zFi_l hq
    rw [zFo_c] at h
    cases h1 : zFo K d es (fun u => f u - zGn K e.1 e.2 1 u) with
    | some l1 =>
      rw [h1] at h
      cases h
    | none =>
      rw [h1] at h
      cases h2 : zFo K d es (fun u => f u - zGn K e.1 e.2 2 u) with
      | some l2 =>
        rw [h2] at h
        cases h
      | none =>
        rw [h2] at h
        dsimp only at h
        rcases hx with rfl | rfl | ⟨rfl, hd⟩
        · exact ih h1 ys hy
        · exact ih h2 ys hy
        · rw [if_neg hd] at h
          cases h3 : zFo K d es (fun u => f u - zGn K e.1 e.2 0 u) with
          | some l3 =>
            rw [h3] at h
            cases h
          | none => exact ih h3 ys hy
theorem zFo_iff {K d : Int} {L : List (Int × Int)} {f : Int → Int} : (zFo K d L f).isSome = true ↔ ∃ xs, zFi K d L f xs := by
  cases h : zFo K d L f with
  | some l => exact ⟨fun _ => ⟨l, zFo_some h⟩, fun _ => rfl⟩
  | none => exact ⟨fun q => (by cases q), fun q => absurd q.choose_spec (zFo_none h _)⟩
theorem zFo_neg {K d u : Int} {L : List (Int × Int)} {f : Int → Int} (hK : 0 ≤ K ∧ K ≤ 2) (u0 : 0 ≤ u) (u1 : u < 6) (h : f u < 0) : zFo K d L f = none := by
  cases hq : zFo K d L f with
  | none => rfl
  | some l =>
    have h1 := (zFo_some hq).2.2 u u0 u1
    have h2 := zTo_0 (u := u) hK L l
    exfalso
    omega
theorem zFi_congr {K d : Int} {L : List (Int × Int)} {f g : Int → Int} (h : ∀ u, 0 ≤ u → u < 6 → f u = g u) {xs : List Int} (hf : zFi K d L f xs) : zFi K d L g xs := ⟨hf.1, hf.2.1, fun u u0 u1 => by rw [← h u u0 u1]; exact hf.2.2 u u0 u1⟩
theorem zFo_congr {K d : Int} {L : List (Int × Int)} {f g : Int → Int} (h : ∀ u, 0 ≤ u → u < 6 → f u = g u) : zFo K d L f = zFo K d L g := by
  induction L generalizing f g with
  | nil =>
    by_cases hf : ∀ u, 0 ≤ u → u < 6 → 0 ≤ f u
    · have e1 : zFo K d [] f = some [] := zIf_p hf
      have e2 : zFo K d [] g = some [] := zIf_p (fun u u0 u1 => by rw [← h u u0 u1]; exact hf u u0 u1)
      rw [e1, e2]
    · have e1 : zFo K d [] f = none := zIf_n hf
      have e2 : zFo K d [] g = none := zIf_n (fun q => hf (fun u u0 u1 => by rw [h u u0 u1]; exact q u u0 u1))
      rw [e1, e2]
  | cons e es ih =>
    have hh : ∀ x, zFo K d es (fun u => f u - zGn K e.1 e.2 x u) = zFo K d es (fun u => g u - zGn K e.1 e.2 x u) := fun x => ih (fun u u0 u1 => by
      show f u - _ = g u - _
      rw [h u u0 u1])
    rw [zFo_c, zFo_c, hh, hh, hh]
/-- the games from i on -/
def zPl (o p : Int → Int) : Nat → Int → List (Int × Int)
  | 0, _ => []
  | n + 1, i => (o i, p i) :: zPl o p n (i + 1)
theorem zOx_012 {d x : Int} (h : zOx d x) : 0 ≤ x ∧ x ≤ 2 := by
  unfold zOx at h
  omega
theorem zGn_le {K o p x u : Int} (hK : 0 ≤ K ∧ K ≤ 2) (hn : ¬ o = p) : zGn K o p x u ≤ if o = u ∨ p = u then K + 1 else 0 := by
  unfold zGn
  by_cases h1 : o = u
  · rw [if_pos (Or.inl h1), if_pos h1.symm, if_neg (show ¬ u = p by omega)]
    (repeat' split) <;> omega
  · by_cases h2 : p = u
    · rw [if_pos (Or.inr h2), if_neg (show ¬ u = o by omega), if_pos h2.symm]
      (repeat' split) <;> omega
    · rw [if_neg (show ¬ u = o by omega), if_neg (show ¬ u = p by omega), if_neg (show ¬ (o = u ∨ p = u) by omega)]
      omega
theorem zTo_Nd {K u : Int} (hK : 0 ≤ K ∧ K ≤ 2) {o p : Int → Int} {n : Nat} {i : Int} (hn : ∀ j, i ≤ j → j < i + n → ¬ o j = p j) (xs : List Int) : zTo K (zPl o p n i) xs u ≤ zNd o p (K + 1) u n i := by
  induction n generalizing i xs with
  | zero => exact Int.le_refl 0
  | succ n ih =>
    rw [zNd_s]
    have h2 := zGn_le (x := 0) (u := u) hK (hn i (by omega) (by omega))
    have hnd := ih (i := i + 1) (fun j a b => hn j (by omega) (by omega))
    cases xs with
    | nil =>
      have h3 := hnd []
      have h4 := zTo_0 (u := u) hK (zPl o p n (i + 1)) []
      show (0 : Int) ≤ _
      have h5 : (0 : Int) ≤ (if o i = u ∨ p i = u then K + 1 else 0) := by split <;> omega
      omega
    | cons x xs =>
      have h1 := zGn_le (x := x) (u := u) hK (hn i (by omega) (by omega))
      have h3 := hnd xs
      show zGn K (o i) (p i) x u + zTo K (zPl o p n (i + 1)) xs u ≤ _
      omega
/-- who has room for all its games hurts nobody by winning them -/
theorem zCut1 {K d : Int} (hK : 0 ≤ K ∧ K ≤ 2) {o p f : Int → Int} {n : Nat} {i x : Int} {xs : List Int} (hn : ∀ j, i ≤ j → j < i + (n + 1 : Nat) → ¬ o j = p j) (hr : zNd o p (K + 1) (o i) (n + 1) i ≤ f (o i)) (h : zFi K d ((o i, p i) :: zPl o p n (i + 1)) f (x :: xs)) : zFi K d ((o i, p i) :: zPl o p n (i + 1)) f (1 :: xs) := by
  obtain ⟨h1, h2, h3⟩ := h
  refine ⟨h1, fun y hy => ?_, fun u u0 u1 => ?_⟩
  · rcases List.mem_cons.mp hy with q | q
    · rw [q]
      exact Or.inl rfl
    · exact h2 y (by simp [q])
  · by_cases hu : u = o i
    · have := zTo_Nd (u := u) hK hn (1 :: xs)
      rw [hu] at this ⊢
      exact Int.le_trans this hr
    · have hq := h3 u u0 u1
      have e1 : zTo K ((o i, p i) :: zPl o p n (i + 1)) (x :: xs) u = zGn K (o i) (p i) x u + zTo K (zPl o p n (i + 1)) xs u := rfl
      have e2 : zTo K ((o i, p i) :: zPl o p n (i + 1)) (1 :: xs) u = zGn K (o i) (p i) 1 u + zTo K (zPl o p n (i + 1)) xs u := rfl
      have g1 := zGn_0 (o := o i) (p := p i) (x := x) (u := u) hK
      have g2 : zGn K (o i) (p i) 1 u = 0 := by
        unfold zGn
        rw [if_neg hu]
        split <;> simp
      omega
theorem zCut2 {K d : Int} (hK : 0 ≤ K ∧ K ≤ 2) {o p f : Int → Int} {n : Nat} {i x : Int} {xs : List Int} (hn : ∀ j, i ≤ j → j < i + (n + 1 : Nat) → ¬ o j = p j) (hr : zNd o p (K + 1) (p i) (n + 1) i ≤ f (p i)) (h : zFi K d ((o i, p i) :: zPl o p n (i + 1)) f (x :: xs)) : zFi K d ((o i, p i) :: zPl o p n (i + 1)) f (2 :: xs) := by
  obtain ⟨h1, h2, h3⟩ := h
  refine ⟨h1, fun y hy => ?_, fun u u0 u1 => ?_⟩
  · rcases List.mem_cons.mp hy with q | q
    · rw [q]
      exact Or.inr (Or.inl rfl)
    · exact h2 y (by simp [q])
  · by_cases hu : u = p i
    · have := zTo_Nd (u := u) hK hn (2 :: xs)
      rw [hu] at this ⊢
      exact Int.le_trans this hr
    · have hq := h3 u u0 u1
      have e1 : zTo K ((o i, p i) :: zPl o p n (i + 1)) (x :: xs) u = zGn K (o i) (p i) x u + zTo K (zPl o p n (i + 1)) xs u := rfl
      have e2 : zTo K ((o i, p i) :: zPl o p n (i + 1)) (2 :: xs) u = zGn K (o i) (p i) 2 u + zTo K (zPl o p n (i + 1)) xs u := rfl
      have g1 := zGn_0 (o := o i) (p := p i) (x := x) (u := u) hK
      have g2 : zGn K (o i) (p i) 2 u = 0 := by
        unfold zGn
        rw [if_neg hu]
        split <;> simp
      omega
theorem zSub_1 {K : Int} (f : Int → Int) (o p : Int) (hn : ¬ o = p) : zSub f o (K + 1) = fun u => f u - zGn K o p 1 u := by
  funext u
  unfold zSub zGn
  by_cases hu : u = o
  · subst hu
    simp [hn]
  · have hn' : ¬ p = o := fun q => hn q.symm
    by_cases hp : u = p <;> simp [hu, hp, hn, hn']
theorem zSub_2 {K : Int} (f : Int → Int) (o p : Int) (hn : ¬ o = p) : zSub f p (K + 1) = fun u => f u - zGn K o p 2 u := by
  funext u
  unfold zSub zGn
  by_cases hu : u = p
  · subst hu
    have : ¬ u = o := fun q => hn q.symm
    simp [this]
  · have hn' : ¬ p = o := fun q => hn q.symm
    by_cases hp : u = o <;> simp [hu, hp, hn, hn']
theorem zSub_0 {K : Int} (f : Int → Int) (o p : Int) (hn : ¬ o = p) : zSub (zSub f o (if K = 0 then 0 else 1)) p (if K = 0 then 0 else 1) = fun u => f u - zGn K o p 0 u := by
  funext u
  unfold zSub zGn
  by_cases hu : u = p
  · subst hu
    have : ¬ u = o := fun q => hn q.symm
    simp [this]
  · by_cases hp : u = o
    · subst hp
      simp [hu]
    · simp [hu, hp]
set_option maxHeartbeats 1000000 in
theorem zSv_F {K d : Int} (hK : 0 ≤ K ∧ K ≤ 2) {o p : Int → Int} {n : Nat} {f : Int → Int} {i : Int} (hg : ∀ j, i ≤ j → j < i + n → (0 ≤ o j ∧ o j < 6) ∧ (0 ≤ p j ∧ p j < 6) ∧ ¬ o j = p j) (hf : ∀ u, 0 ≤ u → u < 6 → 0 ≤ f u) : zSv o p (K + 1) (if K = 0 then 0 else 1) d n f i = zFo K d (zPl o p n i) f := by
  induction n generalizing f i with
  | zero => exact (zIf_p (a := some []) (b := none) hf).symm
  | succ n ih =>
    obtain ⟨g1, g2, g3⟩ := hg i (by omega) (by omega)
    have hg' : ∀ j, i + 1 ≤ j → j < i + 1 + n → (0 ≤ o j ∧ o j < 6) ∧ (0 ≤ p j ∧ p j < 6) ∧ ¬ o j = p j := fun j a b => hg j (by omega) (by omega)
    have hn : ∀ j, i ≤ j → j < i + (n + 1 : Nat) → ¬ o j = p j := fun j a b => (hg j a b).2.2
    have e : zPl o p (n + 1) i = (o i, p i) :: zPl o p n (i + 1) := rfl
    have hcut : ∀ x l, zFi K d (zPl o p n (i + 1)) (fun u => f u - zGn K (o i) (p i) x u) l → zOx d x → zFi K d ((o i, p i) :: zPl o p n (i + 1)) f (x :: l) := fun x l h1 h2 => zFi_c.mpr ⟨h2, h1⟩
    have hf1 := hf (o i) g1.1 g1.2
    have hf2 := hf (p i) g2.1 g2.2
    have hne : ∀ x, (∃ u, 0 ≤ u ∧ u < 6 ∧ f u - zGn K (o i) (p i) x u < 0) → zFo K d (zPl o p n (i + 1)) (fun u => f u - zGn K (o i) (p i) x u) = none := fun x hx => by
      obtain ⟨u, u0, u1, hu⟩ := hx
      exact zFo_neg (u := u) hK u0 u1 hu
    have hsub : ∀ x u, 0 ≤ u → u < 6 → (u = o i → zGn K (o i) (p i) x u ≤ f u) → (u = p i → zGn K (o i) (p i) x u ≤ f u) → 0 ≤ f u - zGn K (o i) (p i) x u := fun x u u0 u1 h1 h2 => by
      by_cases ho : u = o i
      · have := h1 ho
        omega
      · by_cases hp : u = p i
        · have := h2 hp
          omega
        · have hz : zGn K (o i) (p i) x u = 0 := by
            unfold zGn
            rw [if_neg ho, if_neg hp]
            rfl
          have := hf u u0 u1
          omega
    have k1o : zGn K (o i) (p i) 1 (o i) = K + 1 := by
      unfold zGn
      simp [g3]
    have k1p : zGn K (o i) (p i) 1 (p i) = 0 := by
      unfold zGn
      simp
      intro q
      exact absurd q.symm g3
    have k2p : zGn K (o i) (p i) 2 (p i) = K + 1 := by
      unfold zGn
      simp
    have k2o : zGn K (o i) (p i) 2 (o i) = 0 := by
      unfold zGn
      simp [g3]
    have k0o : zGn K (o i) (p i) 0 (o i) = if K = 0 then 0 else 1 := by
      unfold zGn
      simp [g3]
    have k0p : zGn K (o i) (p i) 0 (p i) = if K = 0 then 0 else 1 := by
      unfold zGn
      have : ¬ p i = o i := fun q => g3 q.symm
      simp [this]
    rw [zSv_s, e, zFo_c]
    have a1 : (if K + 1 ≤ f (o i) then (zSv o p (K + 1) (if K = 0 then 0 else 1) d n (zSub f (o i) (K + 1)) (i + 1)).map (fun l => 1 :: l) else none) = (zFo K d (zPl o p n (i + 1)) (fun u => f u - zGn K (o i) (p i) 1 u)).map (fun l => 1 :: l) := by
      by_cases hq : K + 1 ≤ f (o i)
      · rw [if_pos hq, zSub_1 f (o i) (p i) g3, ih hg' (fun u u0 u1 => hsub 1 u u0 u1 (fun q => by rw [q, k1o]; exact hq) (fun q => by rw [q, k1p]; exact hf2))]
      · rw [if_neg hq, hne 1 ⟨o i, g1.1, g1.2, by rw [k1o]; omega⟩]
        rfl
    have a2 : (if K + 1 ≤ f (p i) then (zSv o p (K + 1) (if K = 0 then 0 else 1) d n (zSub f (p i) (K + 1)) (i + 1)).map (fun l => 2 :: l) else none) = (zFo K d (zPl o p n (i + 1)) (fun u => f u - zGn K (o i) (p i) 2 u)).map (fun l => 2 :: l) := by
      by_cases hq : K + 1 ≤ f (p i)
      · rw [if_pos hq, zSub_2 f (o i) (p i) g3, ih hg' (fun u u0 u1 => hsub 2 u u0 u1 (fun q => by rw [q, k2o]; exact hf1) (fun q => by rw [q, k2p]; exact hq))]
      · rw [if_neg hq, hne 2 ⟨p i, g2.1, g2.2, by rw [k2p]; omega⟩]
        rfl
    have a0 : (if (if K = 0 then (0 : Int) else 1) ≤ f (o i) ∧ (if K = 0 then (0 : Int) else 1) ≤ f (p i) then (zSv o p (K + 1) (if K = 0 then 0 else 1) d n (zSub (zSub f (o i) (if K = 0 then 0 else 1)) (p i) (if K = 0 then 0 else 1)) (i + 1)).map (fun l => 0 :: l) else none) = (zFo K d (zPl o p n (i + 1)) (fun u => f u - zGn K (o i) (p i) 0 u)).map (fun l => 0 :: l) := by
      by_cases hq : (if K = 0 then (0 : Int) else 1) ≤ f (o i) ∧ (if K = 0 then (0 : Int) else 1) ≤ f (p i)
      · rw [if_pos hq, zSub_0 f (o i) (p i) g3, ih hg' (fun u u0 u1 => hsub 0 u u0 u1 (fun q => by rw [q, k0o]; exact hq.1) (fun q => by rw [q, k0p]; exact hq.2))]
      · rw [if_neg hq]
        by_cases hq1 : (if K = 0 then (0 : Int) else 1) ≤ f (o i)
        · have hq2 : ¬ (if K = 0 then (0 : Int) else 1) ≤ f (p i) := fun w => hq ⟨hq1, w⟩
          rw [hne 0 ⟨p i, g2.1, g2.2, by rw [k0p]; omega⟩]
          rfl
        · rw [hne 0 ⟨o i, g1.1, g1.2, by rw [k0o]; omega⟩]
          rfl
    rw [a1, a2, a0]
    cases h1 : zFo K d (zPl o p n (i + 1)) (fun u => f u - zGn K (o i) (p i) 1 u) with
    | some l => rfl
    | none =>
      dsimp only [Option.map]
      by_cases hc1 : zNd o p (K + 1) (o i) (n + 1) i ≤ f (o i)
      · rw [if_pos hc1]
        have hno : ∀ x l, zOx d x → ¬ zFo K d (zPl o p n (i + 1)) (fun u => f u - zGn K (o i) (p i) x u) = some l := fun x l hx hs => by
          have q1 := zCut1 hK hn hc1 (hcut x l (zFo_some hs) hx)
          exact zFo_none h1 l (zFi_c.mp q1).2
        cases h2 : zFo K d (zPl o p n (i + 1)) (fun u => f u - zGn K (o i) (p i) 2 u) with
        | some l => exact absurd h2 (hno 2 l (Or.inr (Or.inl rfl)))
        | none =>
          dsimp only
          by_cases hd : d = 0
          · rw [if_pos hd]
          · rw [if_neg hd]
            cases h3 : zFo K d (zPl o p n (i + 1)) (fun u => f u - zGn K (o i) (p i) 0 u) with
            | some l => exact absurd h3 (hno 0 l (Or.inr (Or.inr ⟨rfl, hd⟩)))
            | none => rfl
      · rw [if_neg hc1]
        cases h2 : zFo K d (zPl o p n (i + 1)) (fun u => f u - zGn K (o i) (p i) 2 u) with
        | some l => rfl
        | none =>
          dsimp only
          by_cases hd : d = 0
          · rw [if_pos hd, if_pos hd]
          · rw [if_neg hd, if_neg hd]
            by_cases hc2 : zNd o p (K + 1) (p i) (n + 1) i ≤ f (p i)
            · rw [if_pos hc2]
              cases h3 : zFo K d (zPl o p n (i + 1)) (fun u => f u - zGn K (o i) (p i) 0 u) with
              | some l =>
                have q1 := zCut2 hK hn hc2 (hcut 0 l (zFo_some h3) (Or.inr (Or.inr ⟨rfl, hd⟩)))
                exact absurd (zFi_c.mp q1).2 (zFo_none h2 l)
              | none => rfl
            · rw [if_neg hc2]
