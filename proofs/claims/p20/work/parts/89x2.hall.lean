/-! what flows from games to teams: sets that shut out -/
/-- edges within a set; what a set holds -/
def zEd : List (Int × Int) → (Int → Bool) → Int
  | [], _ => 0
  | e :: es, A => (if A e.1 = true ∧ A e.2 = true then 1 else 0) + zEd es A
def zCa (A : Int → Bool) (c : Int → Int) : Int := zSm 6 (fun u => if A (u : Int) = true then c (u : Int) else 0)
/-- what edges give to u, each to its one (true) or its other end -/
def zGv : List (Int × Int) → List Bool → Int → Int
  | [], _, _ => 0
  | _ :: _, [], _ => 0
  | e :: es, b :: bs, u => (if u = (if b = true then e.1 else e.2) then 1 else 0) + zGv es bs u
def zRg (L : List (Int × Int)) : Prop := ∀ e, e ∈ L → (0 ≤ e.1 ∧ e.1 < 6) ∧ (0 ≤ e.2 ∧ e.2 < 6) ∧ ¬ e.1 = e.2
theorem zRg_c {e : Int × Int} {es : List (Int × Int)} (h : zRg (e :: es)) : ((0 ≤ e.1 ∧ e.1 < 6) ∧ (0 ≤ e.2 ∧ e.2 < 6) ∧ ¬ e.1 = e.2) ∧ zRg es := ⟨h e (by simp), fun x hx => h x (by simp [hx])⟩
theorem zSm_add (n : Nat) (f g : Nat → Int) : zSm n (fun k => f k + g k) = zSm n f + zSm n g := by
  induction n with
  | zero => rfl
  | succ n ih =>
    show zSm n (fun k => f k + g k) + (f n + g n) = (zSm n f + f n) + (zSm n g + g n)
    rw [ih]
    omega
theorem zSm_0 (n : Nat) (f : Nat → Int) (h : ∀ k, k < n → f k = 0) : zSm n f = 0 := by
  induction n with
  | zero => rfl
  | succ n ih =>
    show zSm n f + f n = 0
    rw [ih (fun k hk => h k (by omega)), h n (by omega)]
    rfl
theorem zSm_one (n : Nat) (f : Nat → Int) (x : Nat) (hx : x < n) (h : ∀ k, k < n → ¬ k = x → f k = 0) : zSm n f = f x := by
  induction n with
  | zero => omega
  | succ n ih =>
    show zSm n f + f n = f x
    by_cases hq : x = n
    · subst hq
      rw [zSm_0 x f (fun k hk => h k (by omega) (by omega))]
      omega
    · rw [ih (by omega) (fun k hk hk2 => h k (by omega) hk2), h n (by omega) (fun w => hq w.symm)]
      omega
theorem zSm_le {n : Nat} {f g : Nat → Int} (h : ∀ k, k < n → f k ≤ g k) : zSm n f ≤ zSm n g := by
  induction n with
  | zero => exact Int.le_refl _
  | succ n ih =>
    have := ih (fun k hk => h k (by omega))
    have := h n (by omega)
    show zSm n f + f n ≤ zSm n g + g n
    omega
/-- less room for one -/
theorem zCa_sub {A : Int → Bool} {c : Int → Int} {x : Int} (hx : 0 ≤ x ∧ x < 6) (w : Int) : zCa A (fun u => c u - (if u = x then w else 0)) = zCa A c - (if A x = true then w else 0) := by
  have h1 : zCa A c = zCa A (fun u => c u - (if u = x then w else 0)) + zSm 6 (fun u => if (u : Int) = x then (if A x = true then w else 0) else 0) := by
    unfold zCa
    rw [← zSm_add]
    refine zSm_congr (fun k hk => ?_)
    show (if A (k : Int) = true then c (k : Int) else 0) = (if A (k : Int) = true then c (k : Int) - (if (k : Int) = x then w else 0) else 0) + (if (k : Int) = x then (if A x = true then w else 0) else 0)
    by_cases hk2 : (k : Int) = x
    · rw [← hk2, if_pos rfl, if_pos rfl]
      by_cases hA : A (k : Int) = true
      · rw [if_pos hA, if_pos hA, if_pos hA]
        omega
      · rw [if_neg hA, if_neg hA, if_neg hA]
        rfl
    · rw [if_neg hk2, if_neg hk2, Int.sub_zero, Int.add_zero]
  have h2 : zSm 6 (fun u => if (u : Int) = x then (if A x = true then w else 0) else 0) = (if A x = true then w else 0) := by
    rw [zSm_one 6 _ x.toNat (by omega) (fun k hk hk2 => by rw [if_neg (by omega)])]
    rw [if_pos (by omega)]
  omega
theorem zCa_ui (A B : Int → Bool) (c : Int → Int) : zCa (fun u => A u || B u) c + zCa (fun u => A u && B u) c = zCa A c + zCa B c := by
  unfold zCa
  rw [← zSm_add, ← zSm_add]
  refine zSm_congr (fun k hk => ?_)
  show (if (A (k : Int) || B (k : Int)) = true then c (k : Int) else 0) + (if (A (k : Int) && B (k : Int)) = true then c (k : Int) else 0) = (if A (k : Int) = true then c (k : Int) else 0) + (if B (k : Int) = true then c (k : Int) else 0)
  cases A (k : Int) <;> cases B (k : Int) <;> simp
theorem zEd_ui (A B : Int → Bool) (L : List (Int × Int)) : zEd L A + zEd L B ≤ zEd L (fun u => A u || B u) + zEd L (fun u => A u && B u) := by
  induction L with
  | nil => exact Int.le_refl _
  | cons e es ih =>
    have h : (if A e.1 = true ∧ A e.2 = true then (1 : Int) else 0) + (if B e.1 = true ∧ B e.2 = true then 1 else 0) ≤ (if (A e.1 || B e.1) = true ∧ (A e.2 || B e.2) = true then 1 else 0) + (if (A e.1 && B e.1) = true ∧ (A e.2 && B e.2) = true then 1 else 0) := by
      cases A e.1 <;> cases A e.2 <;> cases B e.1 <;> cases B e.2 <;> decide
    have h' : ∀ a b c d p q r s : Int, a + b ≤ c + d → p + q ≤ r + s → (a + p) + (b + q) ≤ (c + r) + (d + s) := fun a b c d p q r s h1 h2 => by omega
    exact h' _ _ _ _ _ _ _ _ h ih
theorem zHall (L : List (Int × Int)) (hL : zRg L) (c : Int → Int) (h : ∀ A, zEd L A ≤ zCa A c) : ∃ bs : List Bool, bs.length = L.length ∧ ∀ u, 0 ≤ u → u < 6 → zGv L bs u ≤ c u := by
  induction L generalizing c with
  | nil =>
    refine ⟨[], rfl, fun u u0 u1 => ?_⟩
    have h1 := h (fun v => decide (v = u))
    have h2 : zCa (fun v => decide (v = u)) c = c u := by
      unfold zCa
      rw [zSm_one 6 _ u.toNat (by omega) (fun k hk hk2 => by rw [if_neg (by simp; omega)])]
      rw [if_pos (by simp; omega)]
      congr 1
      omega
    rw [h2] at h1
    exact h1
  | cons e es ih =>
    obtain ⟨⟨ho, hp, hn⟩, hes⟩ := zRg_c hL
    have hc : ∀ A, zEd (e :: es) A = (if A e.1 = true ∧ A e.2 = true then 1 else 0) + zEd es A := fun A => rfl
    by_cases h1 : ∀ A, zEd es A ≤ zCa A (fun u => c u - (if u = e.1 then 1 else 0))
    · obtain ⟨bs, hb, hu⟩ := ih hes _ h1
      refine ⟨true :: bs, by simp [hb], fun u u0 u1 => ?_⟩
      have : zGv es bs u ≤ c u - (if u = e.1 then 1 else 0) := hu u u0 u1
      show (if u = (if true = true then e.1 else e.2) then 1 else 0) + zGv es bs u ≤ c u
      rw [if_pos (rfl : true = true)]
      omega
    · by_cases h2 : ∀ A, zEd es A ≤ zCa A (fun u => c u - (if u = e.2 then 1 else 0))
      · obtain ⟨bs, hb, hu⟩ := ih hes _ h2
        refine ⟨false :: bs, by simp [hb], fun u u0 u1 => ?_⟩
        have : zGv es bs u ≤ c u - (if u = e.2 then 1 else 0) := hu u u0 u1
        show (if u = (if false = true then e.1 else e.2) then 1 else 0) + zGv es bs u ≤ c u
        rw [if_neg (show ¬ (false = true) by simp)]
        omega
      · exfalso
        obtain ⟨A, hA⟩ := Classical.not_forall.mp h1
        obtain ⟨B, hB⟩ := Classical.not_forall.mp h2
        rw [zCa_sub ho 1] at hA
        rw [zCa_sub hp 1] at hB
        have gA := h A
        have gB := h B
        have gU := h (fun u => A u || B u)
        have gI := h (fun u => A u && B u)
        rw [hc] at gA gB gU gI
        have k1 := zCa_ui A B c
        have k2 := zEd_ui A B es
        cases a1 : A e.1 <;> cases a2 : A e.2 <;> cases b1 : B e.1 <;> cases b2 : B e.2 <;> simp [a1, a2, b1, b2] at hA hB gA gB gU gI <;> omega
/-- from edges to games: by WINS a game is one, by SHARES it is two -/
theorem zHall_0 {L : List (Int × Int)} {f : Int → Int} (bs : List Bool) (hb : bs.length = L.length) (h : ∀ u, 0 ≤ u → u < 6 → zGv L bs u ≤ f u) : ∃ xs, zFi 0 0 L f xs := by
  suffices hq : ∃ xs : List Int, xs.length = L.length ∧ (∀ x, x ∈ xs → zOx 0 x) ∧ ∀ u, zTo 0 L xs u = zGv L bs u by
    obtain ⟨xs, h1, h2, h3⟩ := hq
    exact ⟨xs, h1, h2, fun u u0 u1 => by rw [h3]; exact h u u0 u1⟩
  clear h f
  induction L generalizing bs with
  | nil => exact ⟨[], rfl, fun x hx => absurd hx (by simp), fun u => rfl⟩
  | cons e es ih =>
    cases bs with
    | nil => exact absurd hb (by simp)
    | cons b bs =>
      obtain ⟨xs, h1, h2, h3⟩ := ih bs (by simpa using hb)
      refine ⟨(if b = true then 1 else 2) :: xs, by simp [h1], fun x hx => ?_, fun u => ?_⟩
      · rcases List.mem_cons.mp hx with q | q
        · rw [q]
          unfold zOx
          split <;> omega
        · exact h2 x q
      · show zGn 0 e.1 e.2 (if b = true then 1 else 2) u + zTo 0 es xs u = (if u = (if b = true then e.1 else e.2) then 1 else 0) + zGv es bs u
        rw [h3]
        congr 1
        unfold zGn
        cases b <;> simp
def zDb : List (Int × Int) → List (Int × Int)
  | [] => []
  | e :: es => e :: e :: zDb es
theorem zDb_Rg {L : List (Int × Int)} (h : zRg L) : zRg (zDb L) := by
  induction L with
  | nil => exact h
  | cons e es ih =>
    obtain ⟨h1, h2⟩ := zRg_c h
    intro x hx
    have hx : x ∈ e :: e :: zDb es := hx
    simp only [List.mem_cons] at hx
    rcases hx with q | q | q
    · rw [q]; exact h1
    · rw [q]; exact h1
    · exact ih h2 x q
theorem zDb_Ed (L : List (Int × Int)) (A : Int → Bool) : zEd (zDb L) A = 2 * zEd L A := by
  induction L with
  | nil => rfl
  | cons e es ih =>
    show (if A e.1 = true ∧ A e.2 = true then 1 else 0) + ((if A e.1 = true ∧ A e.2 = true then 1 else 0) + zEd (zDb es) A) = 2 * ((if A e.1 = true ∧ A e.2 = true then 1 else 0) + zEd es A)
    rw [ih]
    omega
theorem zHall_1 {L : List (Int × Int)} (hL : zRg L) {f : Int → Int} (bs : List Bool) (hb : bs.length = (zDb L).length) (h : ∀ u, 0 ≤ u → u < 6 → zGv (zDb L) bs u ≤ f u) : ∃ xs, zFi 1 1 L f xs := by
  suffices hq : ∃ xs : List Int, xs.length = L.length ∧ (∀ x, x ∈ xs → zOx 1 x) ∧ ∀ u, zTo 1 L xs u = zGv (zDb L) bs u by
    obtain ⟨xs, h1, h2, h3⟩ := hq
    exact ⟨xs, h1, h2, fun u u0 u1 => by rw [h3]; exact h u u0 u1⟩
  clear h f
  induction L generalizing bs with
  | nil => exact ⟨[], rfl, fun x hx => absurd hx (by simp), fun u => rfl⟩
  | cons e es ih =>
    obtain ⟨⟨-, -, hn⟩, hes⟩ := zRg_c hL
    match bs, hb with
    | [], hb => exact absurd hb (by simp [zDb])
    | [b], hb => exact absurd hb (by simp [zDb])
    | a :: b :: bs, hb =>
      obtain ⟨xs, h1, h2, h3⟩ := ih hes bs (by simpa [zDb] using hb)
      refine ⟨(if a = true then (if b = true then 1 else 0) else (if b = true then 0 else 2)) :: xs, by simp [h1], fun x hx => ?_, fun u => ?_⟩
      · rcases List.mem_cons.mp hx with q | q
        · rw [q]
          unfold zOx
          (repeat' split) <;> omega
        · exact h2 x q
      · show zGn 1 e.1 e.2 (if a = true then (if b = true then 1 else 0) else (if b = true then 0 else 2)) u + zTo 1 es xs u = (if u = (if a = true then e.1 else e.2) then 1 else 0) + ((if u = (if b = true then e.1 else e.2) then 1 else 0) + zGv (zDb es) bs u)
        rw [h3]
        unfold zGn
        cases a <;> cases b <;> simp <;> (repeat' split) <;> omega
/-- what must hold, by each system: a game gives its ends so much at least -/
theorem zTo_set {K d : Int} (hK : 0 ≤ K ∧ K ≤ 2) (hd : K = 0 → d = 0) {L : List (Int × Int)} (hL : zRg L) {xs : List Int} (hx : xs.length = L.length) (ho : ∀ x, x ∈ xs → zOx d x) (A : Int → Bool) : (if K = 0 then 1 else 2) * zEd L A ≤ zCa A (zTo K L xs) := by
  induction L generalizing xs with
  | nil =>
    have : zCa A (zTo K [] xs) = 0 := zSm_0 6 _ (fun k hk => by show (if _ then (0 : Int) else 0) = 0; split <;> rfl)
    rw [this]
    show (if K = 0 then (1 : Int) else 2) * 0 ≤ 0
    omega
  | cons e es ih =>
    obtain ⟨⟨h1, h2, hn⟩, hes⟩ := zRg_c hL
    cases xs with
    | nil => exact absurd hx (by simp)
    | cons x xs =>
      have hi := ih hes (by simpa using hx) (fun y hy => ho y (by simp [hy]))
      have hxx := ho x (by simp)
      have hc := zOx_012 hxx
      have e1 : zCa A (zTo K (e :: es) (x :: xs)) = zCa A (zGn K e.1 e.2 x) + zCa A (zTo K es xs) := by
        unfold zCa
        rw [← zSm_add]
        refine zSm_congr (fun k hk => ?_)
        show (if A (k : Int) = true then zGn K e.1 e.2 x (k : Int) + zTo K es xs (k : Int) else 0) = _
        split
        · rfl
        · rfl
      have e2 : zCa A (zGn K e.1 e.2 x) = (if A e.1 = true then zGn K e.1 e.2 x e.1 else 0) + (if A e.2 = true then zGn K e.1 e.2 x e.2 else 0) := by
        have hg : ∀ u, zGn K e.1 e.2 x u = (if u = e.1 then zGn K e.1 e.2 x e.1 else 0) + (if u = e.2 then zGn K e.1 e.2 x e.2 else 0) := fun u => by
          by_cases q1 : u = e.1
          · rw [q1, if_pos rfl, if_neg hn]
            omega
          · by_cases q2 : u = e.2
            · rw [q2, if_pos rfl, if_neg (fun w => hn w.symm)]
              omega
            · rw [if_neg q1, if_neg q2]
              unfold zGn
              rw [if_neg q1, if_neg q2]
        have hs : ∀ (y w : Int), 0 ≤ y → y < 6 → zSm 6 (fun u => if A (u : Int) = true then (if (u : Int) = y then w else 0) else 0) = if A y = true then w else 0 := fun y w y0 y1 => by
          rw [zSm_one 6 _ y.toNat (by omega) (fun k hk hk2 => by rw [if_neg (show ¬ (k : Int) = y by omega)]; split <;> rfl)]
          have : ((y.toNat : Nat) : Int) = y := by omega
          rw [this, if_pos rfl]
        rw [← hs e.1 _ h1.1 h1.2, ← hs e.2 _ h2.1 h2.2]
        unfold zCa
        rw [← zSm_add]
        refine zSm_congr (fun k hk => ?_)
        rw [hg (k : Int)]
        split <;> rfl
      have e3 : (if K = 0 then 1 else 2) * (if A e.1 = true ∧ A e.2 = true then (1 : Int) else 0) ≤ (if A e.1 = true then zGn K e.1 e.2 x e.1 else 0) + (if A e.2 = true then zGn K e.1 e.2 x e.2 else 0) := by
        have p1 := zGn_0 (o := e.1) (p := e.2) (x := x) (u := e.1) hK
        have p2 := zGn_0 (o := e.1) (p := e.2) (x := x) (u := e.2) hK
        have p3 : (if K = 0 then 1 else 2) ≤ zGn K e.1 e.2 x e.1 + zGn K e.1 e.2 x e.2 := by
          have hn' : ¬ e.2 = e.1 := fun w => hn w.symm
          unfold zGn
          unfold zOx at hxx
          rw [if_pos rfl, if_neg hn, if_neg hn', if_pos rfl]
          (repeat' split) <;> omega
        generalize (if K = 0 then (1 : Int) else 2) = lg at p3 ⊢
        by_cases q1 : A e.1 = true
        · by_cases q2 : A e.2 = true
          · rw [if_pos (show A e.1 = true ∧ A e.2 = true from ⟨q1, q2⟩), if_pos q1, if_pos q2]
            omega
          · rw [if_neg (show ¬ (A e.1 = true ∧ A e.2 = true) from fun w => q2 w.2), if_pos q1, if_neg q2]
            omega
        · rw [if_neg (show ¬ (A e.1 = true ∧ A e.2 = true) from fun w => q1 w.1), if_neg q1]
          split <;> omega
      rw [e1, e2]
      show (if K = 0 then (1 : Int) else 2) * ((if A e.1 = true ∧ A e.2 = true then 1 else 0) + zEd es A) ≤ _
      rw [Int.mul_add]
      omega
/-- by each system: where there is a run, no set shuts out; by WINS and SHARES the other way, too -/
theorem zFi_set {K d : Int} (hK : 0 ≤ K ∧ K ≤ 2) (hd : K = 0 → d = 0) {L : List (Int × Int)} (hL : zRg L) {f : Int → Int} {xs : List Int} (h : zFi K d L f xs) (A : Int → Bool) : (if K = 0 then 1 else 2) * zEd L A ≤ zCa A f := by
  refine Int.le_trans (zTo_set hK hd hL h.1 h.2.1 A) (zSm_le (fun k hk => ?_))
  split
  · exact h.2.2 (k : Int) (by omega) (by omega)
  · exact Int.le_refl _
theorem zSet_Fi {K : Int} (hK : K = 0 ∨ K = 1) {L : List (Int × Int)} (hL : zRg L) {f : Int → Int} (h : ∀ A, (if K = 0 then 1 else 2) * zEd L A ≤ zCa A f) : ∃ xs, zFi K (if K = 0 then 0 else 1) L f xs := by
  rcases hK with rfl | rfl
  · obtain ⟨bs, h1, h2⟩ := zHall L hL f (fun A => by have := h A; rw [if_pos rfl] at this; omega)
    exact zHall_0 bs h1 h2
  · obtain ⟨bs, h1, h2⟩ := zHall (zDb L) (zDb_Rg hL) f (fun A => by have := h A; rw [if_neg (by omega)] at this; rw [zDb_Ed]; exact this)
    exact zHall_1 hL bs h1 h2
