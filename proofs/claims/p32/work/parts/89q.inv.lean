/-! what holds between two calls: class and reference hold the same -/
def zIg (m : zMe) (r q : Nat) : Prop := zWf m r ∧ zEq2 m m r q
def zTa (m : zMe) : Prop := zTp m ∧ (m 1 2 = 0 ∧ m 1 3 = 0 ∧ m 1 4 = 0) ∧ m 50 11 = m 1 1 ∧ ∀ j, 0 ≤ j → j < 40 → m 56 j = m 2 j
def zSs (m : zMe) : Prop := zSc m ∧ ∀ s, 0 ≤ s → s < 4 → m 59 s = m (zSh s) 1 ∧ m 60 s = m (zSh s) 2 ∧ ∀ i, 0 ≤ i → i < 40 → zIt (m 61 (40 * s + i)) (m (zSh s + 1) i)
def zMi (m : zMe) : Prop := (m 50 2 = m 0 9 ∧ (m 0 9 = 0 ∨ m 0 9 = 1)) ∧ (∀ j, 0 ≤ j → j < 25 → m 57 j = zM0 57 j) ∧ -1 ≤ m 50 8 ∧ m 50 8 < 512
def zInv (m : zMe) : Prop := zIg m 3 51 ∧ zIg m 11 52 ∧ zTa m ∧ zSs m ∧ zMi m
theorem zIg_m {mc mr m2 : zMe} {r q : Nat} (hW : zWf mc r) (hE : zEq2 mc mr r q) (h1 : zSame mc m2 r) (h2 : ∀ j, m2 q j = mr q j) : zIg m2 r q := ⟨zWf_S h1 hW, zEq2_c h1 h2 hE⟩
theorem zIg_c {m m2 : zMe} {r q : Nat} (h : zIg m r q) (h1 : zSame m m2 r) (h2 : ∀ j, m2 q j = m q j) : zIg m2 r q := zIg_m h.1 h.2 h1 h2
theorem zTa_c {m m2 : zMe} (h : zTa m) (h1 : ∀ j, m2 1 j = m 1 j) (h2 : ∀ j, m2 2 j = m 2 j) (h3 : m2 50 11 = m 50 11) (h4 : ∀ j, m2 56 j = m 56 j) : zTa m2 := by
  unfold zTa zTp at h ⊢
  simp only [h1, h2, h3, h4]
  exact h
theorem zSs_c {m m2 : zMe} (h : zSs m) (h1 : ∀ c, 42 ≤ c → c ≤ 49 → ∀ j, m2 c j = m c j) (h2 : ∀ c, 59 ≤ c → c ≤ 61 → ∀ j, m2 c j = m c j) : zSs m2 := by
  obtain ⟨ha, hb⟩ := h
  refine ⟨fun r hr => ?_, fun s s0 s1 => ?_⟩
  · have := ha r hr
    have hl : r = 42 ∨ r = 44 ∨ r = 46 ∨ r = 48 := hr
    rw [h1 r (by omega) (by omega), h1 r (by omega) (by omega)]
    refine ⟨this.1, this.2.1, fun i i0 i1 => ?_⟩
    rw [h1 (r + 1) (by omega) (by omega)]
    exact this.2.2 i i0 i1
  · have hz : 42 ≤ zSh s ∧ zSh s + 1 ≤ 49 := by unfold zSh; omega
    rw [h1 (zSh s) (by omega) (by omega), h1 (zSh s) (by omega) (by omega), h2 59 (by omega) (by omega), h2 60 (by omega) (by omega)]
    obtain ⟨p1, p2, p3⟩ := hb s s0 s1
    refine ⟨p1, p2, fun i i0 i1 => ?_⟩
    rw [h1 (zSh s + 1) (by omega) (by omega), h2 61 (by omega) (by omega)]
    exact p3 i i0 i1
theorem zMi_c {m m2 : zMe} (h : zMi m) (h1 : m2 50 2 = m 50 2) (h2 : m2 0 9 = m 0 9) (h3 : ∀ j, m2 57 j = m 57 j) (h4 : -1 ≤ m2 50 8 ∧ m2 50 8 < 512) : zMi m2 := by
  obtain ⟨ha, hb, hc⟩ := h
  refine ⟨by rw [h1, h2]; exact ha, fun j j0 j1 => ?_, h4⟩
  rw [h3]
  exact hb j j0 j1
theorem zIg_R {m : zMe} (h : zIg m 3 51) : zRw m := zRw_E h.1 h.2
theorem zSs_7 {m : zMe} (h : zSs m) : zS7 m := fun s s0 s1 => by
  obtain ⟨p1, p2, -⟩ := h.2 s s0 s1
  have := h.1 _ (zS_Sh ⟨s0, s1⟩)
  rw [p1, p2]
  exact ⟨this.1, this.2.1⟩
/-- a change of the now group alone -/
theorem zInv_g {m m2 : zMe} (h : zInv m) (hg : zIg m2 3 51) (h1 : ∀ c, ¬ (3 ≤ c ∧ c ≤ 10) → ¬ (19 ≤ c ∧ c ≤ 40) → ¬ c = 51 → ∀ j, ¬ zSr c j → ¬ (c = 50 ∧ (j = 12 ∨ j = 13 ∨ j = 14)) → m2 c j = m c j) (h8 : -1 ≤ m2 50 8 ∧ m2 50 8 < 512) : zInv m2 := by
  obtain ⟨-, hk, ht, hs, hm⟩ := h
  have e : ∀ c, ¬ (3 ≤ c ∧ c ≤ 10) → ¬ (19 ≤ c ∧ c ≤ 40) → ¬ c = 51 → ¬ (53 ≤ c ∧ c ≤ 55) → ¬ c = 58 → ¬ c = 50 → ∀ j, m2 c j = m c j := fun c q1 q2 q3 q4 q5 q6 j => h1 c q1 q2 q3 j (by unfold zSr; omega) (by omega)
  refine ⟨hg, zIg_c hk (fun c q1 q2 j => e c (by omega) (by omega) (by omega) (by omega) (by omega) (by omega) j) (e 52 (by omega) (by omega) (by omega) (by omega) (by omega) (by omega)), zTa_c ht (e 1 (by omega) (by omega) (by omega) (by omega) (by omega) (by omega)) (e 2 (by omega) (by omega) (by omega) (by omega) (by omega) (by omega)) (h1 50 (by omega) (by omega) (by omega) 11 (by unfold zSr; omega) (by omega)) (e 56 (by omega) (by omega) (by omega) (by omega) (by omega) (by omega)), zSs_c hs (fun c q1 q2 => e c (by omega) (by omega) (by omega) (by omega) (by omega) (by omega)) (fun c q1 q2 => e c (by omega) (by omega) (by omega) (by omega) (by omega) (by omega)), zMi_c hm (h1 50 (by omega) (by omega) (by omega) 2 (by unfold zSr; omega) (by omega)) (e 0 (by omega) (by omega) (by omega) (by omega) (by omega) (by omega) 9) (e 57 (by omega) (by omega) (by omega) (by omega) (by omega) (by omega)) h8⟩
/-- scratch alone -/
theorem zInv_s {m m1 m2 : zMe} (h : zInv m) (hF : zFr 19 m m1) (hY : zY m1 m2) : zInv m2 := by
  have e : ∀ c, ¬ (19 ≤ c ∧ c ≤ 40) → ∀ j, ¬ zSr c j → m2 c j = m c j := fun c q j q2 => by rw [hY.1 c j q2, hF c q j]
  have h8 : -1 ≤ m1 50 8 ∧ m1 50 8 < 512 := by
    rw [hF 50 (by omega) 8]
    exact h.2.2.2.2.2.2
  exact zInv_g h (zIg_c h.1 (fun c q1 q2 j => e c (by omega) j (by unfold zSr; omega)) (fun j => e 51 (by omega) j (by unfold zSr; omega))) (fun c q1 q2 q3 j q4 q5 => e c q2 j q4) (hY.2 h8)
/-- both answer, what holds goes on, and the answers are alike, if they are to be -/
def zPr (A : Option (Int32 × Hp)) (B : Hp → Option (Int32 × Hp)) (E : Prop) : Prop := ∃ v m1 w m2, A = some (v, zM m1) ∧ B (zM m1) = some (w, zM m2) ∧ zInv m2 ∧ (E → v = w)
theorem zPr_of {A : Option (Int32 × Hp)} {B : Hp → Option (Int32 × Hp)} {E : Prop} (h : zOk A (fun v m1 => zOk (B (zM m1)) (fun w m2 => zInv m2 ∧ (E → v = w)))) : zPr A B E := by
  obtain ⟨v, m1, h1, w, m2, h2, h3, h4⟩ := h
  exact ⟨v, m1, w, m2, h1, h2, h3, h4⟩
/-- as the reference stands behind a call of the class that thinks -/
theorem zFr_R {m m1 : zMe} (h : zInv m) (hF : zFr 19 m m1) : zRw m1 ∧ zS7 m1 ∧ -1 ≤ m1 50 8 ∧ m1 50 8 < 512 := by
  have e : ∀ c, 41 ≤ c → ∀ j, m1 c j = m c j := fun c hc j => hF c (by omega) j
  refine ⟨zRw_X (e 51 (by omega)) (zIg_R h.1), fun s s0 s1 => ?_, ?_⟩
  · have := zSs_7 h.2.2.2.1 s s0 s1
    rw [e 59 (by omega), e 60 (by omega)]
    exact this
  · rw [e 50 (by omega)]
    exact h.2.2.2.2.2.2
theorem zp_weak {m : zMe} {A : Option (Int32 × Hp)} {B : Hp → Option (Int32 × Hp)} (h : zInv m) (hA : zOk A (fun (_ : Int32) m1 => zFr 19 m m1)) (hB : ∀ m1, zRw m1 → zS7 m1 → (-1 ≤ m1 50 8 ∧ m1 50 8 < 512) → zOk (B (zM m1)) (fun (_ : Int32) m2 => zY m1 m2)) : zPr A B False := by
  refine zPr_of (hA.mono (fun v m1 hF => ?_))
  obtain ⟨r1, r2, r3⟩ := zFr_R h hF
  exact (hB m1 r1 r2 r3).mono (fun w m2 hY => ⟨zInv_s h hF hY, fun q => q.elim⟩)
theorem zp_exact {m : zMe} {A : Option (Int32 × Hp)} {B : Hp → Option (Int32 × Hp)} {x : Int} {y : zMe → Int} (h : zInv m) (hA : zOk A (fun v m1 => v = zI x ∧ zFr 19 m m1)) (hB : ∀ m1, zRw m1 → zS7 m1 → (-1 ≤ m1 50 8 ∧ m1 50 8 < 512) → zOk (B (zM m1)) (fun w m2 => w = zI (y m1) ∧ zY m1 m2)) (he : ∀ m1, (∀ c, 41 ≤ c → ∀ j, m1 c j = m c j) → x = y m1) : zPr A B True := by
  refine zPr_of (hA.mono (fun v m1 hF => ?_))
  obtain ⟨rfl, hF⟩ := hF
  obtain ⟨r1, r2, r3⟩ := zFr_R h hF
  refine (hB m1 r1 r2 r3).mono (fun w m2 hY => ?_)
  obtain ⟨rfl, hY⟩ := hY
  exact ⟨zInv_s h hF hY, fun _ => by rw [he m1 (fun c hc j => hF c (by omega) j)]⟩
