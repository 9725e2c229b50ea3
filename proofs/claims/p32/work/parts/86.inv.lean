/-! what class and reference keep: the same groups -/
def zEq2 (mc mr : zMe) (r q : Nat) : Prop := (mr q 0 = mc r 0 ∧ mr q 1 = mc r 1 ∧ mr q 2 = mc r 2) ∧ (∀ t, 0 ≤ t → t < mc r 0 → mr q (3 + t) = mc (r + 1) t ∧ mr q (9 + t) = mc (r + 2) t ∧ ∀ i, 0 ≤ i → i < mc (r + 2) t → mr q (15 + 6 * t + i) = mc (r + 3) (t * 6 + i)) ∧ ∀ k, 0 ≤ k → k < mc r 1 → mr q (51 + k) = mc (r + 4) k ∧ mr q (60 + k) = mc (r + 5) k ∧ mr q (69 + k) = mc (r + 6) k ∧ mr q (78 + k) = mc (r + 7) k
theorem zEq2_c {mc mr mc' mr' : zMe} {r q : Nat} (h1 : zSame mc mc' r) (h2 : ∀ j, mr' q j = mr q j) (h : zEq2 mc mr r q) : zEq2 mc' mr' r q := by
  unfold zEq2 at h ⊢
  simp only [h1 r (by omega) (by omega), h1 (r + 1) (by omega) (by omega), h1 (r + 2) (by omega) (by omega), h1 (r + 3) (by omega) (by omega), h1 (r + 4) (by omega) (by omega), h1 (r + 5) (by omega) (by omega), h1 (r + 6) (by omega) (by omega), h1 (r + 7) (by omega) (by omega), h2]
  exact h
/-! the steps by which a group changes -/
theorem zEq2_sys {mc mr : zMe} {r q : Nat} {k : Int} (h : zEq2 mc mr r q) : zEq2 (zU mc r 2 k) (zU mr q 2 k) r q := by
  obtain ⟨⟨h0, h1, h2⟩, ha, hb⟩ := h
  have e : ∀ c, r < c → ∀ j, zU mc r 2 k c j = mc c j := fun c hc j => zU_c (by omega)
  have e0 : zU mc r 2 k r 0 = mc r 0 := zU_k (by omega)
  have e1 : zU mc r 2 k r 1 = mc r 1 := zU_k (by omega)
  refine ⟨⟨?_, ?_, ?_⟩, fun t t0 t1 => ?_, fun j j0 j1 => ?_⟩
  · rw [zU_k (by omega), e0]; exact h0
  · rw [zU_k (by omega), e1]; exact h1
  · rw [zU_e, zU_e]
  · rw [e0] at t1
    obtain ⟨p1, p2, p3⟩ := ha t t0 t1
    rw [e (r + 1) (by omega), e (r + 2) (by omega), zU_k (by omega), zU_k (by omega)]
    refine ⟨p1, p2, fun i i0 i1 => ?_⟩
    rw [e (r + 3) (by omega), zU_k (by omega)]
    exact p3 i i0 i1
  · rw [e1] at j1
    rw [e (r + 4) (by omega), e (r + 5) (by omega), e (r + 6) (by omega), e (r + 7) (by omega), zU_k (by omega), zU_k (by omega), zU_k (by omega), zU_k (by omega)]
    exact hb j j0 j1
theorem zWf_sys {m : zMe} {r : Nat} {k : Int} (h : zWf m r) (hk : 0 ≤ k ∧ k ≤ 2) : zWf (zU m r 2 k) r := by
  obtain ⟨⟨w0, w1, w2⟩, wa, wb, wc⟩ := h
  have e : ∀ c, r < c → ∀ j, zU m r 2 k c j = m c j := fun c hc j => zU_c (by omega)
  have e0 : zU m r 2 k r 0 = m r 0 := zU_k (by omega)
  have e1 : zU m r 2 k r 1 = m r 1 := zU_k (by omega)
  refine ⟨⟨by rw [e0]; exact w0, by rw [e1]; exact w1, by rw [zU_e]; exact hk⟩, fun t t0 t1 => ?_, fun j j0 j1 => ?_, fun j j0 j1 => ?_⟩
  · rw [e0] at t1
    rw [e (r + 1) (by omega), e (r + 2) (by omega)]
    exact wa t t0 t1
  · rw [e1] at j1
    rw [e (r + 4) (by omega), e (r + 5) (by omega), e (r + 6) (by omega), e (r + 7) (by omega), e0]
    exact wb j j0 j1
  · rw [e (r + 3) (by omega)]
    exact wc j j0 j1
theorem zEq2_res {mc mr : zMe} {r q : Nat} {g x : Int} (h : zEq2 mc mr r q) (hW : zWf mc r) (hg : 0 ≤ g ∧ g < mc r 1) : zEq2 (zU mc (r + 7) g x) (zU mr q (78 + g) x) r q := by
  obtain ⟨⟨h0, h1, h2⟩, ha, hb⟩ := h
  have hT := hW.1.1
  have hN := hW.1.2.1
  have e : ∀ c, c < r + 7 → ∀ j, zU mc (r + 7) g x c j = mc c j := fun c hc j => zU_c (by omega)
  refine ⟨⟨?_, ?_, ?_⟩, fun t t0 t1 => ?_, fun j j0 j1 => ?_⟩
  · rw [zU_k (by omega), e r (by omega)]; exact h0
  · rw [zU_k (by omega), e r (by omega)]; exact h1
  · rw [zU_k (by omega), e r (by omega)]; exact h2
  · rw [e r (by omega)] at t1
    obtain ⟨p1, p2, p3⟩ := ha t t0 t1
    have hs := (hW.2.1 t t0 t1).2
    rw [e (r + 1) (by omega), e (r + 2) (by omega), zU_k (by omega), zU_k (by omega)]
    refine ⟨p1, p2, fun i i0 i1 => ?_⟩
    rw [e (r + 3) (by omega), zU_k (by omega)]
    exact p3 i i0 i1
  · rw [e r (by omega)] at j1
    obtain ⟨p1, p2, p3, p4⟩ := hb j j0 j1
    rw [e (r + 4) (by omega), e (r + 5) (by omega), e (r + 6) (by omega), zU_k (by omega), zU_k (by omega), zU_k (by omega)]
    refine ⟨p1, p2, p3, ?_⟩
    by_cases hq : j = g
    · subst hq
      rw [zU_e, zU_e]
    · rw [zU_k (by omega), zU_k (by omega)]
      exact p4
theorem zEq2_sta {mc mr : zMe} {r q : Nat} {g x : Int} (h : zEq2 mc mr r q) (hW : zWf mc r) (hg : 0 ≤ g ∧ g < mc r 0) : zEq2 (zU mc (r + 1) g x) (zU mr q (3 + g) x) r q := by
  obtain ⟨⟨h0, h1, h2⟩, ha, hb⟩ := h
  have hT := hW.1.1
  have hN := hW.1.2.1
  have e : ∀ c, ¬ c = r + 1 → ∀ j, zU mc (r + 1) g x c j = mc c j := fun c hc j => zU_c (by omega)
  refine ⟨⟨?_, ?_, ?_⟩, fun t t0 t1 => ?_, fun j j0 j1 => ?_⟩
  · rw [zU_k (by omega), e r (by omega)]; exact h0
  · rw [zU_k (by omega), e r (by omega)]; exact h1
  · rw [zU_k (by omega), e r (by omega)]; exact h2
  · rw [e r (by omega)] at t1
    obtain ⟨p1, p2, p3⟩ := ha t t0 t1
    have hs := (hW.2.1 t t0 t1).2
    refine ⟨?_, ?_, fun i i0 i1 => ?_⟩
    · by_cases hq : t = g
      · subst hq
        rw [zU_e, zU_e]
      · rw [zU_k (by omega), zU_k (by omega)]
        exact p1
    · rw [zU_k (by omega), e (r + 2) (by omega)]
      exact p2
    · rw [e (r + 2) (by omega)] at i1
      rw [e (r + 3) (by omega), zU_k (by omega)]
      exact p3 i i0 i1
  · rw [e r (by omega)] at j1
    rw [e (r + 4) (by omega), e (r + 5) (by omega), e (r + 6) (by omega), e (r + 7) (by omega), zU_k (by omega), zU_k (by omega), zU_k (by omega), zU_k (by omega)]
    exact hb j j0 j1
theorem zWf_sta {m : zMe} {r : Nat} {g x : Int} (h : zWf m r) (hx : 0 ≤ x ∧ x ≤ 9) : zWf (zU m (r + 1) g x) r := by
  obtain ⟨⟨w0, w1, w2⟩, wa, wb, wc⟩ := h
  have e : ∀ c, ¬ c = r + 1 → ∀ j, zU m (r + 1) g x c j = m c j := fun c hc j => zU_c (by omega)
  refine ⟨⟨by rw [e r (by omega)]; exact w0, by rw [e r (by omega)]; exact w1, by rw [e r (by omega)]; exact w2⟩, fun t t0 t1 => ?_, fun j j0 j1 => ?_, fun j j0 j1 => ?_⟩
  · rw [e r (by omega)] at t1
    have := wa t t0 t1
    rw [e (r + 2) (by omega)]
    by_cases hq : t = g
    · subst hq
      rw [zU_e]
      exact ⟨hx, this.2⟩
    · rw [zU_k hq]
      exact this
  · rw [e r (by omega)] at j1
    rw [e (r + 4) (by omega), e (r + 5) (by omega), e (r + 6) (by omega), e (r + 7) (by omega), e r (by omega)]
    exact wb j j0 j1
  · rw [e (r + 3) (by omega)]
    exact wc j j0 j1
/-- a game more: the class's cells, the reference's -/
def zAg (m : zMe) (r : Nat) (a b d : Int) : zMe := zU (zU (zU (zU (zU m (r + 4) (m r 1) a) (r + 5) (m r 1) b) (r + 6) (m r 1) d) (r + 7) (m r 1) (-1)) r 1 (m r 1 + 1)
def zAr (m : zMe) (q : Nat) (a b d : Int) : zMe := zU (zU (zU (zU (zU m q (51 + m q 1) a) q (60 + m q 1) b) q (69 + m q 1) d) q (78 + m q 1) (-1)) q 1 (m q 1 + 1)
theorem zEq2_gam {mc mr : zMe} {r q : Nat} {a b d : Int} (h : zEq2 mc mr r q) (hW : zWf mc r) (hN9 : mc r 1 < 9) : zEq2 (zAg mc r a b d) (zAr mr q a b d) r q := by
  obtain ⟨⟨h0, h1, h2⟩, ha, hb⟩ := h
  have hT := hW.1.1
  have hN := hW.1.2.1
  have e1 : zAg mc r a b d r 1 = mc r 1 + 1 := zU_e
  have e0 : zAg mc r a b d r 0 = mc r 0 := by
    unfold zAg
    simp (disch := omega) only [zU_k, zU_c]
  have e2 : zAg mc r a b d r 2 = mc r 2 := by
    unfold zAg
    simp (disch := omega) only [zU_k, zU_c]
  have ec : ∀ c, c = r + 1 ∨ c = r + 2 ∨ c = r + 3 → ∀ j, zAg mc r a b d c j = mc c j := fun c hc j => by
    unfold zAg
    simp (disch := omega) only [zU_c]
  unfold zAr
  rw [h1]
  refine ⟨⟨?_, ?_, ?_⟩, fun t t0 t1 => ?_, fun j j0 j1 => ?_⟩
  · simp (disch := omega) only [zU_k]
    rw [e0]; exact h0
  · rw [zU_e, e1]
  · simp (disch := omega) only [zU_k]
    rw [e2]; exact h2
  · rw [e0] at t1
    obtain ⟨p1, p2, p3⟩ := ha t t0 t1
    have hs := (hW.2.1 t t0 t1).2
    rw [ec (r + 1) (by omega), ec (r + 2) (by omega)]
    refine ⟨?_, ?_, fun i i0 i1 => ?_⟩
    · simp (disch := omega) only [zU_k]
      exact p1
    · simp (disch := omega) only [zU_k]
      exact p2
    · simp (disch := omega) only [zU_k]
      rw [ec (r + 3) (by omega)]
      exact p3 i i0 i1
  · rw [e1] at j1
    unfold zAg
    by_cases hq : j = mc r 1
    · subst hq
      refine ⟨?_, ?_, ?_, ?_⟩
      all_goals simp (disch := omega) only [zU_k, zU_c, zU_e]
    · obtain ⟨p1, p2, p3, p4⟩ := hb j j0 (by omega)
      refine ⟨?_, ?_, ?_, ?_⟩
      all_goals simp (disch := omega) only [zU_k, zU_c, zU_e]
      · exact p1
      · exact p2
      · exact p3
      · exact p4
theorem zWf_gam {m : zMe} {r : Nat} {a b d : Int} (h : zWf m r) (hN9 : m r 1 < 9) (ha : 0 ≤ a ∧ a < m r 0) (hb : 0 ≤ b ∧ b < m r 0) (hn : ¬ a = b) (hd : 1 ≤ d ∧ d ≤ 30) : zWf (zAg m r a b d) r := by
  obtain ⟨⟨w0, w1, w2⟩, wa, wb, wc⟩ := h
  have e1 : zAg m r a b d r 1 = m r 1 + 1 := zU_e
  have e0 : zAg m r a b d r 0 = m r 0 := by
    unfold zAg
    simp (disch := omega) only [zU_k, zU_c]
  have e2 : zAg m r a b d r 2 = m r 2 := by
    unfold zAg
    simp (disch := omega) only [zU_k, zU_c]
  have ec : ∀ c, c = r + 1 ∨ c = r + 2 ∨ c = r + 3 → ∀ j, zAg m r a b d c j = m c j := fun c hc j => by
    unfold zAg
    simp (disch := omega) only [zU_c]
  refine ⟨⟨by rw [e0]; exact w0, by rw [e1]; omega, by rw [e2]; exact w2⟩, fun t t0 t1 => ?_, fun j j0 j1 => ?_, fun j j0 j1 => ?_⟩
  · rw [e0] at t1
    rw [ec (r + 1) (by omega), ec (r + 2) (by omega)]
    exact wa t t0 t1
  · rw [e1] at j1
    rw [e0]
    unfold zAg
    by_cases hq : j = m r 1
    · subst hq
      simp (disch := omega) only [zU_k, zU_c, zU_e]
      omega
    · simp (disch := omega) only [zU_k, zU_c, zU_e]
      exact wb j j0 (by omega)
  · rw [ec (r + 3) (by omega)]
    exact wc j j0 j1
/-- a team more -/
def zAt (m : zMe) (r : Nat) (b s : Int) : zMe := zU (zU (zF (zU m (r + 2) (m r 0) s) (r + 3) (m r 0 * 6) s (fun i => m 2 (b + i))) (r + 1) (m r 0) 0) r 0 (m r 0 + 1)
def zAu (m : zMe) (q : Nat) (b s : Int) : zMe := zU (zF (zU (zU m q (3 + m q 0) 0) q (9 + m q 0) s) q (15 + 6 * m q 0) s (fun i => m 56 (b + i))) q 0 (m q 0 + 1)
theorem zEq2_tea {mc mr : zMe} {r q : Nat} {b s : Int} (h : zEq2 mc mr r q) (hW : zWf mc r) (hT6 : mc r 0 < 6) (hs : 1 ≤ s ∧ s ≤ 6) (hb : ∀ i, 0 ≤ i → i < s → mr 56 (b + i) = mc 2 (b + i)) : zEq2 (zAt mc r b s) (zAu mr q b s) r q := by
  obtain ⟨⟨h0, h1, h2⟩, ha, hbb⟩ := h
  have hT := hW.1.1
  have hN := hW.1.2.1
  have e0 : zAt mc r b s r 0 = mc r 0 + 1 := zU_e
  have e1 : zAt mc r b s r 1 = mc r 1 := by
    unfold zAt
    simp (disch := omega) only [zU_k, zU_c, zF_c]
  have e2 : zAt mc r b s r 2 = mc r 2 := by
    unfold zAt
    simp (disch := omega) only [zU_k, zU_c, zF_c]
  have ec : ∀ c, c = r + 4 ∨ c = r + 5 ∨ c = r + 6 ∨ c = r + 7 → ∀ j, zAt mc r b s c j = mc c j := fun c hc j => by
    unfold zAt
    simp (disch := omega) only [zU_c, zF_c]
  have eT : ∀ t, zAt mc r b s (r + 1) t = if t = mc r 0 then 0 else mc (r + 1) t := fun t => by
    unfold zAt
    by_cases hq : t = mc r 0
    · subst hq
      rw [if_pos rfl]
      simp (disch := omega) only [zU_c, zU_e]
    · rw [if_neg hq]
      simp (disch := omega) only [zU_c, zU_k, zF_c]
  have eS : ∀ t, zAt mc r b s (r + 2) t = if t = mc r 0 then s else mc (r + 2) t := fun t => by
    unfold zAt
    by_cases hq : t = mc r 0
    · subst hq
      rw [if_pos rfl]
      simp (disch := omega) only [zU_c, zU_e, zF_c]
    · rw [if_neg hq]
      simp (disch := omega) only [zU_c, zU_k, zF_c]
  unfold zAu
  rw [h0]
  refine ⟨⟨?_, ?_, ?_⟩, fun t t0 t1 => ?_, fun j j0 j1 => ?_⟩
  · rw [zU_e, e0]
  · simp (disch := omega) only [zU_k, zF_o]
    rw [e1]; exact h1
  · simp (disch := omega) only [zU_k, zF_o]
    rw [e2]; exact h2
  · rw [e0] at t1
    by_cases hq : t = mc r 0
    · subst hq
      rw [eT, if_pos rfl, eS, if_pos rfl]
      refine ⟨?_, ?_, fun i i0 i1 => ?_⟩
      · simp (disch := omega) only [zU_k, zU_e, zF_o]
      · simp (disch := omega) only [zU_k, zU_e, zF_o]
      · rw [zU_k (by omega), zF_i (by omega)]
        unfold zAt
        rw [zU_c (by omega), zU_c (by omega), zF_i (by omega)]
        have g1 : 15 + 6 * mc r 0 + i - (15 + 6 * mc r 0) = i := by omega
        have g2 : mc r 0 * 6 + i - mc r 0 * 6 = i := by omega
        rw [g1, g2]
        exact hb i i0 i1
    · obtain ⟨p1, p2, p3⟩ := ha t t0 (by omega)
      have hs := (hW.2.1 t t0 (by omega)).2
      rw [eT, if_neg hq, eS, if_neg hq]
      refine ⟨?_, ?_, fun i i0 i1 => ?_⟩
      · simp (disch := omega) only [zU_k, zF_o]
        exact p1
      · simp (disch := omega) only [zU_k, zF_o]
        exact p2
      · rw [zU_k (by omega), zF_o (by omega), zU_k (by omega), zU_k (by omega)]
        unfold zAt
        rw [zU_c (by omega), zU_c (by omega), zF_o (by omega), zU_c (by omega)]
        exact p3 i i0 i1
  · rw [e1] at j1
    rw [ec (r + 4) (by omega), ec (r + 5) (by omega), ec (r + 6) (by omega), ec (r + 7) (by omega)]
    simp (disch := omega) only [zU_k, zF_o]
    exact hbb j j0 j1
theorem zWf_tea {m : zMe} {r : Nat} {b s : Int} (h : zWf m r) (hr2 : ¬ r + 3 = 2) (hT6 : m r 0 < 6) (hs : 1 ≤ s ∧ s ≤ 6) (hb : ∀ i, 0 ≤ i → i < s → 0 ≤ m 2 (b + i) ∧ m 2 (b + i) ≤ 255) : zWf (zAt m r b s) r := by
  obtain ⟨⟨w0, w1, w2⟩, wa, wb, wc⟩ := h
  have e0 : zAt m r b s r 0 = m r 0 + 1 := zU_e
  have e1 : zAt m r b s r 1 = m r 1 := by
    unfold zAt
    simp (disch := omega) only [zU_k, zU_c, zF_c]
  have e2 : zAt m r b s r 2 = m r 2 := by
    unfold zAt
    simp (disch := omega) only [zU_k, zU_c, zF_c]
  have ec : ∀ c, c = r + 4 ∨ c = r + 5 ∨ c = r + 6 ∨ c = r + 7 → ∀ j, zAt m r b s c j = m c j := fun c hc j => by
    unfold zAt
    simp (disch := omega) only [zU_c, zF_c]
  refine ⟨⟨by rw [e0]; omega, by rw [e1]; exact w1, by rw [e2]; exact w2⟩, fun t t0 t1 => ?_, fun j j0 j1 => ?_, fun j j0 j1 => ?_⟩
  · rw [e0] at t1
    unfold zAt
    by_cases hq : t = m r 0
    · subst hq
      simp (disch := omega) only [zU_k, zU_c, zU_e, zF_c]
      omega
    · simp (disch := omega) only [zU_k, zU_c, zU_e, zF_c]
      exact wa t t0 (by omega)
  · rw [e1] at j1
    rw [ec (r + 4) (by omega), ec (r + 5) (by omega), ec (r + 6) (by omega), ec (r + 7) (by omega), e0]
    have := wb j j0 j1
    omega
  · unfold zAt
    rw [zU_c (by omega), zU_c (by omega)]
    by_cases hq : m r 0 * 6 ≤ j ∧ j < m r 0 * 6 + s
    · rw [zF_i hq]
      exact hb _ (by omega) (by omega)
    · rw [zF_o hq, zU_c (by omega)]
      exact wc j j0 j1
