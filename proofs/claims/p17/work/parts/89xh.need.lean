/-! needs: class and reference tell the same -/
/-- the result by which own game k is won or lost -/
noncomputable def zWr (m : zMe) (t : Int) (won : Nat) (k : Nat) : Int := @ite Int ((won.testBit k = true) = (m 51 (51 + (k : Int)) = t)) (Classical.propDecidable _) 1 2
noncomputable def zOwg (m : zMe) (t : Int) (own won : Nat) (n : Nat) (u : Int) : Int := zSm n (fun k => if own.testBit k = true then zGn (m 51 2) (m 51 (51 + (k : Int))) (m 51 (60 + (k : Int))) (zWr m t won k) u else 0)
theorem zWr_12 {m : zMe} {t : Int} {won k : Nat} : zWr m t won k = 1 ∨ zWr m t won k = 2 := by
  unfold zWr
  by_cases h : (won.testBit k = true) = (m 51 (51 + (k : Int)) = t)
  · rw [if_pos h]
    exact Or.inl rfl
  · rw [if_neg h]
    exact Or.inr rfl
theorem zWr_t {m : zMe} {t : Int} {won k : Nat} (hk : m 51 (51 + (k : Int)) = t) : zWr m t won k = if won.testBit k = true then 1 else 2 := by
  unfold zWr
  by_cases h : won.testBit k = true
  · rw [if_pos h, if_pos (by rw [eq_iff_iff]; exact ⟨fun _ => hk, fun _ => h⟩)]
  · rw [if_neg h, if_neg (by rw [eq_iff_iff]; exact fun q => h (q.mpr hk))]
theorem zWr_f {m : zMe} {t : Int} {won k : Nat} (hk : ¬ m 51 (51 + (k : Int)) = t) : zWr m t won k = if won.testBit k = true then 2 else 1 := by
  unfold zWr
  by_cases h : won.testBit k = true
  · rw [if_pos h, if_neg (by rw [eq_iff_iff]; exact fun q => hk (q.mp h))]
  · rw [if_neg h, if_pos (by rw [eq_iff_iff]; exact ⟨fun q => absurd q h, fun q => absurd q hk⟩)]
theorem zOwg_range {m : zMe} {t u : Int} {own won n : Nat} (hR : zRw m) (hn : (n : Int) ≤ m 51 1) : 0 ≤ zOwg m t own won n u ∧ zOwg m t own won n u ≤ n * 3 := by
  have hK := hR.1.2.2
  have h := zSm_range (n := n) (f := fun k => if own.testBit k = true then zGn (m 51 2) (m 51 (51 + (k : Int))) (m 51 (60 + (k : Int))) (zWr m t won k) u else 0) (a := 0) (b := 3) (by omega) (by omega) (fun k hk => by
    obtain ⟨g1, g2, g3, g4, g5⟩ := hR.2.2 (k : Int) (by omega) (by omega)
    have q1 := zGn_0 (o := m 51 (51 + (k : Int))) (p := m 51 (60 + (k : Int))) (x := zWr m t won k) (u := u) hK
    have q2 := zGn_le (x := zWr m t won k) (u := u) hK g4
    split
    · split at q2 <;> omega
    · omega)
  unfold zOwg
  omega
/-- points of t and of another, own games so -/
theorem zOwg_t {M mc : zMe} {t : Int} {won : Nat} (hC : zCr M mc 3) (hW : zWf mc 3) (hs : won &&& zOwn mc 3 t = won) : zOwg M t (zOwn mc 3 t) won (mc 3 1).toNat t = (mc 3 2 + 1) * (zPop won : Nat) := by
  obtain ⟨⟨h0, h1, h2⟩, hg, hp⟩ := hC
  have hN := hW.1.2.1
  have e1 : zPop won = zPn (mc 3 1).toNat (fun k => won.testBit k) := by
    obtain ⟨j, hj⟩ : ∃ j, 9 = (mc 3 1).toNat + j := ⟨9 - (mc 3 1).toNat, by omega⟩
    show zPn 9 (fun k => won.testBit k) = _
    rw [hj]
    refine zPn_zero (fun k hk => ?_)
    cases hb : won.testBit k with
    | false => rfl
    | true =>
      have := zSb_bit hs hb
      unfold zOwn at this
      rw [zBn_bit, decide_eq_false (by omega)] at this
      cases this
  rw [e1, zPn_Sm, ← zSm_mul]
  unfold zOwg
  refine zSm_congr (fun k hk => ?_)
  obtain ⟨g1, g2, g3⟩ := hg (k : Int) (by omega) (by omega)
  have hgg := hW.2.2.1 (k : Int) (by omega) (by omega)
  have ho : (zOwn mc 3 t).testBit k = decide (mc (3 + 7) (k : Int) = -1 ∧ (mc (3 + 4) (k : Int) = t ∨ mc (3 + 5) (k : Int) = t)) := by
    unfold zOwn
    rw [zBn_bit, decide_eq_true hk]
    rfl
  by_cases hown : (zOwn mc 3 t).testBit k = true
  · have hown' := of_decide_eq_true (ho.symm.trans hown)
    rw [if_pos hown, h2, g1, g2]
    by_cases ht : mc (3 + 4) (k : Int) = t
    · rw [zWr_t (by rw [g1]; exact ht)]
      unfold zGn
      rw [if_pos ht.symm, if_neg (show ¬ t = mc (3 + 5) (k : Int) by omega)]
      by_cases hb : won.testBit k = true
      · simp only [if_pos hb]
        simp
      · simp only [if_neg hb]
        simp
    · rw [zWr_f (by rw [g1]; exact ht)]
      unfold zGn
      rw [if_neg (show ¬ t = mc (3 + 4) (k : Int) by omega), if_pos (show t = mc (3 + 5) (k : Int) by omega)]
      by_cases hb : won.testBit k = true
      · simp only [if_pos hb]
        simp
      · simp only [if_neg hb]
        simp
  · rw [if_neg hown, if_neg (fun q => hown (zSb_bit hs q))]
    omega
theorem zOwg_u {M mc : zMe} {t u : Int} {won : Nat} (hC : zCr M mc 3) (hW : zWf mc 3) (hu : ¬ u = t) : zOwg M t (zOwn mc 3 t) won (mc 3 1).toNat u = zLo mc 3 t won (mc 3 1).toNat u := by
  obtain ⟨⟨h0, h1, h2⟩, hg, hp⟩ := hC
  have hN := hW.1.2.1
  unfold zOwg zLo
  refine zSm_congr (fun k hk => ?_)
  obtain ⟨g1, g2, g3⟩ := hg (k : Int) (by omega) (by omega)
  have hgg := hW.2.2.1 (k : Int) (by omega) (by omega)
  have ho : (zOwn mc 3 t).testBit k = decide (mc (3 + 7) (k : Int) = -1 ∧ (mc (3 + 4) (k : Int) = t ∨ mc (3 + 5) (k : Int) = t)) := by
    unfold zOwn
    rw [zBn_bit, decide_eq_true hk]
    rfl
  by_cases hown : (zOwn mc 3 t).testBit k = true
  · have hown' := of_decide_eq_true (ho.symm.trans hown)
    rw [if_pos hown, h2, g1, g2]
    by_cases ht : mc (3 + 4) (k : Int) = t
    · rw [zWr_t (by rw [g1]; exact ht)]
      unfold zGn
      rw [if_neg (show ¬ u = mc (3 + 4) (k : Int) by omega)]
      by_cases hb : won.testBit k = true
      · rw [if_neg (show ¬ (mc (3 + 7) (k : Int) = -1 ∧ won.testBit k = false ∧ _) from fun w => by rw [hb] at w; exact absurd w.2.1 (by simp))]
        simp only [if_pos hb]
        simp
      · by_cases hf : u = mc (3 + 5) (k : Int)
        · have hc : mc (3 + 7) (k : Int) = -1 ∧ won.testBit k = false ∧ ((mc (3 + 4) (k : Int) = t ∧ mc (3 + 5) (k : Int) = u) ∨ (mc (3 + 5) (k : Int) = t ∧ mc (3 + 4) (k : Int) = u)) := ⟨hown'.1, by simpa using hb, Or.inl ⟨ht, hf.symm⟩⟩
          rw [if_pos hf, if_pos hc]
          simp only [if_neg hb]
          simp
        · rw [if_neg hf, if_neg (show ¬ (mc (3 + 7) (k : Int) = -1 ∧ won.testBit k = false ∧ _) from fun w => by have := w.2.2; omega)]
          rfl
    · rw [zWr_f (by rw [g1]; exact ht)]
      unfold zGn
      rw [if_neg (show ¬ u = mc (3 + 5) (k : Int) by omega)]
      by_cases hb : won.testBit k = true
      · rw [if_neg (show ¬ (mc (3 + 7) (k : Int) = -1 ∧ won.testBit k = false ∧ _) from fun w => by rw [hb] at w; exact absurd w.2.1 (by simp))]
        simp only [if_pos hb]
        simp
      · by_cases hf : u = mc (3 + 4) (k : Int)
        · have hc : mc (3 + 7) (k : Int) = -1 ∧ won.testBit k = false ∧ ((mc (3 + 4) (k : Int) = t ∧ mc (3 + 5) (k : Int) = u) ∨ (mc (3 + 5) (k : Int) = t ∧ mc (3 + 4) (k : Int) = u)) := ⟨hown'.1, by simpa using hb, Or.inr ⟨by omega, hf.symm⟩⟩
          rw [if_pos hf, if_pos hc]
          simp only [if_neg hb]
          simp
        · rw [if_neg hf, if_neg (show ¬ (mc (3 + 7) (k : Int) = -1 ∧ won.testBit k = false ∧ _) from fun w => by have := w.2.2; omega)]
          rfl
  · have hown' : ¬ (mc (3 + 7) (k : Int) = -1 ∧ (mc (3 + 4) (k : Int) = t ∨ mc (3 + 5) (k : Int) = t)) := fun w => hown (by rw [ho]; exact decide_eq_true w)
    rw [if_neg hown, if_neg (fun w => hown' ⟨w.1, by have := w.2.2; omega⟩)]
theorem zOwn_Cr {M mc : zMe} {t : Int} (hC : zCr M mc 3) (hW : zWf mc 3) : zOwn (zV M) 3 t = zOwn mc 3 t := by
  obtain ⟨⟨h0, h1, h2⟩, hg, hp⟩ := hC
  have hN := hW.1.2.1
  have e7 : zOwn (zV M) 3 t = zBn (M 51 1).toNat (fun k => decide (M 53 (k : Int) = -1 ∧ (M 51 (51 + (k : Int)) = t ∨ M 51 (60 + (k : Int)) = t))) := rfl
  rw [e7, h1]
  unfold zOwn
  refine zBn_congr (fun k hk => ?_)
  obtain ⟨g1, g2, g3⟩ := hg (k : Int) (by omega) (by omega)
  rw [g1, g2, g3]
