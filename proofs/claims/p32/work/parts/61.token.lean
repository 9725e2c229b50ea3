/-! Tape: a step, its end, names, numbers -/
theorem zSt_self (m : zMe) : m = zSt m (m 1 2) (m 1 3) (m 1 4) := by
  funext c j
  unfold zSt zU
  by_cases hc : c = 1
  · subst hc
    simp only [if_true]
    by_cases h4 : j = 4
    · simp [h4]
    · by_cases h3 : j = 3
      · simp [h3]
      · by_cases h2 : j = 2
        · simp [h2]
        · simp [h2, h3, h4]
  · simp [hc]
theorem zSt_2 (m : zMe) (b e s x : Int) : zU (zSt m b e s) 1 2 x = zSt m x e s := by
  funext c j
  unfold zSt zU
  by_cases hc : c = 1
  · subst hc
    simp only [if_true]
    by_cases h4 : j = 4
    · simp [h4]
    · by_cases h3 : j = 3
      · simp [h3]
      · by_cases h2 : j = 2
        · simp [h2]
        · simp [h2, h3, h4]
  · simp [hc]
theorem zSt_St (m : zMe) (b e s b' e' s' : Int) : zSt (zSt m b e s) b' e' s' = zSt m b' e' s' := by
  funext c j
  unfold zSt zU
  by_cases hc : c = 1
  · subst hc
    simp only [if_true]
    by_cases h4 : j = 4
    · simp [h4]
    · by_cases h3 : j = 3
      · simp [h3]
      · by_cases h2 : j = 2
        · simp [h2]
        · simp [h2, h3, h4]
  · simp [hc]
def zTok (m : zMe) : zMe := zSt m (zTb (m 2) (m 1 1) (m 1 3)) (zTe (m 2) (m 1 1) (m 1 3)) (zTs (m 2) (m 1 1) (m 1 3))
theorem s4_step8 {m : zMe} {b e0 s0 B : Int} (r2 : 0 ≤ m 1 1 ∧ m 1 1 ≤ 40) (hb : 0 ≤ b ∧ b ≤ m 1 1) (a1 : ∀ j, 0 ≤ j → j < 40 → 0 ≤ m 2 j ∧ m 2 j ≤ 255) (hB : B = zSkip (m 2) (m 1 1) 41 b) : zOk (lp f_X4_step_8 600 1 (zM (zSt m b e0 s0))) (fun (_ : Unit) m1 => m1 = zSt m B (if zSo m B = 1 ∨ zSo m B = 2 then zRun (m 2) (m 1 1) (zSo m B) 41 B else B) (zSo m B)) := by
  refine z_lp (fun n v m1 => ∃ (p : Int) (q : Nat), v = 1 ∧ b ≤ p ∧ p ≤ m 1 1 ∧ m 1 1 - p < q ∧ n = (m 1 1 - p).toNat ∧ m1 = zSt m p e0 s0 ∧ B = zSkip (m 2) (m 1 1) q p) (fun _ _ _ m1 => m1 = zSt m B (if zSo m B = 1 ∨ zSo m B = 2 then zRun (m 2) (m 1 1) (zSo m B) 41 B else B) (zSo m B)) ?_ 600 (m 1 1 - b).toNat _ _ (by omega) ⟨b, 41, rfl, by omega, by omega, by omega, rfl, rfl, hB⟩
  rintro n v m1 k ⟨p, q, rfl, g0, g1, g2, rfl, rfl, hB⟩ hk
  have hp := a1 p
  obtain ⟨q, rfl⟩ : ∃ q', q = q' + 1 := ⟨q - 1, by omega⟩
  unfold zSkip at hB
  unfold f_X4_step_8
  dsimp only
  refine z_I (y := p) (by with_unfolding_all rfl) (zSt_r2 _ _ _ _) ?_
  refine z_I (y := m 1 1) (by with_unfolding_all rfl) (zSt_r1 _ _ _ _) ?_
  (first
    | (with_reducible apply z_B; all_goals (intro _; try (exfalso; omega)))
    | (with_reducible apply z_E; all_goals intro _)
    | (with_reducible apply z_lt; (case ha => repeat (with_reducible first | exact zv_l _ | exact zv_r | apply zv_add | apply zv_sub)); (case hb => repeat (with_reducible first | exact zv_l _ | exact zv_r | apply zv_add | apply zv_sub)); (case hx => omega); (case hy => omega); all_goals (intro _; try (exfalso; omega)))
    | (with_reducible apply z_le; (case ha => repeat (with_reducible first | exact zv_l _ | exact zv_r | apply zv_add | apply zv_sub)); (case hb => repeat (with_reducible first | exact zv_l _ | exact zv_r | apply zv_add | apply zv_sub)); (case hx => omega); (case hy => omega); all_goals (intro _; try (exfalso; omega)))
    | (with_reducible apply z_eq; (case ha => repeat (with_reducible first | exact zv_l _ | exact zv_r | apply zv_add | apply zv_sub)); (case hb => repeat (with_reducible first | exact zv_l _ | exact zv_r | apply zv_add | apply zv_sub)); (case hx => omega); (case hy => omega); all_goals (intro _; try (exfalso; omega))))
  · rw [if_neg (by omega)] at hB
    rw [hB]
    exact s4_step47 r2 (by omega) a1
  · have hp := hp (by omega) (by omega)
    (first
    | (with_reducible apply z_I; (case h => first | with_unfolding_all rfl); (case hy => first | ((simp (disch := omega) only [zU_c, zU_e, zU_k, zF_c, zF_i, zF_o, zW_o, zW_i, zC_c, zC_i, zC_o]); rfl) | rfl))
    | (with_reducible apply z_b_R; (case h => first | with_unfolding_all rfl))
    | (with_reducible apply z_PU; (case he => repeat (with_reducible first | exact zv_l _ | exact zv_r | apply zv_add | apply zv_sub)); (case h => with_reducible first | exact zp_1_2 _))
    | (with_reducible apply z_L; (case he => repeat (with_reducible first | exact zv_l _ | exact zv_r | apply zv_add | apply zv_sub)); (case hn => with_reducible first | assumption | exact zl_2 | exact zl_40); (case h => omega); (case hy => first | ((simp (disch := omega) only [zU_c, zU_e, zU_k, zF_c, zF_i, zF_o, zW_o, zW_i, zC_c, zC_i, zC_o]); rfl) | rfl))
    | (with_reducible apply z_4isBlank; (case e1 => repeat (with_reducible first | exact zv_l _ | exact zv_r | apply zv_add | apply zv_sub)); (case r1 => first | omega | ((simp (disch := omega) only [zU_c, zU_e, zU_k, zF_c, zF_i, zF_o, zW_o, zW_i, zC_c, zC_i, zC_o]); omega))))
    refine z_I (y := p) (by with_unfolding_all rfl) (zSt_r2 _ _ _ _) ?_
    refine z_L (y := m 2 p) (x := p) rfl zl_2 (by omega) (zSt_c (by omega)) ?_
    (first
    | (with_reducible apply z_I; (case h => first | with_unfolding_all rfl); (case hy => first | ((simp (disch := omega) only [zU_c, zU_e, zU_k, zF_c, zF_i, zF_o, zW_o, zW_i, zC_c, zC_i, zC_o]); rfl) | rfl))
    | (with_reducible apply z_b_R; (case h => first | with_unfolding_all rfl))
    | (with_reducible apply z_PU; (case he => repeat (with_reducible first | exact zv_l _ | exact zv_r | apply zv_add | apply zv_sub)); (case h => with_reducible first | exact zp_1_2 _))
    | (with_reducible apply z_L; (case he => repeat (with_reducible first | exact zv_l _ | exact zv_r | apply zv_add | apply zv_sub)); (case hn => with_reducible first | assumption | exact zl_2 | exact zl_40); (case h => omega); (case hy => first | ((simp (disch := omega) only [zU_c, zU_e, zU_k, zF_c, zF_i, zF_o, zW_o, zW_i, zC_c, zC_i, zC_o]); rfl) | rfl))
    | (with_reducible apply z_4isBlank; (case e1 => repeat (with_reducible first | exact zv_l _ | exact zv_r | apply zv_add | apply zv_sub)); (case r1 => first | omega | ((simp (disch := omega) only [zU_c, zU_e, zU_k, zF_c, zF_i, zF_o, zW_o, zW_i, zC_c, zC_i, zC_o]); omega))))
    (first
    | (with_reducible apply z_B; all_goals (intro _; try (exfalso; omega)))
    | (with_reducible apply z_E; all_goals intro _)
    | (with_reducible apply z_lt; (case ha => repeat (with_reducible first | exact zv_l _ | exact zv_r | apply zv_add | apply zv_sub)); (case hb => repeat (with_reducible first | exact zv_l _ | exact zv_r | apply zv_add | apply zv_sub)); (case hx => omega); (case hy => omega); all_goals (intro _; try (exfalso; omega)))
    | (with_reducible apply z_le; (case ha => repeat (with_reducible first | exact zv_l _ | exact zv_r | apply zv_add | apply zv_sub)); (case hb => repeat (with_reducible first | exact zv_l _ | exact zv_r | apply zv_add | apply zv_sub)); (case hx => omega); (case hy => omega); all_goals (intro _; try (exfalso; omega)))
    | (with_reducible apply z_eq; (case ha => repeat (with_reducible first | exact zv_l _ | exact zv_r | apply zv_add | apply zv_sub)); (case hb => repeat (with_reducible first | exact zv_l _ | exact zv_r | apply zv_add | apply zv_sub)); (case hx => omega); (case hy => omega); all_goals (intro _; try (exfalso; omega))))
    · rename_i h
      rw [if_neg (fun w => h w.2)] at hB
      rw [hB]
      exact s4_step47 r2 (by omega) a1
    · rename_i h
      refine z_I (y := p) (by with_unfolding_all rfl) (zSt_r2 _ _ _ _) ?_
      (first
    | (with_reducible apply z_I; (case h => first | with_unfolding_all rfl); (case hy => first | ((simp (disch := omega) only [zU_c, zU_e, zU_k, zF_c, zF_i, zF_o, zW_o, zW_i, zC_c, zC_i, zC_o]); rfl) | rfl))
    | (with_reducible apply z_b_R; (case h => first | with_unfolding_all rfl))
    | (with_reducible apply z_PU; (case he => repeat (with_reducible first | exact zv_l _ | exact zv_r | apply zv_add | apply zv_sub)); (case h => with_reducible first | exact zp_1_2 _))
    | (with_reducible apply z_L; (case he => repeat (with_reducible first | exact zv_l _ | exact zv_r | apply zv_add | apply zv_sub)); (case hn => with_reducible first | assumption | exact zl_2 | exact zl_40); (case h => omega); (case hy => first | ((simp (disch := omega) only [zU_c, zU_e, zU_k, zF_c, zF_i, zF_o, zW_o, zW_i, zC_c, zC_i, zC_o]); rfl) | rfl))
    | (with_reducible apply z_4isBlank; (case e1 => repeat (with_reducible first | exact zv_l _ | exact zv_r | apply zv_add | apply zv_sub)); (case r1 => first | omega | ((simp (disch := omega) only [zU_c, zU_e, zU_k, zF_c, zF_i, zF_o, zW_o, zW_i, zC_c, zC_i, zC_o]); omega))))
      rw [zSt_2]
      refine hk _ _ _ (by omega) ⟨p + 1, q, rfl, by omega, by omega, by omega, rfl, rfl, ?_⟩
      rw [hB, if_pos ⟨by omega, h⟩]
set_option maxRecDepth 100000 in
set_option maxHeartbeats 1000000 in
theorem s_4step {m : zMe} (r1 : 0 ≤ m 1 1 ∧ m 1 1 ≤ 40) (r2 : 0 ≤ m 1 3 ∧ m 1 3 ≤ m 1 1) (a1 : ∀ j, 0 ≤ j → j < 40 → 0 ≤ m 2 j ∧ m 2 j ≤ 255) : f_X4_step 1 (zM m) = some ((), zM (zTok m)) := by
  refine zOk.eq ?_
  unfold f_X4_step
  repeat' (first
    | (with_reducible apply z_b_ck; (case h => with_unfolding_all rfl))
    | (with_reducible apply z_I; (case h => first | with_unfolding_all rfl); (case hy => first | ((simp (disch := omega) only [zU_c, zU_e, zU_k, zF_c, zF_i, zF_o, zW_o, zW_i, zC_c, zC_i, zC_o]); rfl) | rfl))
    | (with_reducible apply z_PU; (case he => repeat (with_reducible first | exact zv_l _ | exact zv_r)); (case h => with_reducible first | exact zp_1_2 _)))
  have e : zU m 1 2 (m 1 3) = zSt m (m 1 3) (m 1 3) (m 1 4) := by
    have := zSt_2 m (m 1 2) (m 1 3) (m 1 4) (m 1 3)
    rw [← zSt_self m] at this
    exact this
  rw [e]
  exact (s4_step8 r1 r2 a1 rfl).mono (fun v m1 h => ⟨rfl, h⟩)
theorem z_4step {m : zMe} (r1 : 0 ≤ m 1 1 ∧ m 1 1 ≤ 40) (r2 : 0 ≤ m 1 3 ∧ m 1 3 ≤ m 1 1) (a1 : ∀ j, 0 ≤ j → j < 40 → 0 ≤ m 2 j ∧ m 2 j ≤ 255) {α : Type} {kf : Unit × Hp → Option (α × Hp)} {Q : α → zMe → Prop} (K : zOk (kf ((), zM (zTok m))) Q) : zOk ((f_X4_step 1 (zM m)).bind kf) Q := z_b (s_4step r1 r2 a1) K
theorem zTok_r1 (m : zMe) : zTok m 1 1 = m 1 1 := zSt_r1 _ _ _ _
theorem zTok_r2 (m : zMe) : zTok m 1 2 = zTb (m 2) (m 1 1) (m 1 3) := zSt_r2 _ _ _ _
theorem zTok_r3 (m : zMe) : zTok m 1 3 = zTe (m 2) (m 1 1) (m 1 3) := zSt_r3 _ _ _ _
theorem zTok_r4 (m : zMe) : zTok m 1 4 = zTs (m 2) (m 1 1) (m 1 3) := zSt_r4 _ _ _ _
theorem zTok_c {m : zMe} {c : Nat} {j : Int} (h : ¬ c = 1) : zTok m c j = m c j := zSt_c h
/-- a token lies in the tape -/
theorem zTok_range {m : zMe} (r1 : 0 ≤ m 1 1 ∧ m 1 1 ≤ 40) (r2 : 0 ≤ m 1 3 ∧ m 1 3 ≤ m 1 1) : (0 ≤ zTok m 1 2 ∧ zTok m 1 2 ≤ zTok m 1 3 ∧ zTok m 1 3 ≤ zTok m 1 1) ∧ 0 ≤ zTok m 1 4 ∧ zTok m 1 4 ≤ 3 := by
  rw [zTok_r1, zTok_r2, zTok_r3, zTok_r4]
  have h1 := zSkip_range (m 2) (m 1 1) 41 (m 1 3) r2.2
  have h2 := zRun_range (m 2) (m 1 1) (zTs (m 2) (m 1 1) (m 1 3)) 41 (zTb (m 2) (m 1 1) (m 1 3)) h1.2
  have h3 := zSoF_range (m 2) (m 1 1) (zTb (m 2) (m 1 1) (m 1 3))
  unfold zTe
  have h1 : m 1 3 ≤ zTb (m 2) (m 1 1) (m 1 3) ∧ zTb (m 2) (m 1 1) (m 1 3) ≤ m 1 1 := h1
  have h3 : 0 ≤ zTs (m 2) (m 1 1) (m 1 3) ∧ zTs (m 2) (m 1 1) (m 1 3) ≤ 3 := h3
  split <;> omega
set_option maxRecDepth 100000 in
set_option maxHeartbeats 1000000 in
theorem s_4ends {m : zMe} (r1 : 0 ≤ m 1 1 ∧ m 1 1 ≤ 40) (r2 : 0 ≤ m 1 3 ∧ m 1 3 ≤ m 1 1) (a1 : ∀ j, 0 ≤ j → j < 40 → 0 ≤ m 2 j ∧ m 2 j ≤ 255) : f_X4_ends 1 (zM m) = some (zI (zB (zTok m 1 4 = 0)), zM (zTok m)) := by
  have h := zTok_range r1 r2
  refine zOk.eq ?_
  unfold f_X4_ends
  repeat' (first
    | (with_reducible apply z_nm; (case he => repeat (with_reducible first | exact zv_l _ | exact zv_r)))
    | (with_reducible apply z_b_ck; (case h => with_unfolding_all rfl))
    | (with_reducible apply z_I; (case h => first | with_unfolding_all rfl); (case hy => first | ((simp (disch := omega) only [zU_c, zU_e, zU_k, zF_c, zF_i, zF_o, zW_o, zW_i, zC_c, zC_i, zC_o]); rfl) | rfl))
    | (with_reducible apply z_4step; (case r1 => first | omega | ((simp (disch := omega) only [zU_c, zU_e, zU_k, zF_c, zF_i, zF_o, zW_o, zW_i, zC_c, zC_i, zC_o]); omega)); (case r2 => first | omega | ((simp (disch := omega) only [zU_c, zU_e, zU_k, zF_c, zF_i, zF_o, zW_o, zW_i, zC_c, zC_i, zC_o]); omega)); (case a1 => assumption)))
  (first
    | (with_reducible apply z_B; all_goals (intro _; try (exfalso; omega)))
    | (with_reducible apply z_E; all_goals intro _)
    | (with_reducible apply z_lt; (case ha => repeat (with_reducible first | exact zv_l _ | exact zv_r)); (case hb => repeat (with_reducible first | exact zv_l _ | exact zv_r)); (case hx => omega); (case hy => omega); all_goals (intro _; try (exfalso; omega)))
    | (with_reducible apply z_le; (case ha => repeat (with_reducible first | exact zv_l _ | exact zv_r)); (case hb => repeat (with_reducible first | exact zv_l _ | exact zv_r)); (case hx => omega); (case hy => omega); all_goals (intro _; try (exfalso; omega)))
    | (with_reducible apply z_eq; (case ha => repeat (with_reducible first | exact zv_l _ | exact zv_r)); (case hb => repeat (with_reducible first | exact zv_l _ | exact zv_r)); (case hx => omega); (case hy => omega); all_goals (intro _; try (exfalso; omega))))
  · exact zB_r1 (by assumption)
  · exact zB_r0 (by assumption)
theorem z_4ends {m : zMe} (r1 : 0 ≤ m 1 1 ∧ m 1 1 ≤ 40) (r2 : 0 ≤ m 1 3 ∧ m 1 3 ≤ m 1 1) (a1 : ∀ j, 0 ≤ j → j < 40 → 0 ≤ m 2 j ∧ m 2 j ≤ 255) {α : Type} {kf : Int32 × Hp → Option (α × Hp)} {Q : α → zMe → Prop} (K : zOk (kf (zI (zB (zTok m 1 4 = 0)), zM (zTok m))) Q) : zOk ((f_X4_ends 1 (zM m)).bind kf) Q := z_b (s_4ends r1 r2 a1) K
