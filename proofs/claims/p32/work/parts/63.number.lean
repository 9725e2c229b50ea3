/-! Tape: numbers -/
theorem s4_num_l {m : zMe} {lo hi : Int} (r1 : -1000 ≤ lo ∧ lo ≤ 1000) (r2 : -1000 ≤ hi ∧ hi ≤ 1000) (hb : 0 ≤ m 1 2 ∧ m 1 2 ≤ m 1 3 ∧ m 1 3 ≤ 40) (h2 : m 1 3 - m 1 2 ≤ 2) (a1 : ∀ j, 0 ≤ j → j < 40 → 0 ≤ m 2 j ∧ m 2 j ≤ 255) : zOk (lp f_X4_number_35 600 (1, zI lo, zI hi, zI 0, zI (m 1 2)) (zM m)) (fun v m1 => v = zI (if lo ≤ zDg (m 2) (m 1 3 - m 1 2).toNat (m 1 2) 0 ∧ zDg (m 2) (m 1 3 - m 1 2).toNat (m 1 2) 0 ≤ hi then zDg (m 2) (m 1 3 - m 1 2).toNat (m 1 2) 0 else -1) ∧ m1 = m) := by
  have hR := zDg_r a1 (m 1 3 - m 1 2).toNat (by omega) (m 1 2) 0 (by omega) (by omega)
  generalize hD : zDg (m 2) (m 1 3 - m 1 2).toNat (m 1 2) 0 = D at hR ⊢
  refine z_lp (fun n v m1 => ∃ (p x : Int), v = (1, zI lo, zI hi, zI x, zI p) ∧ m 1 2 ≤ p ∧ p ≤ m 1 3 ∧ n = (m 1 3 - p).toNat ∧ m1 = m ∧ zDg (m 2) (m 1 3 - p).toNat p x = D) (fun _ _ v m1 => v = zI (if lo ≤ D ∧ D ≤ hi then D else -1) ∧ m1 = m) ?_ 600 (m 1 3 - m 1 2).toNat _ m (by omega) ⟨m 1 2, 0, rfl, by omega, by omega, rfl, rfl, hD⟩
  rintro n v m1 k ⟨p, x, rfl, h0, h1, rfl, rfl, hx⟩ hk
  have hp := a1 p
  unfold f_X4_number_35
  dsimp only
  (first
    | (with_reducible apply z_nm; (case he => repeat (with_reducible first | exact zv_l _ | exact zv_r | apply zv_add | apply zv_sub | apply zv_mul | apply zv_neg)))
    | (with_reducible apply z_I; (case h => first | with_unfolding_all rfl); (case hy => first | ((simp (disch := omega) only [zU_c, zU_e, zU_k, zF_c, zF_i, zF_o, zW_o, zW_i, zC_c, zC_i, zC_o]); rfl) | rfl))
    | (with_reducible apply z_b_R; (case h => first | with_unfolding_all rfl))
    | (with_reducible apply z_L; (case he => repeat (with_reducible first | exact zv_l _ | exact zv_r | apply zv_add | apply zv_sub | apply zv_mul | apply zv_neg)); (case hn => with_reducible first | assumption | exact zl_2 | exact zl_40); (case h => omega); (case hy => first | ((simp (disch := omega) only [zU_c, zU_e, zU_k, zF_c, zF_i, zF_o, zW_o, zW_i, zC_c, zC_i, zC_o]); rfl) | rfl)))
  (first
    | (with_reducible apply z_B; all_goals (intro _; try (exfalso; omega)))
    | (with_reducible apply z_E; all_goals intro _)
    | (with_reducible apply z_lt; (case ha => repeat (with_reducible first | exact zv_l _ | exact zv_r | apply zv_add | apply zv_sub | apply zv_mul | apply zv_neg)); (case hb => repeat (with_reducible first | exact zv_l _ | exact zv_r | apply zv_add | apply zv_sub | apply zv_mul | apply zv_neg)); (case hx => omega); (case hy => omega); all_goals (intro _; try (exfalso; omega)))
    | (with_reducible apply z_le; (case ha => repeat (with_reducible first | exact zv_l _ | exact zv_r | apply zv_add | apply zv_sub | apply zv_mul | apply zv_neg)); (case hb => repeat (with_reducible first | exact zv_l _ | exact zv_r | apply zv_add | apply zv_sub | apply zv_mul | apply zv_neg)); (case hx => omega); (case hy => omega); all_goals (intro _; try (exfalso; omega)))
    | (with_reducible apply z_eq; (case ha => repeat (with_reducible first | exact zv_l _ | exact zv_r | apply zv_add | apply zv_sub | apply zv_mul | apply zv_neg)); (case hb => repeat (with_reducible first | exact zv_l _ | exact zv_r | apply zv_add | apply zv_sub | apply zv_mul | apply zv_neg)); (case hx => omega); (case hy => omega); all_goals (intro _; try (exfalso; omega))))
  · have e : (m1 1 3 - p).toNat = 0 := by omega
    rw [e] at hx
    have hx : x = D := hx
    subst hx
    repeat' (first | (first
    | (with_reducible apply z_nm; (case he => repeat (with_reducible first | exact zv_l _ | exact zv_r | apply zv_add | apply zv_sub | apply zv_mul | apply zv_neg)))
    | (with_reducible apply z_I; (case h => first | with_unfolding_all rfl); (case hy => first | ((simp (disch := omega) only [zU_c, zU_e, zU_k, zF_c, zF_i, zF_o, zW_o, zW_i, zC_c, zC_i, zC_o]); rfl) | rfl))
    | (with_reducible apply z_b_R; (case h => first | with_unfolding_all rfl))
    | (with_reducible apply z_L; (case he => repeat (with_reducible first | exact zv_l _ | exact zv_r | apply zv_add | apply zv_sub | apply zv_mul | apply zv_neg)); (case hn => with_reducible first | assumption | exact zl_2 | exact zl_40); (case h => omega); (case hy => first | ((simp (disch := omega) only [zU_c, zU_e, zU_k, zF_c, zF_i, zF_o, zW_o, zW_i, zC_c, zC_i, zC_o]); rfl) | rfl))) | (first
    | (with_reducible apply z_B; all_goals (intro _; try (exfalso; omega)))
    | (with_reducible apply z_E; all_goals intro _)
    | (with_reducible apply z_lt; (case ha => repeat (with_reducible first | exact zv_l _ | exact zv_r | apply zv_add | apply zv_sub | apply zv_mul | apply zv_neg)); (case hb => repeat (with_reducible first | exact zv_l _ | exact zv_r | apply zv_add | apply zv_sub | apply zv_mul | apply zv_neg)); (case hx => omega); (case hy => omega); all_goals (intro _; try (exfalso; omega)))
    | (with_reducible apply z_le; (case ha => repeat (with_reducible first | exact zv_l _ | exact zv_r | apply zv_add | apply zv_sub | apply zv_mul | apply zv_neg)); (case hb => repeat (with_reducible first | exact zv_l _ | exact zv_r | apply zv_add | apply zv_sub | apply zv_mul | apply zv_neg)); (case hx => omega); (case hy => omega); all_goals (intro _; try (exfalso; omega)))
    | (with_reducible apply z_eq; (case ha => repeat (with_reducible first | exact zv_l _ | exact zv_r | apply zv_add | apply zv_sub | apply zv_mul | apply zv_neg)); (case hb => repeat (with_reducible first | exact zv_l _ | exact zv_r | apply zv_add | apply zv_sub | apply zv_mul | apply zv_neg)); (case hx => omega); (case hy => omega); all_goals (intro _; try (exfalso; omega)))))
    · rw [if_neg (by omega)]
      exact ⟨_, _, rfl, rfl, rfl⟩
    · rw [if_neg (by omega)]
      exact ⟨_, _, rfl, rfl, rfl⟩
    · rw [if_pos (by omega)]
      exact ⟨_, _, rfl, rfl, rfl⟩
  · have hp := hp (by omega) (by omega)
    repeat' (first
    | (with_reducible apply z_nm; (case he => repeat (with_reducible first | exact zv_l _ | exact zv_r | apply zv_add | apply zv_sub | apply zv_mul | apply zv_neg)))
    | (with_reducible apply z_I; (case h => first | with_unfolding_all rfl); (case hy => first | ((simp (disch := omega) only [zU_c, zU_e, zU_k, zF_c, zF_i, zF_o, zW_o, zW_i, zC_c, zC_i, zC_o]); rfl) | rfl))
    | (with_reducible apply z_b_R; (case h => first | with_unfolding_all rfl))
    | (with_reducible apply z_L; (case he => repeat (with_reducible first | exact zv_l _ | exact zv_r | apply zv_add | apply zv_sub | apply zv_mul | apply zv_neg)); (case hn => with_reducible first | assumption | exact zl_2 | exact zl_40); (case h => omega); (case hy => first | ((simp (disch := omega) only [zU_c, zU_e, zU_k, zF_c, zF_i, zF_o, zW_o, zW_i, zC_c, zC_i, zC_o]); rfl) | rfl)))
    refine hk _ _ _ (by omega) ⟨p + 1, _, rfl, by omega, by omega, rfl, rfl, ?_⟩
    obtain ⟨q, e⟩ : ∃ q, (m1 1 3 - p).toNat = q + 1 := ⟨(m1 1 3 - p).toNat - 1, by omega⟩
    rw [e] at hx
    have e2 : (m1 1 3 - (p + 1)).toNat = q := by omega
    rw [e2]
    exact hx
set_option maxRecDepth 100000 in
set_option maxHeartbeats 1000000 in
theorem s_4number {m : zMe} {e1 e2 : Int32} {lo hi : Int} (e3 : e1 = zI lo) (e4 : e2 = zI hi) (r3 : -1000 ≤ lo ∧ lo ≤ 1000) (r4 : -1000 ≤ hi ∧ hi ≤ 1000) (r1 : 0 ≤ m 1 1 ∧ m 1 1 ≤ 40) (r2 : 0 ≤ m 1 3 ∧ m 1 3 ≤ m 1 1) (a1 : ∀ j, 0 ≤ j → j < 40 → 0 ≤ m 2 j ∧ m 2 j ≤ 255) : f_X4_number 1 e1 e2 (zM m) = some (zI (zNu (m 2) (zTok m 1 4) (zTok m 1 2) (zTok m 1 3) lo hi), zM (zTok m)) := by
  subst e3; subst e4
  have h := zTok_range r1 r2
  have h1 := zTok_r1 m
  have ha : zTok m 2 = m 2 := by
    funext j
    exact zTok_c (by omega)
  refine zOk.eq ?_
  unfold f_X4_number
  repeat' (first | (first
    | (with_reducible apply z_nm; (case he => repeat (with_reducible first | exact zv_l _ | exact zv_r | apply zv_sub | apply zv_neg)))
    | (with_reducible apply z_b_ck; (case h => with_unfolding_all rfl))
    | (with_reducible apply z_I; (case h => first | with_unfolding_all rfl); (case hy => first | ((simp (disch := omega) only [zU_c, zU_e, zU_k, zF_c, zF_i, zF_o, zW_o, zW_i, zC_c, zC_i, zC_o]); rfl) | rfl))
    | (with_reducible apply z_4step; (case r1 => first | omega | ((simp (disch := omega) only [zU_c, zU_e, zU_k, zF_c, zF_i, zF_o, zW_o, zW_i, zC_c, zC_i, zC_o]); omega)); (case r2 => first | omega | ((simp (disch := omega) only [zU_c, zU_e, zU_k, zF_c, zF_i, zF_o, zW_o, zW_i, zC_c, zC_i, zC_o]); omega)); (case a1 => assumption))) | (first
    | (with_reducible apply z_B; all_goals (intro _; try (exfalso; omega)))
    | (with_reducible apply z_E; all_goals intro _)
    | (with_reducible apply z_lt; (case ha => repeat (with_reducible first | exact zv_l _ | exact zv_r | apply zv_sub | apply zv_neg)); (case hb => repeat (with_reducible first | exact zv_l _ | exact zv_r | apply zv_sub | apply zv_neg)); (case hx => omega); (case hy => omega); all_goals (intro _; try (exfalso; omega)))
    | (with_reducible apply z_le; (case ha => repeat (with_reducible first | exact zv_l _ | exact zv_r | apply zv_sub | apply zv_neg)); (case hb => repeat (with_reducible first | exact zv_l _ | exact zv_r | apply zv_sub | apply zv_neg)); (case hx => omega); (case hy => omega); all_goals (intro _; try (exfalso; omega)))
    | (with_reducible apply z_eq; (case ha => repeat (with_reducible first | exact zv_l _ | exact zv_r | apply zv_sub | apply zv_neg)); (case hb => repeat (with_reducible first | exact zv_l _ | exact zv_r | apply zv_sub | apply zv_neg)); (case hx => omega); (case hy => omega); all_goals (intro _; try (exfalso; omega)))))
  · have := s4_num_l (m := zTok m) r3 r4 (by omega) (by omega) (by rw [ha]; exact a1)
    rw [ha] at this
    refine this.mono (fun v m1 q => ⟨?_, q.2⟩)
    rw [q.1]
    congr 1
    unfold zNu
    exact (if_pos (by omega)).symm
  · unfold zNu
    rw [if_neg (by omega)]
    exact ⟨_, _, rfl, rfl, rfl⟩
  · unfold zNu
    rw [if_neg (by omega)]
    exact ⟨_, _, rfl, rfl, rfl⟩
theorem z_4number {m : zMe} {e1 e2 : Int32} {lo hi : Int} (e3 : e1 = zI lo) (e4 : e2 = zI hi) (r3 : -1000 ≤ lo ∧ lo ≤ 1000) (r4 : -1000 ≤ hi ∧ hi ≤ 1000) (r1 : 0 ≤ m 1 1 ∧ m 1 1 ≤ 40) (r2 : 0 ≤ m 1 3 ∧ m 1 3 ≤ m 1 1) (a1 : ∀ j, 0 ≤ j → j < 40 → 0 ≤ m 2 j ∧ m 2 j ≤ 255) {α : Type} {kf : Int32 × Hp → Option (α × Hp)} {Q : α → zMe → Prop} (K : zOk (kf (zI (zNu (m 2) (zTok m 1 4) (zTok m 1 2) (zTok m 1 3) lo hi), zM (zTok m))) Q) : zOk ((f_X4_number 1 e1 e2 (zM m)).bind kf) Q := z_b (s_4number e3 e4 r3 r4 r1 r2 a1) K
