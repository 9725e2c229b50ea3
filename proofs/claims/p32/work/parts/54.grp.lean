/-! Group -/
set_option maxRecDepth 100000 in
set_option maxHeartbeats 1000000 in
theorem s_0hasTeam {m : zMe} {r : Nat} {e : Int32} {t : Int} (a1 : zG r) (e1 : e = zI t) (r1 : -2147483648 ≤ t ∧ t < 2147483648) (r2 : 0 ≤ m r 0 ∧ m r 0 ≤ 6) : f_X0_hasTeam r e (zM m) = some (zI (zB (0 ≤ t ∧ t < m r 0)), zM (m)) := by
  subst e1
  refine zOk.eq ?_
  unfold f_X0_hasTeam
  repeat' (first | (first
    | (with_reducible apply z_nm; (case he => repeat (with_reducible first | exact zv_l _ | exact zv_r | apply zv_neg)))
    | with_reducible refine z_b (zg_ck (by assumption)) ?_
    | (with_reducible apply z_b_ck; (case h => with_unfolding_all rfl))
    | (with_reducible apply z_I; (case h => first | exact zg_I0 (by assumption) | with_unfolding_all rfl); (case hy => first | ((simp (disch := omega) only [zU_c, zU_e, zU_k, zF_c, zF_i, zF_o, zW_o, zW_i, zC_c, zC_i, zC_o]); rfl) | rfl))) | (first
    | (with_reducible apply z_B; all_goals (intro _; try (exfalso; omega)))
    | (with_reducible apply z_E; all_goals intro _)
    | (with_reducible apply z_lt; (case ha => repeat (with_reducible first | exact zv_l _ | exact zv_r | apply zv_neg)); (case hb => repeat (with_reducible first | exact zv_l _ | exact zv_r | apply zv_neg)); (case hx => omega); (case hy => omega); all_goals (intro _; try (exfalso; omega)))
    | (with_reducible apply z_le; (case ha => repeat (with_reducible first | exact zv_l _ | exact zv_r | apply zv_neg)); (case hb => repeat (with_reducible first | exact zv_l _ | exact zv_r | apply zv_neg)); (case hx => omega); (case hy => omega); all_goals (intro _; try (exfalso; omega)))
    | (with_reducible apply z_eq; (case ha => repeat (with_reducible first | exact zv_l _ | exact zv_r | apply zv_neg)); (case hb => repeat (with_reducible first | exact zv_l _ | exact zv_r | apply zv_neg)); (case hx => omega); (case hy => omega); all_goals (intro _; try (exfalso; omega)))))
  all_goals (first | exact zB_r1 (by omega) | exact zB_r0 (by omega))
theorem z_0hasTeam {m : zMe} {r : Nat} {e : Int32} {t : Int} (a1 : zG r) (e1 : e = zI t) (r1 : -2147483648 ≤ t ∧ t < 2147483648) (r2 : 0 ≤ m r 0 ∧ m r 0 ≤ 6) {α : Type} {kf : Int32 × Hp → Option (α × Hp)} {Q : α → zMe → Prop} (K : zOk (kf (zI (zB (0 ≤ t ∧ t < m r 0)), zM (m))) Q) : zOk ((f_X0_hasTeam r e (zM m)).bind kf) Q := z_b (s_0hasTeam a1 e1 r1 r2) K
set_option maxRecDepth 100000 in
set_option maxHeartbeats 1000000 in
theorem s_0hasGame {m : zMe} {r : Nat} {e : Int32} {t : Int} (a1 : zG r) (e1 : e = zI t) (r1 : -2147483648 ≤ t ∧ t < 2147483648) (r2 : 0 ≤ m r 1 ∧ m r 1 ≤ 9) : f_X0_hasGame r e (zM m) = some (zI (zB (0 ≤ t ∧ t < m r 1)), zM (m)) := by
  subst e1
  refine zOk.eq ?_
  unfold f_X0_hasGame
  repeat' (first | (first
    | (with_reducible apply z_nm; (case he => repeat (with_reducible first | exact zv_l _ | exact zv_r | apply zv_neg)))
    | with_reducible refine z_b (zg_ck (by assumption)) ?_
    | (with_reducible apply z_b_ck; (case h => with_unfolding_all rfl))
    | (with_reducible apply z_I; (case h => first | exact zg_I1 (by assumption) | with_unfolding_all rfl); (case hy => first | ((simp (disch := omega) only [zU_c, zU_e, zU_k, zF_c, zF_i, zF_o, zW_o, zW_i, zC_c, zC_i, zC_o]); rfl) | rfl))) | (first
    | (with_reducible apply z_B; all_goals (intro _; try (exfalso; omega)))
    | (with_reducible apply z_E; all_goals intro _)
    | (with_reducible apply z_lt; (case ha => repeat (with_reducible first | exact zv_l _ | exact zv_r | apply zv_neg)); (case hb => repeat (with_reducible first | exact zv_l _ | exact zv_r | apply zv_neg)); (case hx => omega); (case hy => omega); all_goals (intro _; try (exfalso; omega)))
    | (with_reducible apply z_le; (case ha => repeat (with_reducible first | exact zv_l _ | exact zv_r | apply zv_neg)); (case hb => repeat (with_reducible first | exact zv_l _ | exact zv_r | apply zv_neg)); (case hx => omega); (case hy => omega); all_goals (intro _; try (exfalso; omega)))
    | (with_reducible apply z_eq; (case ha => repeat (with_reducible first | exact zv_l _ | exact zv_r | apply zv_neg)); (case hb => repeat (with_reducible first | exact zv_l _ | exact zv_r | apply zv_neg)); (case hx => omega); (case hy => omega); all_goals (intro _; try (exfalso; omega)))))
  all_goals (first | exact zB_r1 (by omega) | exact zB_r0 (by omega))
theorem z_0hasGame {m : zMe} {r : Nat} {e : Int32} {t : Int} (a1 : zG r) (e1 : e = zI t) (r1 : -2147483648 ≤ t ∧ t < 2147483648) (r2 : 0 ≤ m r 1 ∧ m r 1 ≤ 9) {α : Type} {kf : Int32 × Hp → Option (α × Hp)} {Q : α → zMe → Prop} (K : zOk (kf (zI (zB (0 ≤ t ∧ t < m r 1)), zM (m))) Q) : zOk ((f_X0_hasGame r e (zM m)).bind kf) Q := z_b (s_0hasGame a1 e1 r1 r2) K
set_option maxRecDepth 100000 in
set_option maxHeartbeats 1000000 in
theorem s_0isLeft {m : zMe} {r : Nat} {e : Int32} {k : Int} (a1 : zG r) (e1 : e = zI k) (r1 : 0 ≤ k ∧ k < 9) (r2 : -1 ≤ m (r + 7) k ∧ m (r + 7) k ≤ 2) : f_X0_isLeft r e (zM m) = some (zI (zB (m (r + 7) k = -1)), zM (m)) := by
  subst e1
  refine zOk.eq ?_
  unfold f_X0_isLeft
  repeat' (first | (first
    | (with_reducible apply z_nm; (case he => repeat (with_reducible first | exact zv_l _ | exact zv_r | apply zv_add | apply zv_neg)))
    | with_reducible refine z_b (zg_ck (by assumption)) ?_
    | (with_reducible apply z_b_ck; (case h => with_unfolding_all rfl))
    | (with_reducible apply z_b_R; (case h => first | exact zg_R9 (by assumption) | with_unfolding_all rfl))
    | (with_reducible apply z_L; (case he => repeat (with_reducible first | exact zv_l _ | exact zv_r | apply zv_add | apply zv_neg)); (case hn => with_reducible first | assumption | exact zg_L9 (by assumption) | exact zl_2 | exact zl_7 | exact zl_9); (case h => omega); (case hy => first | ((simp (disch := omega) only [zU_c, zU_e, zU_k, zF_c, zF_i, zF_o, zW_o, zW_i, zC_c, zC_i, zC_o]); rfl) | rfl))) | (first
    | (with_reducible apply z_B; all_goals (intro _; try (exfalso; omega)))
    | (with_reducible apply z_E; all_goals intro _)
    | (with_reducible apply z_lt; (case ha => repeat (with_reducible first | exact zv_l _ | exact zv_r | apply zv_add | apply zv_neg)); (case hb => repeat (with_reducible first | exact zv_l _ | exact zv_r | apply zv_add | apply zv_neg)); (case hx => omega); (case hy => omega); all_goals (intro _; try (exfalso; omega)))
    | (with_reducible apply z_le; (case ha => repeat (with_reducible first | exact zv_l _ | exact zv_r | apply zv_add | apply zv_neg)); (case hb => repeat (with_reducible first | exact zv_l _ | exact zv_r | apply zv_add | apply zv_neg)); (case hx => omega); (case hy => omega); all_goals (intro _; try (exfalso; omega)))
    | (with_reducible apply z_eq; (case ha => repeat (with_reducible first | exact zv_l _ | exact zv_r | apply zv_add | apply zv_neg)); (case hb => repeat (with_reducible first | exact zv_l _ | exact zv_r | apply zv_add | apply zv_neg)); (case hx => omega); (case hy => omega); all_goals (intro _; try (exfalso; omega)))))
  all_goals (first | exact zB_r1 (by omega) | exact zB_r0 (by omega))
theorem z_0isLeft {m : zMe} {r : Nat} {e : Int32} {k : Int} (a1 : zG r) (e1 : e = zI k) (r1 : 0 ≤ k ∧ k < 9) (r2 : -1 ≤ m (r + 7) k ∧ m (r + 7) k ≤ 2) {α : Type} {kf : Int32 × Hp → Option (α × Hp)} {Q : α → zMe → Prop} (K : zOk (kf (zI (zB (m (r + 7) k = -1)), zM (m))) Q) : zOk ((f_X0_isLeft r e (zM m)).bind kf) Q := z_b (s_0isLeft a1 e1 r1 r2) K
set_option maxRecDepth 100000 in
set_option maxHeartbeats 1000000 in
theorem s_0winBrings {m : zMe} {r : Nat} (a1 : zG r) (r1 : 0 ≤ m r 2 ∧ m r 2 ≤ 2) : f_X0_winBrings r (zM m) = some (zI (m r 2 + 1), zM (m)) := by
  refine zOk.eq ?_
  unfold f_X0_winBrings
  repeat' (first | (first
    | with_reducible refine z_b (zg_ck (by assumption)) ?_
    | (with_reducible apply z_b_ck; (case h => with_unfolding_all rfl))
    | (with_reducible apply z_I; (case h => first | exact zg_I2 (by assumption) | with_unfolding_all rfl); (case hy => first | ((simp (disch := omega) only [zU_c, zU_e, zU_k, zF_c, zF_i, zF_o, zW_o, zW_i, zC_c, zC_i, zC_o]); rfl) | rfl))
    | (with_reducible apply z_T0; (case h => omega))) | (first
    | (with_reducible apply z_B; all_goals (intro _; try (exfalso; omega)))
    | (with_reducible apply z_E; all_goals intro _)
    | (with_reducible apply z_lt; (case ha => repeat (with_reducible first | exact zv_l _ | exact zv_r | apply zv_add)); (case hb => repeat (with_reducible first | exact zv_l _ | exact zv_r | apply zv_add)); (case hx => omega); (case hy => omega); all_goals (intro _; try (exfalso; omega)))
    | (with_reducible apply z_le; (case ha => repeat (with_reducible first | exact zv_l _ | exact zv_r | apply zv_add)); (case hb => repeat (with_reducible first | exact zv_l _ | exact zv_r | apply zv_add)); (case hx => omega); (case hy => omega); all_goals (intro _; try (exfalso; omega)))
    | (with_reducible apply z_eq; (case ha => repeat (with_reducible first | exact zv_l _ | exact zv_r | apply zv_add)); (case hb => repeat (with_reducible first | exact zv_l _ | exact zv_r | apply zv_add)); (case hx => omega); (case hy => omega); all_goals (intro _; try (exfalso; omega)))))
  exact ⟨_, _, rfl, rfl, rfl⟩
theorem z_0winBrings {m : zMe} {r : Nat} (a1 : zG r) (r1 : 0 ≤ m r 2 ∧ m r 2 ≤ 2) {α : Type} {kf : Int32 × Hp → Option (α × Hp)} {Q : α → zMe → Prop} (K : zOk (kf (zI (m r 2 + 1), zM (m))) Q) : zOk ((f_X0_winBrings r (zM m)).bind kf) Q := z_b (s_0winBrings a1 r1) K
set_option maxRecDepth 100000 in
set_option maxHeartbeats 1000000 in
theorem s_0drawBrings {m : zMe} {r : Nat} (a1 : zG r) (r1 : 0 ≤ m r 2 ∧ m r 2 ≤ 2) : f_X0_drawBrings r (zM m) = some (zI (if m r 2 = 0 then 0 else 1), zM (m)) := by
  refine zOk.eq ?_
  unfold f_X0_drawBrings
  repeat' (first | (first
    | with_reducible refine z_b (zg_ck (by assumption)) ?_
    | (with_reducible apply z_b_ck; (case h => with_unfolding_all rfl))
    | (with_reducible apply z_I; (case h => first | exact zg_I2 (by assumption) | with_unfolding_all rfl); (case hy => first | ((simp (disch := omega) only [zU_c, zU_e, zU_k, zF_c, zF_i, zF_o, zW_o, zW_i, zC_c, zC_i, zC_o]); rfl) | rfl))
    | (with_reducible apply z_T1; (case h => omega))) | (first
    | (with_reducible apply z_B; all_goals (intro _; try (exfalso; omega)))
    | (with_reducible apply z_E; all_goals intro _)
    | (with_reducible apply z_lt; (case ha => repeat (with_reducible first | exact zv_l _ | exact zv_r)); (case hb => repeat (with_reducible first | exact zv_l _ | exact zv_r)); (case hx => omega); (case hy => omega); all_goals (intro _; try (exfalso; omega)))
    | (with_reducible apply z_le; (case ha => repeat (with_reducible first | exact zv_l _ | exact zv_r)); (case hb => repeat (with_reducible first | exact zv_l _ | exact zv_r)); (case hx => omega); (case hy => omega); all_goals (intro _; try (exfalso; omega)))
    | (with_reducible apply z_eq; (case ha => repeat (with_reducible first | exact zv_l _ | exact zv_r)); (case hb => repeat (with_reducible first | exact zv_l _ | exact zv_r)); (case hx => omega); (case hy => omega); all_goals (intro _; try (exfalso; omega)))))
  exact ⟨_, _, rfl, rfl, rfl⟩
theorem z_0drawBrings {m : zMe} {r : Nat} (a1 : zG r) (r1 : 0 ≤ m r 2 ∧ m r 2 ≤ 2) {α : Type} {kf : Int32 × Hp → Option (α × Hp)} {Q : α → zMe → Prop} (K : zOk (kf (zI (if m r 2 = 0 then 0 else 1), zM (m))) Q) : zOk ((f_X0_drawBrings r (zM m)).bind kf) Q := z_b (s_0drawBrings a1 r1) K
set_option maxRecDepth 100000 in
set_option maxHeartbeats 1000000 in
theorem s_0leastGiven {m : zMe} {r : Nat} (a1 : zG r) (r1 : 0 ≤ m r 2 ∧ m r 2 ≤ 2) : f_X0_leastGiven r (zM m) = some (zI (if m r 2 = 0 then 1 else 2), zM (m)) := by
  refine zOk.eq ?_
  unfold f_X0_leastGiven
  repeat' (first | (first
    | with_reducible refine z_b (zg_ck (by assumption)) ?_
    | (with_reducible apply z_b_ck; (case h => with_unfolding_all rfl))
    | (with_reducible apply z_I; (case h => first | exact zg_I2 (by assumption) | with_unfolding_all rfl); (case hy => first | ((simp (disch := omega) only [zU_c, zU_e, zU_k, zF_c, zF_i, zF_o, zW_o, zW_i, zC_c, zC_i, zC_o]); rfl) | rfl))
    | (with_reducible apply z_T2; (case h => omega))) | (first
    | (with_reducible apply z_B; all_goals (intro _; try (exfalso; omega)))
    | (with_reducible apply z_E; all_goals intro _)
    | (with_reducible apply z_lt; (case ha => repeat (with_reducible first | exact zv_l _ | exact zv_r)); (case hb => repeat (with_reducible first | exact zv_l _ | exact zv_r)); (case hx => omega); (case hy => omega); all_goals (intro _; try (exfalso; omega)))
    | (with_reducible apply z_le; (case ha => repeat (with_reducible first | exact zv_l _ | exact zv_r)); (case hb => repeat (with_reducible first | exact zv_l _ | exact zv_r)); (case hx => omega); (case hy => omega); all_goals (intro _; try (exfalso; omega)))
    | (with_reducible apply z_eq; (case ha => repeat (with_reducible first | exact zv_l _ | exact zv_r)); (case hb => repeat (with_reducible first | exact zv_l _ | exact zv_r)); (case hx => omega); (case hy => omega); all_goals (intro _; try (exfalso; omega)))))
  exact ⟨_, _, rfl, rfl, rfl⟩
theorem z_0leastGiven {m : zMe} {r : Nat} (a1 : zG r) (r1 : 0 ≤ m r 2 ∧ m r 2 ≤ 2) {α : Type} {kf : Int32 × Hp → Option (α × Hp)} {Q : α → zMe → Prop} (K : zOk (kf (zI (if m r 2 = 0 then 1 else 2), zM (m))) Q) : zOk ((f_X0_leastGiven r (zM m)).bind kf) Q := z_b (s_0leastGiven a1 r1) K
set_option maxRecDepth 100000 in
set_option maxHeartbeats 1000000 in
theorem s_0firstResult {m : zMe} {r : Nat} (a1 : zG r) (r1 : 0 ≤ m r 2 ∧ m r 2 ≤ 2) : f_X0_firstResult r (zM m) = some (zI (if m r 2 = 0 then 1 else 0), zM (m)) := by
  refine zOk.eq ?_
  unfold f_X0_firstResult
  repeat' (first | (first
    | with_reducible refine z_b (zg_ck (by assumption)) ?_
    | (with_reducible apply z_b_ck; (case h => with_unfolding_all rfl))
    | (with_reducible apply z_I; (case h => first | exact zg_I2 (by assumption) | with_unfolding_all rfl); (case hy => first | ((simp (disch := omega) only [zU_c, zU_e, zU_k, zF_c, zF_i, zF_o, zW_o, zW_i, zC_c, zC_i, zC_o]); rfl) | rfl))
    | (with_reducible apply z_T3; (case h => omega))) | (first
    | (with_reducible apply z_B; all_goals (intro _; try (exfalso; omega)))
    | (with_reducible apply z_E; all_goals intro _)
    | (with_reducible apply z_lt; (case ha => repeat (with_reducible first | exact zv_l _ | exact zv_r)); (case hb => repeat (with_reducible first | exact zv_l _ | exact zv_r)); (case hx => omega); (case hy => omega); all_goals (intro _; try (exfalso; omega)))
    | (with_reducible apply z_le; (case ha => repeat (with_reducible first | exact zv_l _ | exact zv_r)); (case hb => repeat (with_reducible first | exact zv_l _ | exact zv_r)); (case hx => omega); (case hy => omega); all_goals (intro _; try (exfalso; omega)))
    | (with_reducible apply z_eq; (case ha => repeat (with_reducible first | exact zv_l _ | exact zv_r)); (case hb => repeat (with_reducible first | exact zv_l _ | exact zv_r)); (case hx => omega); (case hy => omega); all_goals (intro _; try (exfalso; omega)))))
  exact ⟨_, _, rfl, rfl, rfl⟩
theorem z_0firstResult {m : zMe} {r : Nat} (a1 : zG r) (r1 : 0 ≤ m r 2 ∧ m r 2 ≤ 2) {α : Type} {kf : Int32 × Hp → Option (α × Hp)} {Q : α → zMe → Prop} (K : zOk (kf (zI (if m r 2 = 0 then 1 else 0), zM (m))) Q) : zOk ((f_X0_firstResult r (zM m)).bind kf) Q := z_b (s_0firstResult a1 r1) K
set_option maxRecDepth 100000 in
set_option maxHeartbeats 1000000 in
theorem s_0foe {m : zMe} {r : Nat} {e g : Int32} {k t : Int} (a1 : zG r) (e1 : e = zI k) (e2 : g = zI t) (r1 : 0 ≤ k ∧ k < 9) (r2 : -2147483648 ≤ t ∧ t < 2147483648) (r3 : 0 ≤ m (r + 4) k ∧ m (r + 4) k < 6) (r4 : 0 ≤ m (r + 5) k ∧ m (r + 5) k < 6) : f_X0_foe r e g (zM m) = some (zI (if m (r + 4) k = t then m (r + 5) k else if m (r + 5) k = t then m (r + 4) k else -1), zM (m)) := by
  subst e1; subst e2
  refine zOk.eq ?_
  unfold f_X0_foe
  repeat' (first | (first
    | (with_reducible apply z_nm; (case he => repeat (with_reducible first | exact zv_l _ | exact zv_r | apply zv_add | apply zv_neg)))
    | with_reducible refine z_b (zg_ck (by assumption)) ?_
    | (with_reducible apply z_b_ck; (case h => with_unfolding_all rfl))
    | (with_reducible apply z_b_R; (case h => first | exact zg_R6 (by assumption) | exact zg_R7 (by assumption) | with_unfolding_all rfl))
    | (with_reducible apply z_L; (case he => repeat (with_reducible first | exact zv_l _ | exact zv_r | apply zv_add | apply zv_neg)); (case hn => with_reducible first | assumption | exact zg_L6 (by assumption) | exact zg_L7 (by assumption) | exact zl_4 | exact zl_5 | exact zl_6 | exact zl_9); (case h => omega); (case hy => first | ((simp (disch := omega) only [zU_c, zU_e, zU_k, zF_c, zF_i, zF_o, zW_o, zW_i, zC_c, zC_i, zC_o]); rfl) | rfl))) | (first
    | (with_reducible apply z_B; all_goals (intro _; try (exfalso; omega)))
    | (with_reducible apply z_E; all_goals intro _)
    | (with_reducible apply z_lt; (case ha => repeat (with_reducible first | exact zv_l _ | exact zv_r | apply zv_add | apply zv_neg)); (case hb => repeat (with_reducible first | exact zv_l _ | exact zv_r | apply zv_add | apply zv_neg)); (case hx => omega); (case hy => omega); all_goals (intro _; try (exfalso; omega)))
    | (with_reducible apply z_le; (case ha => repeat (with_reducible first | exact zv_l _ | exact zv_r | apply zv_add | apply zv_neg)); (case hb => repeat (with_reducible first | exact zv_l _ | exact zv_r | apply zv_add | apply zv_neg)); (case hx => omega); (case hy => omega); all_goals (intro _; try (exfalso; omega)))
    | (with_reducible apply z_eq; (case ha => repeat (with_reducible first | exact zv_l _ | exact zv_r | apply zv_add | apply zv_neg)); (case hb => repeat (with_reducible first | exact zv_l _ | exact zv_r | apply zv_add | apply zv_neg)); (case hx => omega); (case hy => omega); all_goals (intro _; try (exfalso; omega)))))
  all_goals (first | (with_reducible apply z_reti; (case he => repeat (with_reducible first | exact zv_l _ | exact zv_r | apply zv_add | apply zv_neg))) | with_reducible refine z_ret ?_)
  all_goals refine ⟨?_, rfl⟩
  all_goals (repeat' split) <;> first | rfl | (exfalso; omega)
theorem z_0foe {m : zMe} {r : Nat} {e g : Int32} {k t : Int} (a1 : zG r) (e1 : e = zI k) (e2 : g = zI t) (r1 : 0 ≤ k ∧ k < 9) (r2 : -2147483648 ≤ t ∧ t < 2147483648) (r3 : 0 ≤ m (r + 4) k ∧ m (r + 4) k < 6) (r4 : 0 ≤ m (r + 5) k ∧ m (r + 5) k < 6) {α : Type} {kf : Int32 × Hp → Option (α × Hp)} {Q : α → zMe → Prop} (K : zOk (kf (zI (if m (r + 4) k = t then m (r + 5) k else if m (r + 5) k = t then m (r + 4) k else -1), zM (m))) Q) : zOk ((f_X0_foe r e g (zM m)).bind kf) Q := z_b (s_0foe a1 e1 e2 r1 r2 r3 r4) K
def zLeft (m : zMe) (r : Nat) : Nat := zBn (m r 1).toNat (fun k => decide (m (r + 7) (k : Int) = -1))
theorem s0_left_l {m : zMe} {r : Nat} (a1 : zG r) (hN : 0 ≤ m r 1 ∧ m r 1 ≤ 9) (hr : ∀ k, 0 ≤ k → k < m r 1 → -1 ≤ m (r + 7) k ∧ m (r + 7) k ≤ 2) : zOk (lp f_X0_left_4 600 (r, zI 0, zI 0) (zM m)) (fun v m' => v = zI (zLeft m r : Nat) ∧ m' = m) := by
  refine z_lp (fun n v m1 => ∃ i : Nat, v = (r, zI (zBn i (fun k => decide (m (r + 7) (k : Int) = -1)) : Nat), zI (i : Int)) ∧ (i : Int) ≤ m r 1 ∧ n = (m r 1 - i).toNat ∧ m1 = m) (fun _ _ v m' => v = zI (zLeft m r : Nat) ∧ m' = m) ?_ 600 (m r 1).toNat _ m (by omega) ⟨0, rfl, by omega, by omega, rfl⟩
  rintro n v m1 k ⟨i, rfl, h1, rfl, rfl⟩ hk
  have hi := hr i (by omega)
  unfold f_X0_left_4
  dsimp only
  (first
    | (with_reducible apply z_nm; (case he => repeat (with_reducible first | exact zv_l _ | exact zv_r | apply zv_add | apply zv_sub | apply zv_neg | apply zv_or | apply zv_shl | apply zv_and)))
    | (with_reducible apply z_I; (case h => first | exact zg_I1 (by assumption) | with_unfolding_all rfl); (case hy => first | ((simp (disch := omega) only [zU_c, zU_e, zU_k, zF_c, zF_i, zF_o, zW_o, zW_i, zC_c, zC_i, zC_o]); rfl) | rfl))
    | (with_reducible apply z_0isLeft; (case a1 => assumption); (case e1 => repeat (with_reducible first | exact zv_l _ | exact zv_r | apply zv_add | apply zv_sub | apply zv_neg | apply zv_or | apply zv_shl | apply zv_and)); (case r1 => first | omega | ((simp (disch := omega) only [zU_c, zU_e, zU_k, zF_c, zF_i, zF_o, zW_o, zW_i, zC_c, zC_i, zC_o]); omega)); (case r2 => first | omega | ((simp (disch := omega) only [zU_c, zU_e, zU_k, zF_c, zF_i, zF_o, zW_o, zW_i, zC_c, zC_i, zC_o]); omega))))
  (first
    | (with_reducible apply z_B; all_goals (intro _; try (exfalso; omega)))
    | (with_reducible apply z_E; all_goals intro _)
    | (with_reducible apply z_lt; (case ha => repeat (with_reducible first | exact zv_l _ | exact zv_r | apply zv_add | apply zv_sub | apply zv_neg | apply zv_or | apply zv_shl | apply zv_and)); (case hb => repeat (with_reducible first | exact zv_l _ | exact zv_r | apply zv_add | apply zv_sub | apply zv_neg | apply zv_or | apply zv_shl | apply zv_and)); (case hx => omega); (case hy => omega); all_goals (intro _; try (exfalso; omega)))
    | (with_reducible apply z_le; (case ha => repeat (with_reducible first | exact zv_l _ | exact zv_r | apply zv_add | apply zv_sub | apply zv_neg | apply zv_or | apply zv_shl | apply zv_and)); (case hb => repeat (with_reducible first | exact zv_l _ | exact zv_r | apply zv_add | apply zv_sub | apply zv_neg | apply zv_or | apply zv_shl | apply zv_and)); (case hx => omega); (case hy => omega); all_goals (intro _; try (exfalso; omega)))
    | (with_reducible apply z_eq; (case ha => repeat (with_reducible first | exact zv_l _ | exact zv_r | apply zv_add | apply zv_sub | apply zv_neg | apply zv_or | apply zv_shl | apply zv_and)); (case hb => repeat (with_reducible first | exact zv_l _ | exact zv_r | apply zv_add | apply zv_sub | apply zv_neg | apply zv_or | apply zv_shl | apply zv_and)); (case hx => omega); (case hy => omega); all_goals (intro _; try (exfalso; omega))))
  · (first | (with_reducible apply z_reti; (case he => repeat (with_reducible first | exact zv_l _ | exact zv_r | apply zv_add | apply zv_sub | apply zv_neg | apply zv_or | apply zv_shl | apply zv_and))) | with_reducible refine z_ret ?_)
    have : (m1 r 1).toNat = i := by omega
    unfold zLeft
    rw [this]
    exact ⟨rfl, rfl⟩
  · have hi := hi (by omega)
    repeat' (first | (first
    | (with_reducible apply z_nm; (case he => repeat (with_reducible first | exact zv_l _ | exact zv_r | apply zv_add | apply zv_sub | apply zv_neg | apply zv_or | apply zv_shl | apply zv_and)))
    | (with_reducible apply z_I; (case h => first | exact zg_I1 (by assumption) | with_unfolding_all rfl); (case hy => first | ((simp (disch := omega) only [zU_c, zU_e, zU_k, zF_c, zF_i, zF_o, zW_o, zW_i, zC_c, zC_i, zC_o]); rfl) | rfl))
    | (with_reducible apply z_0isLeft; (case a1 => assumption); (case e1 => repeat (with_reducible first | exact zv_l _ | exact zv_r | apply zv_add | apply zv_sub | apply zv_neg | apply zv_or | apply zv_shl | apply zv_and)); (case r1 => first | omega | ((simp (disch := omega) only [zU_c, zU_e, zU_k, zF_c, zF_i, zF_o, zW_o, zW_i, zC_c, zC_i, zC_o]); omega)); (case r2 => first | omega | ((simp (disch := omega) only [zU_c, zU_e, zU_k, zF_c, zF_i, zF_o, zW_o, zW_i, zC_c, zC_i, zC_o]); omega)))) | (first
    | (with_reducible apply z_B; all_goals (intro _; try (exfalso; omega)))
    | (with_reducible apply z_E; all_goals intro _)
    | (with_reducible apply z_lt; (case ha => repeat (with_reducible first | exact zv_l _ | exact zv_r | apply zv_add | apply zv_sub | apply zv_neg | apply zv_or | apply zv_shl | apply zv_and)); (case hb => repeat (with_reducible first | exact zv_l _ | exact zv_r | apply zv_add | apply zv_sub | apply zv_neg | apply zv_or | apply zv_shl | apply zv_and)); (case hx => omega); (case hy => omega); all_goals (intro _; try (exfalso; omega)))
    | (with_reducible apply z_le; (case ha => repeat (with_reducible first | exact zv_l _ | exact zv_r | apply zv_add | apply zv_sub | apply zv_neg | apply zv_or | apply zv_shl | apply zv_and)); (case hb => repeat (with_reducible first | exact zv_l _ | exact zv_r | apply zv_add | apply zv_sub | apply zv_neg | apply zv_or | apply zv_shl | apply zv_and)); (case hx => omega); (case hy => omega); all_goals (intro _; try (exfalso; omega)))
    | (with_reducible apply z_eq; (case ha => repeat (with_reducible first | exact zv_l _ | exact zv_r | apply zv_add | apply zv_sub | apply zv_neg | apply zv_or | apply zv_shl | apply zv_and)); (case hb => repeat (with_reducible first | exact zv_l _ | exact zv_r | apply zv_add | apply zv_sub | apply zv_neg | apply zv_or | apply zv_shl | apply zv_and)); (case hx => omega); (case hy => omega); all_goals (intro _; try (exfalso; omega)))))
    · refine hk _ _ _ (by omega) ⟨i + 1, ?_, by omega, rfl, rfl⟩
      rename_i hq
      rw [zBn_f (by simpa using hq)]
      rfl
    · refine hk _ _ _ (by omega) ⟨i + 1, ?_, by omega, rfl, rfl⟩
      rename_i hq
      rw [zOr_bit (by omega) (zBn_lt _ _), zBn_t (by simpa using hq)]
      rfl
set_option maxRecDepth 100000 in
set_option maxHeartbeats 1000000 in
theorem s_0left {m : zMe} {r : Nat} (a1 : zG r) (r1 : 0 ≤ m r 1 ∧ m r 1 ≤ 9) (a2 : ∀ k, 0 ≤ k → k < m r 1 → -1 ≤ m (r + 7) k ∧ m (r + 7) k ≤ 2) : f_X0_left r (zM m) = some (zI (zLeft m r : Nat), zM (m)) := by
  refine zOk.eq ?_
  unfold f_X0_left
  repeat' (first
    | with_reducible refine z_b (zg_ck (by assumption)) ?_
    | (with_reducible apply z_b_ck; (case h => with_unfolding_all rfl)))
  exact s0_left_l a1 r1 a2
theorem z_0left {m : zMe} {r : Nat} (a1 : zG r) (r1 : 0 ≤ m r 1 ∧ m r 1 ≤ 9) (a2 : ∀ k, 0 ≤ k → k < m r 1 → -1 ≤ m (r + 7) k ∧ m (r + 7) k ≤ 2) {α : Type} {kf : Int32 × Hp → Option (α × Hp)} {Q : α → zMe → Prop} (K : zOk (kf (zI (zLeft m r : Nat), zM (m))) Q) : zOk ((f_X0_left r (zM m)).bind kf) Q := z_b (s_0left a1 r1 a2) K
def zOwn (m : zMe) (r : Nat) (t : Int) : Nat := zBn (m r 1).toNat (fun k => decide (m (r + 7) (k : Int) = -1 ∧ (m (r + 4) (k : Int) = t ∨ m (r + 5) (k : Int) = t)))
theorem s0_leftOf_l {m : zMe} {r : Nat} {t : Int} (a1 : zG r) (ht : -2147483648 ≤ t ∧ t < 2147483648) (hN : 0 ≤ m r 1 ∧ m r 1 ≤ 9) (hr : ∀ k, 0 ≤ k → k < m r 1 → (-1 ≤ m (r + 7) k ∧ m (r + 7) k ≤ 2) ∧ (0 ≤ m (r + 4) k ∧ m (r + 4) k < 6) ∧ (0 ≤ m (r + 5) k ∧ m (r + 5) k < 6)) : zOk (lp f_X0_leftOf_4 600 (r, zI t, zI 0, zI 0) (zM m)) (fun v m' => v = zI (zOwn m r t : Nat) ∧ m' = m) := by
  refine z_lp (fun n v m1 => ∃ i : Nat, v = (r, zI t, zI (zBn i (fun k => decide (m (r + 7) (k : Int) = -1 ∧ (m (r + 4) (k : Int) = t ∨ m (r + 5) (k : Int) = t))) : Nat), zI (i : Int)) ∧ (i : Int) ≤ m r 1 ∧ n = (m r 1 - i).toNat ∧ m1 = m) (fun _ _ v m' => v = zI (zOwn m r t : Nat) ∧ m' = m) ?_ 600 (m r 1).toNat _ m (by omega) ⟨0, rfl, by omega, by omega, rfl⟩
  rintro n v m1 k ⟨i, rfl, h1, rfl, rfl⟩ hk
  have hi := hr i (by omega)
  unfold f_X0_leftOf_4
  dsimp only
  (first
    | (with_reducible apply z_nm; (case he => repeat (with_reducible first | exact zv_l _ | exact zv_r | apply zv_add | apply zv_sub | apply zv_neg | apply zv_or | apply zv_shl | apply zv_and)))
    | (with_reducible apply z_I; (case h => first | exact zg_I1 (by assumption) | with_unfolding_all rfl); (case hy => first | ((simp (disch := omega) only [zU_c, zU_e, zU_k, zF_c, zF_i, zF_o, zW_o, zW_i, zC_c, zC_i, zC_o]); rfl) | rfl))
    | (with_reducible apply z_0isLeft; (case a1 => assumption); (case e1 => repeat (with_reducible first | exact zv_l _ | exact zv_r | apply zv_add | apply zv_sub | apply zv_neg | apply zv_or | apply zv_shl | apply zv_and)); (case r1 => first | omega | ((simp (disch := omega) only [zU_c, zU_e, zU_k, zF_c, zF_i, zF_o, zW_o, zW_i, zC_c, zC_i, zC_o]); omega)); (case r2 => first | omega | ((simp (disch := omega) only [zU_c, zU_e, zU_k, zF_c, zF_i, zF_o, zW_o, zW_i, zC_c, zC_i, zC_o]); omega)))
    | (with_reducible apply z_0foe; (case a1 => assumption); (case e1 => repeat (with_reducible first | exact zv_l _ | exact zv_r | apply zv_add | apply zv_sub | apply zv_neg | apply zv_or | apply zv_shl | apply zv_and)); (case e2 => repeat (with_reducible first | exact zv_l _ | exact zv_r | apply zv_add | apply zv_sub | apply zv_neg | apply zv_or | apply zv_shl | apply zv_and)); (case r1 => first | omega | ((simp (disch := omega) only [zU_c, zU_e, zU_k, zF_c, zF_i, zF_o, zW_o, zW_i, zC_c, zC_i, zC_o]); omega)); (case r2 => first | omega | ((simp (disch := omega) only [zU_c, zU_e, zU_k, zF_c, zF_i, zF_o, zW_o, zW_i, zC_c, zC_i, zC_o]); omega)); (case r3 => first | omega | ((simp (disch := omega) only [zU_c, zU_e, zU_k, zF_c, zF_i, zF_o, zW_o, zW_i, zC_c, zC_i, zC_o]); omega)); (case r4 => first | omega | ((simp (disch := omega) only [zU_c, zU_e, zU_k, zF_c, zF_i, zF_o, zW_o, zW_i, zC_c, zC_i, zC_o]); omega))))
  (first
    | (with_reducible apply z_B; all_goals (intro _; try (exfalso; omega)))
    | (with_reducible apply z_E; all_goals intro _)
    | (with_reducible apply z_lt; (case ha => repeat (with_reducible first | exact zv_l _ | exact zv_r | apply zv_add | apply zv_sub | apply zv_neg | apply zv_or | apply zv_shl | apply zv_and)); (case hb => repeat (with_reducible first | exact zv_l _ | exact zv_r | apply zv_add | apply zv_sub | apply zv_neg | apply zv_or | apply zv_shl | apply zv_and)); (case hx => omega); (case hy => omega); all_goals (intro _; try (exfalso; omega)))
    | (with_reducible apply z_le; (case ha => repeat (with_reducible first | exact zv_l _ | exact zv_r | apply zv_add | apply zv_sub | apply zv_neg | apply zv_or | apply zv_shl | apply zv_and)); (case hb => repeat (with_reducible first | exact zv_l _ | exact zv_r | apply zv_add | apply zv_sub | apply zv_neg | apply zv_or | apply zv_shl | apply zv_and)); (case hx => omega); (case hy => omega); all_goals (intro _; try (exfalso; omega)))
    | (with_reducible apply z_eq; (case ha => repeat (with_reducible first | exact zv_l _ | exact zv_r | apply zv_add | apply zv_sub | apply zv_neg | apply zv_or | apply zv_shl | apply zv_and)); (case hb => repeat (with_reducible first | exact zv_l _ | exact zv_r | apply zv_add | apply zv_sub | apply zv_neg | apply zv_or | apply zv_shl | apply zv_and)); (case hx => omega); (case hy => omega); all_goals (intro _; try (exfalso; omega))))
  · (first | (with_reducible apply z_reti; (case he => repeat (with_reducible first | exact zv_l _ | exact zv_r | apply zv_add | apply zv_sub | apply zv_neg | apply zv_or | apply zv_shl | apply zv_and))) | with_reducible refine z_ret ?_)
    have : (m1 r 1).toNat = i := by omega
    unfold zOwn
    rw [this]
    exact ⟨rfl, rfl⟩
  · obtain ⟨hi1, hi2, hi3⟩ := hi (by omega)
    (first
    | (with_reducible apply z_nm; (case he => repeat (with_reducible first | exact zv_l _ | exact zv_r | apply zv_add | apply zv_sub | apply zv_neg | apply zv_or | apply zv_shl | apply zv_and)))
    | (with_reducible apply z_I; (case h => first | exact zg_I1 (by assumption) | with_unfolding_all rfl); (case hy => first | ((simp (disch := omega) only [zU_c, zU_e, zU_k, zF_c, zF_i, zF_o, zW_o, zW_i, zC_c, zC_i, zC_o]); rfl) | rfl))
    | (with_reducible apply z_0isLeft; (case a1 => assumption); (case e1 => repeat (with_reducible first | exact zv_l _ | exact zv_r | apply zv_add | apply zv_sub | apply zv_neg | apply zv_or | apply zv_shl | apply zv_and)); (case r1 => first | omega | ((simp (disch := omega) only [zU_c, zU_e, zU_k, zF_c, zF_i, zF_o, zW_o, zW_i, zC_c, zC_i, zC_o]); omega)); (case r2 => first | omega | ((simp (disch := omega) only [zU_c, zU_e, zU_k, zF_c, zF_i, zF_o, zW_o, zW_i, zC_c, zC_i, zC_o]); omega)))
    | (with_reducible apply z_0foe; (case a1 => assumption); (case e1 => repeat (with_reducible first | exact zv_l _ | exact zv_r | apply zv_add | apply zv_sub | apply zv_neg | apply zv_or | apply zv_shl | apply zv_and)); (case e2 => repeat (with_reducible first | exact zv_l _ | exact zv_r | apply zv_add | apply zv_sub | apply zv_neg | apply zv_or | apply zv_shl | apply zv_and)); (case r1 => first | omega | ((simp (disch := omega) only [zU_c, zU_e, zU_k, zF_c, zF_i, zF_o, zW_o, zW_i, zC_c, zC_i, zC_o]); omega)); (case r2 => first | omega | ((simp (disch := omega) only [zU_c, zU_e, zU_k, zF_c, zF_i, zF_o, zW_o, zW_i, zC_c, zC_i, zC_o]); omega)); (case r3 => first | omega | ((simp (disch := omega) only [zU_c, zU_e, zU_k, zF_c, zF_i, zF_o, zW_o, zW_i, zC_c, zC_i, zC_o]); omega)); (case r4 => first | omega | ((simp (disch := omega) only [zU_c, zU_e, zU_k, zF_c, zF_i, zF_o, zW_o, zW_i, zC_c, zC_i, zC_o]); omega))))
    (first
    | (with_reducible apply z_B; all_goals (intro _; try (exfalso; omega)))
    | (with_reducible apply z_E; all_goals intro _)
    | (with_reducible apply z_lt; (case ha => repeat (with_reducible first | exact zv_l _ | exact zv_r | apply zv_add | apply zv_sub | apply zv_neg | apply zv_or | apply zv_shl | apply zv_and)); (case hb => repeat (with_reducible first | exact zv_l _ | exact zv_r | apply zv_add | apply zv_sub | apply zv_neg | apply zv_or | apply zv_shl | apply zv_and)); (case hx => omega); (case hy => omega); all_goals (intro _; try (exfalso; omega)))
    | (with_reducible apply z_le; (case ha => repeat (with_reducible first | exact zv_l _ | exact zv_r | apply zv_add | apply zv_sub | apply zv_neg | apply zv_or | apply zv_shl | apply zv_and)); (case hb => repeat (with_reducible first | exact zv_l _ | exact zv_r | apply zv_add | apply zv_sub | apply zv_neg | apply zv_or | apply zv_shl | apply zv_and)); (case hx => omega); (case hy => omega); all_goals (intro _; try (exfalso; omega)))
    | (with_reducible apply z_eq; (case ha => repeat (with_reducible first | exact zv_l _ | exact zv_r | apply zv_add | apply zv_sub | apply zv_neg | apply zv_or | apply zv_shl | apply zv_and)); (case hb => repeat (with_reducible first | exact zv_l _ | exact zv_r | apply zv_add | apply zv_sub | apply zv_neg | apply zv_or | apply zv_shl | apply zv_and)); (case hx => omega); (case hy => omega); all_goals (intro _; try (exfalso; omega))))
    · repeat' (first
    | (with_reducible apply z_nm; (case he => repeat (with_reducible first | exact zv_l _ | exact zv_r | apply zv_add | apply zv_sub | apply zv_neg | apply zv_or | apply zv_shl | apply zv_and)))
    | (with_reducible apply z_I; (case h => first | exact zg_I1 (by assumption) | with_unfolding_all rfl); (case hy => first | ((simp (disch := omega) only [zU_c, zU_e, zU_k, zF_c, zF_i, zF_o, zW_o, zW_i, zC_c, zC_i, zC_o]); rfl) | rfl))
    | (with_reducible apply z_0isLeft; (case a1 => assumption); (case e1 => repeat (with_reducible first | exact zv_l _ | exact zv_r | apply zv_add | apply zv_sub | apply zv_neg | apply zv_or | apply zv_shl | apply zv_and)); (case r1 => first | omega | ((simp (disch := omega) only [zU_c, zU_e, zU_k, zF_c, zF_i, zF_o, zW_o, zW_i, zC_c, zC_i, zC_o]); omega)); (case r2 => first | omega | ((simp (disch := omega) only [zU_c, zU_e, zU_k, zF_c, zF_i, zF_o, zW_o, zW_i, zC_c, zC_i, zC_o]); omega)))
    | (with_reducible apply z_0foe; (case a1 => assumption); (case e1 => repeat (with_reducible first | exact zv_l _ | exact zv_r | apply zv_add | apply zv_sub | apply zv_neg | apply zv_or | apply zv_shl | apply zv_and)); (case e2 => repeat (with_reducible first | exact zv_l _ | exact zv_r | apply zv_add | apply zv_sub | apply zv_neg | apply zv_or | apply zv_shl | apply zv_and)); (case r1 => first | omega | ((simp (disch := omega) only [zU_c, zU_e, zU_k, zF_c, zF_i, zF_o, zW_o, zW_i, zC_c, zC_i, zC_o]); omega)); (case r2 => first | omega | ((simp (disch := omega) only [zU_c, zU_e, zU_k, zF_c, zF_i, zF_o, zW_o, zW_i, zC_c, zC_i, zC_o]); omega)); (case r3 => first | omega | ((simp (disch := omega) only [zU_c, zU_e, zU_k, zF_c, zF_i, zF_o, zW_o, zW_i, zC_c, zC_i, zC_o]); omega)); (case r4 => first | omega | ((simp (disch := omega) only [zU_c, zU_e, zU_k, zF_c, zF_i, zF_o, zW_o, zW_i, zC_c, zC_i, zC_o]); omega))))
      refine hk _ _ _ (by omega) ⟨i + 1, ?_, by omega, rfl, rfl⟩
      rename_i hq
      rw [zBn_f (by simp only [decide_eq_true_eq]; exact fun q => hq q.1)]
      rfl
    · rename_i hq
      (first
    | (with_reducible apply z_nm; (case he => repeat (with_reducible first | exact zv_l _ | exact zv_r | apply zv_add | apply zv_sub | apply zv_neg | apply zv_or | apply zv_shl | apply zv_and)))
    | (with_reducible apply z_I; (case h => first | exact zg_I1 (by assumption) | with_unfolding_all rfl); (case hy => first | ((simp (disch := omega) only [zU_c, zU_e, zU_k, zF_c, zF_i, zF_o, zW_o, zW_i, zC_c, zC_i, zC_o]); rfl) | rfl))
    | (with_reducible apply z_0isLeft; (case a1 => assumption); (case e1 => repeat (with_reducible first | exact zv_l _ | exact zv_r | apply zv_add | apply zv_sub | apply zv_neg | apply zv_or | apply zv_shl | apply zv_and)); (case r1 => first | omega | ((simp (disch := omega) only [zU_c, zU_e, zU_k, zF_c, zF_i, zF_o, zW_o, zW_i, zC_c, zC_i, zC_o]); omega)); (case r2 => first | omega | ((simp (disch := omega) only [zU_c, zU_e, zU_k, zF_c, zF_i, zF_o, zW_o, zW_i, zC_c, zC_i, zC_o]); omega)))
    | (with_reducible apply z_0foe; (case a1 => assumption); (case e1 => repeat (with_reducible first | exact zv_l _ | exact zv_r | apply zv_add | apply zv_sub | apply zv_neg | apply zv_or | apply zv_shl | apply zv_and)); (case e2 => repeat (with_reducible first | exact zv_l _ | exact zv_r | apply zv_add | apply zv_sub | apply zv_neg | apply zv_or | apply zv_shl | apply zv_and)); (case r1 => first | omega | ((simp (disch := omega) only [zU_c, zU_e, zU_k, zF_c, zF_i, zF_o, zW_o, zW_i, zC_c, zC_i, zC_o]); omega)); (case r2 => first | omega | ((simp (disch := omega) only [zU_c, zU_e, zU_k, zF_c, zF_i, zF_o, zW_o, zW_i, zC_c, zC_i, zC_o]); omega)); (case r3 => first | omega | ((simp (disch := omega) only [zU_c, zU_e, zU_k, zF_c, zF_i, zF_o, zW_o, zW_i, zC_c, zC_i, zC_o]); omega)); (case r4 => first | omega | ((simp (disch := omega) only [zU_c, zU_e, zU_k, zF_c, zF_i, zF_o, zW_o, zW_i, zC_c, zC_i, zC_o]); omega))))
      by_cases h4 : m1 (r + 4) (i : Int) = t
      · rw [if_pos h4]
        refine z_eq (x := m1 (r + 5) (i : Int)) (y := -1) rfl rfl (by omega) (by omega) (fun q => by exfalso; omega) (fun _ => ?_)
        repeat' (first
    | (with_reducible apply z_nm; (case he => repeat (with_reducible first | exact zv_l _ | exact zv_r | apply zv_add | apply zv_sub | apply zv_neg | apply zv_or | apply zv_shl | apply zv_and)))
    | (with_reducible apply z_I; (case h => first | exact zg_I1 (by assumption) | with_unfolding_all rfl); (case hy => first | ((simp (disch := omega) only [zU_c, zU_e, zU_k, zF_c, zF_i, zF_o, zW_o, zW_i, zC_c, zC_i, zC_o]); rfl) | rfl))
    | (with_reducible apply z_0isLeft; (case a1 => assumption); (case e1 => repeat (with_reducible first | exact zv_l _ | exact zv_r | apply zv_add | apply zv_sub | apply zv_neg | apply zv_or | apply zv_shl | apply zv_and)); (case r1 => first | omega | ((simp (disch := omega) only [zU_c, zU_e, zU_k, zF_c, zF_i, zF_o, zW_o, zW_i, zC_c, zC_i, zC_o]); omega)); (case r2 => first | omega | ((simp (disch := omega) only [zU_c, zU_e, zU_k, zF_c, zF_i, zF_o, zW_o, zW_i, zC_c, zC_i, zC_o]); omega)))
    | (with_reducible apply z_0foe; (case a1 => assumption); (case e1 => repeat (with_reducible first | exact zv_l _ | exact zv_r | apply zv_add | apply zv_sub | apply zv_neg | apply zv_or | apply zv_shl | apply zv_and)); (case e2 => repeat (with_reducible first | exact zv_l _ | exact zv_r | apply zv_add | apply zv_sub | apply zv_neg | apply zv_or | apply zv_shl | apply zv_and)); (case r1 => first | omega | ((simp (disch := omega) only [zU_c, zU_e, zU_k, zF_c, zF_i, zF_o, zW_o, zW_i, zC_c, zC_i, zC_o]); omega)); (case r2 => first | omega | ((simp (disch := omega) only [zU_c, zU_e, zU_k, zF_c, zF_i, zF_o, zW_o, zW_i, zC_c, zC_i, zC_o]); omega)); (case r3 => first | omega | ((simp (disch := omega) only [zU_c, zU_e, zU_k, zF_c, zF_i, zF_o, zW_o, zW_i, zC_c, zC_i, zC_o]); omega)); (case r4 => first | omega | ((simp (disch := omega) only [zU_c, zU_e, zU_k, zF_c, zF_i, zF_o, zW_o, zW_i, zC_c, zC_i, zC_o]); omega))))
        refine hk _ _ _ (by omega) ⟨i + 1, ?_, by omega, rfl, rfl⟩
        rw [zOr_bit (by omega) (zBn_lt _ _), zBn_t (by simp only [decide_eq_true_eq]; exact ⟨hq, Or.inl h4⟩)]
        rfl
      · rw [if_neg h4]
        by_cases h5 : m1 (r + 5) (i : Int) = t
        · rw [if_pos h5]
          refine z_eq (x := m1 (r + 4) (i : Int)) (y := -1) rfl rfl (by omega) (by omega) (fun q => by exfalso; omega) (fun _ => ?_)
          repeat' (first
    | (with_reducible apply z_nm; (case he => repeat (with_reducible first | exact zv_l _ | exact zv_r | apply zv_add | apply zv_sub | apply zv_neg | apply zv_or | apply zv_shl | apply zv_and)))
    | (with_reducible apply z_I; (case h => first | exact zg_I1 (by assumption) | with_unfolding_all rfl); (case hy => first | ((simp (disch := omega) only [zU_c, zU_e, zU_k, zF_c, zF_i, zF_o, zW_o, zW_i, zC_c, zC_i, zC_o]); rfl) | rfl))
    | (with_reducible apply z_0isLeft; (case a1 => assumption); (case e1 => repeat (with_reducible first | exact zv_l _ | exact zv_r | apply zv_add | apply zv_sub | apply zv_neg | apply zv_or | apply zv_shl | apply zv_and)); (case r1 => first | omega | ((simp (disch := omega) only [zU_c, zU_e, zU_k, zF_c, zF_i, zF_o, zW_o, zW_i, zC_c, zC_i, zC_o]); omega)); (case r2 => first | omega | ((simp (disch := omega) only [zU_c, zU_e, zU_k, zF_c, zF_i, zF_o, zW_o, zW_i, zC_c, zC_i, zC_o]); omega)))
    | (with_reducible apply z_0foe; (case a1 => assumption); (case e1 => repeat (with_reducible first | exact zv_l _ | exact zv_r | apply zv_add | apply zv_sub | apply zv_neg | apply zv_or | apply zv_shl | apply zv_and)); (case e2 => repeat (with_reducible first | exact zv_l _ | exact zv_r | apply zv_add | apply zv_sub | apply zv_neg | apply zv_or | apply zv_shl | apply zv_and)); (case r1 => first | omega | ((simp (disch := omega) only [zU_c, zU_e, zU_k, zF_c, zF_i, zF_o, zW_o, zW_i, zC_c, zC_i, zC_o]); omega)); (case r2 => first | omega | ((simp (disch := omega) only [zU_c, zU_e, zU_k, zF_c, zF_i, zF_o, zW_o, zW_i, zC_c, zC_i, zC_o]); omega)); (case r3 => first | omega | ((simp (disch := omega) only [zU_c, zU_e, zU_k, zF_c, zF_i, zF_o, zW_o, zW_i, zC_c, zC_i, zC_o]); omega)); (case r4 => first | omega | ((simp (disch := omega) only [zU_c, zU_e, zU_k, zF_c, zF_i, zF_o, zW_o, zW_i, zC_c, zC_i, zC_o]); omega))))
          refine hk _ _ _ (by omega) ⟨i + 1, ?_, by omega, rfl, rfl⟩
          rw [zOr_bit (by omega) (zBn_lt _ _), zBn_t (by simp only [decide_eq_true_eq]; exact ⟨hq, Or.inr h5⟩)]
          rfl
        · rw [if_neg h5]
          refine z_eq (x := -1) (y := -1) rfl rfl (by omega) (by omega) (fun _ => ?_) (fun q => absurd rfl q)
          repeat' (first
    | (with_reducible apply z_nm; (case he => repeat (with_reducible first | exact zv_l _ | exact zv_r | apply zv_add | apply zv_sub | apply zv_neg | apply zv_or | apply zv_shl | apply zv_and)))
    | (with_reducible apply z_I; (case h => first | exact zg_I1 (by assumption) | with_unfolding_all rfl); (case hy => first | ((simp (disch := omega) only [zU_c, zU_e, zU_k, zF_c, zF_i, zF_o, zW_o, zW_i, zC_c, zC_i, zC_o]); rfl) | rfl))
    | (with_reducible apply z_0isLeft; (case a1 => assumption); (case e1 => repeat (with_reducible first | exact zv_l _ | exact zv_r | apply zv_add | apply zv_sub | apply zv_neg | apply zv_or | apply zv_shl | apply zv_and)); (case r1 => first | omega | ((simp (disch := omega) only [zU_c, zU_e, zU_k, zF_c, zF_i, zF_o, zW_o, zW_i, zC_c, zC_i, zC_o]); omega)); (case r2 => first | omega | ((simp (disch := omega) only [zU_c, zU_e, zU_k, zF_c, zF_i, zF_o, zW_o, zW_i, zC_c, zC_i, zC_o]); omega)))
    | (with_reducible apply z_0foe; (case a1 => assumption); (case e1 => repeat (with_reducible first | exact zv_l _ | exact zv_r | apply zv_add | apply zv_sub | apply zv_neg | apply zv_or | apply zv_shl | apply zv_and)); (case e2 => repeat (with_reducible first | exact zv_l _ | exact zv_r | apply zv_add | apply zv_sub | apply zv_neg | apply zv_or | apply zv_shl | apply zv_and)); (case r1 => first | omega | ((simp (disch := omega) only [zU_c, zU_e, zU_k, zF_c, zF_i, zF_o, zW_o, zW_i, zC_c, zC_i, zC_o]); omega)); (case r2 => first | omega | ((simp (disch := omega) only [zU_c, zU_e, zU_k, zF_c, zF_i, zF_o, zW_o, zW_i, zC_c, zC_i, zC_o]); omega)); (case r3 => first | omega | ((simp (disch := omega) only [zU_c, zU_e, zU_k, zF_c, zF_i, zF_o, zW_o, zW_i, zC_c, zC_i, zC_o]); omega)); (case r4 => first | omega | ((simp (disch := omega) only [zU_c, zU_e, zU_k, zF_c, zF_i, zF_o, zW_o, zW_i, zC_c, zC_i, zC_o]); omega))))
          refine hk _ _ _ (by omega) ⟨i + 1, ?_, by omega, rfl, rfl⟩
          rw [zBn_f (by simp only [decide_eq_true_eq]; exact fun q => q.2.elim h4 h5)]
          rfl
set_option maxRecDepth 100000 in
set_option maxHeartbeats 1000000 in
theorem s_0leftOf {m : zMe} {r : Nat} {e : Int32} {t : Int} (a1 : zG r) (e1 : e = zI t) (r2 : -2147483648 ≤ t ∧ t < 2147483648) (r1 : 0 ≤ m r 1 ∧ m r 1 ≤ 9) (a2 : ∀ k, 0 ≤ k → k < m r 1 → (-1 ≤ m (r + 7) k ∧ m (r + 7) k ≤ 2) ∧ (0 ≤ m (r + 4) k ∧ m (r + 4) k < 6) ∧ (0 ≤ m (r + 5) k ∧ m (r + 5) k < 6)) : f_X0_leftOf r e (zM m) = some (zI (zOwn m r t : Nat), zM (m)) := by
  subst e1
  refine zOk.eq ?_
  unfold f_X0_leftOf
  repeat' (first
    | with_reducible refine z_b (zg_ck (by assumption)) ?_
    | (with_reducible apply z_b_ck; (case h => with_unfolding_all rfl)))
  exact s0_leftOf_l a1 r2 r1 a2
theorem z_0leftOf {m : zMe} {r : Nat} {e : Int32} {t : Int} (a1 : zG r) (e1 : e = zI t) (r2 : -2147483648 ≤ t ∧ t < 2147483648) (r1 : 0 ≤ m r 1 ∧ m r 1 ≤ 9) (a2 : ∀ k, 0 ≤ k → k < m r 1 → (-1 ≤ m (r + 7) k ∧ m (r + 7) k ≤ 2) ∧ (0 ≤ m (r + 4) k ∧ m (r + 4) k < 6) ∧ (0 ≤ m (r + 5) k ∧ m (r + 5) k < 6)) {α : Type} {kf : Int32 × Hp → Option (α × Hp)} {Q : α → zMe → Prop} (K : zOk (kf (zI (zOwn m r t : Nat), zM (m))) Q) : zOk ((f_X0_leftOf r e (zM m)).bind kf) Q := z_b (s_0leftOf a1 e1 r2 r1 a2) K
