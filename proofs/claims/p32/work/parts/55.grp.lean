/-! Group: what is taken, dropped, forgotten -/
/-- behind takeFrom -/
def zTk (m : zMe) (l r : Nat) (w : zMe) : Prop := (w l 0 = m r 0 ∧ w l 1 = m r 1 ∧ w l 2 = m r 2) ∧ (∀ j, 0 ≤ j → j < 6 → w (l + 1) j = m (r + 1) j) ∧ (∀ j, 0 ≤ j → j < 6 → w (l + 2) j = m (r + 2) j) ∧ (∀ j, 0 ≤ j → j < 36 → w (l + 3) j = m (r + 3) j) ∧ (∀ j, 0 ≤ j → j < 9 → w (l + 4) j = m (r + 4) j) ∧ (∀ j, 0 ≤ j → j < 9 → w (l + 5) j = m (r + 5) j) ∧ (∀ j, 0 ≤ j → j < 9 → w (l + 6) j = m (r + 6) j) ∧ (∀ j, 0 ≤ j → j < 9 → w (l + 7) j = m (r + 7) j)
set_option maxRecDepth 100000 in
set_option maxHeartbeats 1000000 in
theorem s_0takeFrom {m : zMe} {l r : Nat} (a1 : zG l) (a2 : zG r) (a3 : ¬ l = r) : zOk (f_X0_takeFrom l r (zM m)) (fun v m1 => ∃ w, m1 = zW m (l) (l + 7) w ∧ (fun (_ : Unit) w => zTk m l r w) v w) := by
  have hl : l = 3 ∨ l = 11 ∨ l = 19 := a1
  have hr : r = 3 ∨ r = 11 ∨ r = 19 := a2
  unfold f_X0_takeFrom
  repeat' (first
    | with_reducible refine z_b (zg_ck (by assumption)) ?_
    | (with_reducible apply z_b_ck; (case h => with_unfolding_all rfl))
    | (with_reducible apply z_I; (case h => first | exact zg_I0 (by assumption) | exact zg_I1 (by assumption) | exact zg_I2 (by assumption) | with_unfolding_all rfl); (case hy => first | ((simp (disch := omega) only [zU_c, zU_e, zU_k, zF_c, zF_i, zF_o, zW_o, zW_i, zC_c, zC_i, zC_o]); rfl) | rfl))
    | (with_reducible apply z_b_R; (case h => first | exact zg_R3 (by assumption) | exact zg_R4 (by assumption) | exact zg_R5 (by assumption) | exact zg_R6 (by assumption) | exact zg_R7 (by assumption) | exact zg_R8 (by assumption) | exact zg_R9 (by assumption) | with_unfolding_all rfl))
    | (with_reducible apply z_PU; (case he => repeat (with_reducible first | exact zv_l _ | exact zv_r | apply zv_add)); (case h => with_reducible first | exact zg_P0 (by assumption) _ | exact zg_P1 (by assumption) _ | exact zg_P2 (by assumption) _))
    | (with_reducible apply z_CP; (case he => repeat (with_reducible first | exact zv_l _ | exact zv_r | apply zv_add)); (case hf => repeat (with_reducible first | exact zv_l _ | exact zv_r | apply zv_add)); (case hg => repeat (with_reducible first | exact zv_l _ | exact zv_r | apply zv_add)); (case hr => with_reducible first | assumption | exact zg_L3 (by assumption) | exact zg_L4 (by assumption) | exact zg_L5 (by assumption) | exact zg_L6 (by assumption) | exact zg_L7 (by assumption) | exact zg_L8 (by assumption) | exact zg_L9 (by assumption) | exact zl_4 | exact zl_5 | exact zl_6 | exact zl_7 | exact zl_8 | exact zl_9 | exact zl_10 | exact zl_12 | exact zl_13 | exact zl_14 | exact zl_15 | exact zl_16 | exact zl_17 | exact zl_18 | exact zl_20 | exact zl_21 | exact zl_22 | exact zl_23 | exact zl_24 | exact zl_25 | exact zl_26); (case hd => with_reducible first | assumption | exact zg_L3 (by assumption) | exact zg_L4 (by assumption) | exact zg_L5 (by assumption) | exact zg_L6 (by assumption) | exact zg_L7 (by assumption) | exact zg_L8 (by assumption) | exact zg_L9 (by assumption) | exact zl_4 | exact zl_5 | exact zl_6 | exact zl_7 | exact zl_8 | exact zl_9 | exact zl_10 | exact zl_12 | exact zl_13 | exact zl_14 | exact zl_15 | exact zl_16 | exact zl_17 | exact zl_18 | exact zl_20 | exact zl_21 | exact zl_22 | exact zl_23 | exact zl_24 | exact zl_25 | exact zl_26); (case h => omega); (case hp => omega)))
  refine z_over (fun c j hc => ?_) ?_
  · simp (disch := omega) only [zC_c, zU_c]
  · refine ⟨⟨?_, ?_, ?_⟩, fun j h0 h1 => ?_, fun j h0 h1 => ?_, fun j h0 h1 => ?_, fun j h0 h1 => ?_, fun j h0 h1 => ?_, fun j h0 h1 => ?_, fun j h0 h1 => ?_⟩
    all_goals simp (disch := omega) only [zC_c, zC_i, zU_c, zU_e, zU_k, Int.sub_zero, Int.zero_add]
theorem z_0takeFrom {m : zMe} {l r : Nat} (a1 : zG l) (a2 : zG r) (a3 : ¬ l = r) {α : Type} {kf : Unit × Hp → Option (α × Hp)} {Q : α → zMe → Prop} (K : ∀ (v : Unit) (w : zMe), (fun (_ : Unit) w => zTk m l r w) v w → zOk (kf (v, zM (zW m (l) (l + 7) w))) Q) : zOk ((f_X0_takeFrom l r (zM m)).bind kf) Q := z_call (s_0takeFrom a1 a2 a3) (fun v m1 h => by obtain ⟨w, rfl, hw⟩ := h; exact K v w hw)
theorem s0_forget_l {m : zMe} {l : Nat} {d : Int} (a1 : zG l) (hd : 0 ≤ d ∧ d ≤ 30) (hN : 0 ≤ m l 1 ∧ m l 1 ≤ 9) (hr : ∀ k, 0 ≤ k → k < m l 1 → 1 ≤ m (l + 6) k ∧ m (l + 6) k ≤ 30) : zOk (lp f_X0_forget_2 600 (l, zI d, zI 0) (zM m)) (fun _ m1 => ∃ w, m1 = zW m (l + 7) (l + 7) w ∧ ∀ j, w (l + 7) j = if 0 ≤ j ∧ j < m l 1 ∧ d < m (l + 6) j then -1 else m (l + 7) j) := by
  refine z_lp (fun n v m1 => ∃ (i : Int) (w : zMe), v = (l, zI d, zI i) ∧ 0 ≤ i ∧ i ≤ m l 1 ∧ n = (m l 1 - i).toNat ∧ m1 = zW m (l + 7) (l + 7) w ∧ ∀ j, w (l + 7) j = if 0 ≤ j ∧ j < i ∧ d < m (l + 6) j then -1 else m (l + 7) j) (fun _ _ _ m1 => ∃ w, m1 = zW m (l + 7) (l + 7) w ∧ ∀ j, w (l + 7) j = if 0 ≤ j ∧ j < m l 1 ∧ d < m (l + 6) j then -1 else m (l + 7) j) ?_ 600 (m l 1).toNat _ m (by omega) ⟨0, m, rfl, by omega, by omega, by omega, zW_0 _ _ _, fun j => by rw [if_neg (by omega)]⟩
  rintro n v m1 k ⟨i, w, rfl, h0, h1, rfl, rfl, hw⟩ hk
  have hi := hr i h0
  have hl : l = 3 ∨ l = 11 ∨ l = 19 := a1
  unfold f_X0_forget_2
  dsimp only
  (first
    | (with_reducible apply z_nm; (case he => repeat (with_reducible first | exact zv_l _ | exact zv_r | apply zv_add | apply zv_sub | apply zv_neg)))
    | (with_reducible apply z_I; (case h => first | exact zg_I1 (by assumption) | with_unfolding_all rfl); (case hy => first | ((simp (disch := omega) only [zU_c, zU_e, zU_k, zF_c, zF_i, zF_o, zW_o, zW_i, zC_c, zC_i, zC_o]); rfl) | rfl))
    | (with_reducible apply z_b_R; (case h => first | exact zg_R8 (by assumption) | exact zg_R9 (by assumption) | with_unfolding_all rfl))
    | (with_reducible apply z_L; (case he => repeat (with_reducible first | exact zv_l _ | exact zv_r | apply zv_add | apply zv_sub | apply zv_neg)); (case hn => with_reducible first | assumption | exact zg_L8 (by assumption) | exact zg_L9 (by assumption) | exact zl_4 | exact zl_5 | exact zl_6 | exact zl_7 | exact zl_8 | exact zl_9 | exact zl_10 | exact zl_12 | exact zl_13 | exact zl_14 | exact zl_15 | exact zl_16 | exact zl_17 | exact zl_18 | exact zl_20 | exact zl_21 | exact zl_22 | exact zl_23 | exact zl_24 | exact zl_25 | exact zl_26); (case h => omega); (case hy => first | ((simp (disch := omega) only [zU_c, zU_e, zU_k, zF_c, zF_i, zF_o, zW_o, zW_i, zC_c, zC_i, zC_o]); rfl) | rfl))
    | (with_reducible apply z_S; (case he => repeat (with_reducible first | exact zv_l _ | exact zv_r | apply zv_add | apply zv_sub | apply zv_neg)); (case hg => repeat (with_reducible first | exact zv_l _ | exact zv_r | apply zv_add | apply zv_sub | apply zv_neg)); (case hn => with_reducible first | assumption | exact zg_L8 (by assumption) | exact zg_L9 (by assumption) | exact zl_4 | exact zl_5 | exact zl_6 | exact zl_7 | exact zl_8 | exact zl_9 | exact zl_10 | exact zl_12 | exact zl_13 | exact zl_14 | exact zl_15 | exact zl_16 | exact zl_17 | exact zl_18 | exact zl_20 | exact zl_21 | exact zl_22 | exact zl_23 | exact zl_24 | exact zl_25 | exact zl_26); (case h => omega)))
  (first
    | (with_reducible apply z_B; all_goals (intro _; try (exfalso; omega)))
    | (with_reducible apply z_E; all_goals intro _)
    | (with_reducible apply z_lt; (case ha => repeat (with_reducible first | exact zv_l _ | exact zv_r | apply zv_add | apply zv_sub | apply zv_neg)); (case hb => repeat (with_reducible first | exact zv_l _ | exact zv_r | apply zv_add | apply zv_sub | apply zv_neg)); (case hx => omega); (case hy => omega); all_goals (intro _; try (exfalso; omega)))
    | (with_reducible apply z_le; (case ha => repeat (with_reducible first | exact zv_l _ | exact zv_r | apply zv_add | apply zv_sub | apply zv_neg)); (case hb => repeat (with_reducible first | exact zv_l _ | exact zv_r | apply zv_add | apply zv_sub | apply zv_neg)); (case hx => omega); (case hy => omega); all_goals (intro _; try (exfalso; omega)))
    | (with_reducible apply z_eq; (case ha => repeat (with_reducible first | exact zv_l _ | exact zv_r | apply zv_add | apply zv_sub | apply zv_neg)); (case hb => repeat (with_reducible first | exact zv_l _ | exact zv_r | apply zv_add | apply zv_sub | apply zv_neg)); (case hx => omega); (case hy => omega); all_goals (intro _; try (exfalso; omega))))
  · refine z_ret ⟨w, rfl, fun j => ?_⟩
    have : i = m l 1 := by omega
    rw [← this]
    exact hw j
  · have hi := hi (by omega)
    repeat' (first | (first
    | (with_reducible apply z_nm; (case he => repeat (with_reducible first | exact zv_l _ | exact zv_r | apply zv_add | apply zv_sub | apply zv_neg)))
    | (with_reducible apply z_I; (case h => first | exact zg_I1 (by assumption) | with_unfolding_all rfl); (case hy => first | ((simp (disch := omega) only [zU_c, zU_e, zU_k, zF_c, zF_i, zF_o, zW_o, zW_i, zC_c, zC_i, zC_o]); rfl) | rfl))
    | (with_reducible apply z_b_R; (case h => first | exact zg_R8 (by assumption) | exact zg_R9 (by assumption) | with_unfolding_all rfl))
    | (with_reducible apply z_L; (case he => repeat (with_reducible first | exact zv_l _ | exact zv_r | apply zv_add | apply zv_sub | apply zv_neg)); (case hn => with_reducible first | assumption | exact zg_L8 (by assumption) | exact zg_L9 (by assumption) | exact zl_4 | exact zl_5 | exact zl_6 | exact zl_7 | exact zl_8 | exact zl_9 | exact zl_10 | exact zl_12 | exact zl_13 | exact zl_14 | exact zl_15 | exact zl_16 | exact zl_17 | exact zl_18 | exact zl_20 | exact zl_21 | exact zl_22 | exact zl_23 | exact zl_24 | exact zl_25 | exact zl_26); (case h => omega); (case hy => first | ((simp (disch := omega) only [zU_c, zU_e, zU_k, zF_c, zF_i, zF_o, zW_o, zW_i, zC_c, zC_i, zC_o]); rfl) | rfl))
    | (with_reducible apply z_S; (case he => repeat (with_reducible first | exact zv_l _ | exact zv_r | apply zv_add | apply zv_sub | apply zv_neg)); (case hg => repeat (with_reducible first | exact zv_l _ | exact zv_r | apply zv_add | apply zv_sub | apply zv_neg)); (case hn => with_reducible first | assumption | exact zg_L8 (by assumption) | exact zg_L9 (by assumption) | exact zl_4 | exact zl_5 | exact zl_6 | exact zl_7 | exact zl_8 | exact zl_9 | exact zl_10 | exact zl_12 | exact zl_13 | exact zl_14 | exact zl_15 | exact zl_16 | exact zl_17 | exact zl_18 | exact zl_20 | exact zl_21 | exact zl_22 | exact zl_23 | exact zl_24 | exact zl_25 | exact zl_26); (case h => omega))) | (first
    | (with_reducible apply z_B; all_goals (intro _; try (exfalso; omega)))
    | (with_reducible apply z_E; all_goals intro _)
    | (with_reducible apply z_lt; (case ha => repeat (with_reducible first | exact zv_l _ | exact zv_r | apply zv_add | apply zv_sub | apply zv_neg)); (case hb => repeat (with_reducible first | exact zv_l _ | exact zv_r | apply zv_add | apply zv_sub | apply zv_neg)); (case hx => omega); (case hy => omega); all_goals (intro _; try (exfalso; omega)))
    | (with_reducible apply z_le; (case ha => repeat (with_reducible first | exact zv_l _ | exact zv_r | apply zv_add | apply zv_sub | apply zv_neg)); (case hb => repeat (with_reducible first | exact zv_l _ | exact zv_r | apply zv_add | apply zv_sub | apply zv_neg)); (case hx => omega); (case hy => omega); all_goals (intro _; try (exfalso; omega)))
    | (with_reducible apply z_eq; (case ha => repeat (with_reducible first | exact zv_l _ | exact zv_r | apply zv_add | apply zv_sub | apply zv_neg)); (case hb => repeat (with_reducible first | exact zv_l _ | exact zv_r | apply zv_add | apply zv_sub | apply zv_neg)); (case hx => omega); (case hy => omega); all_goals (intro _; try (exfalso; omega)))))
    · refine hk _ _ _ (by omega) ⟨i + 1, w, rfl, by omega, by omega, rfl, rfl, fun j => ?_⟩
      rw [hw j]
      by_cases hj : j = i
      · subst hj
        rw [if_neg (by omega), if_neg (by omega)]
      · by_cases hc : 0 ≤ j ∧ j < i ∧ d < m (l + 6) j
        · rw [if_pos hc, if_pos (by omega)]
        · rw [if_neg hc, if_neg (by omega)]
    · rw [zU_W (by omega)]
      refine hk _ _ _ (by omega) ⟨i + 1, _, rfl, by omega, by omega, rfl, rfl, fun j => ?_⟩
      by_cases hj : j = i
      · subst hj
        rw [zU_e, if_pos (by omega)]
      · rw [zU_k hj, hw j]
        by_cases hc : 0 ≤ j ∧ j < i ∧ d < m (l + 6) j
        · rw [if_pos hc, if_pos (by omega)]
        · rw [if_neg hc, if_neg (by omega)]
set_option maxRecDepth 100000 in
set_option maxHeartbeats 1000000 in
theorem s_0forget {m : zMe} {l : Nat} {e : Int32} {d : Int} (a1 : zG l) (e1 : e = zI d) (r1 : 0 ≤ d ∧ d ≤ 30) (r2 : 0 ≤ m l 1 ∧ m l 1 ≤ 9) (a2 : ∀ k, 0 ≤ k → k < m l 1 → 1 ≤ m (l + 6) k ∧ m (l + 6) k ≤ 30) : zOk (f_X0_forget l e (zM m)) (fun v m1 => ∃ w, m1 = zW m (l + 7) (l + 7) w ∧ (fun (_ : Unit) w => ∀ j, w (l + 7) j = if 0 ≤ j ∧ j < m l 1 ∧ d < m (l + 6) j then -1 else m (l + 7) j) v w) := by
  subst e1
  unfold f_X0_forget
  repeat' (first
    | with_reducible refine z_b (zg_ck (by assumption)) ?_
    | (with_reducible apply z_b_ck; (case h => with_unfolding_all rfl)))
  exact s0_forget_l a1 r1 r2 a2
theorem z_0forget {m : zMe} {l : Nat} {e : Int32} {d : Int} (a1 : zG l) (e1 : e = zI d) (r1 : 0 ≤ d ∧ d ≤ 30) (r2 : 0 ≤ m l 1 ∧ m l 1 ≤ 9) (a2 : ∀ k, 0 ≤ k → k < m l 1 → 1 ≤ m (l + 6) k ∧ m (l + 6) k ≤ 30) {α : Type} {kf : Unit × Hp → Option (α × Hp)} {Q : α → zMe → Prop} (K : ∀ (v : Unit) (w : zMe), (fun (_ : Unit) w => ∀ j, w (l + 7) j = if 0 ≤ j ∧ j < m l 1 ∧ d < m (l + 6) j then -1 else m (l + 7) j) v w → zOk (kf (v, zM (zW m (l + 7) (l + 7) w))) Q) : zOk ((f_X0_forget l e (zM m)).bind kf) Q := z_call (s_0forget a1 e1 r1 r2 a2) (fun v m1 h => by obtain ⟨w, rfl, hw⟩ := h; exact K v w hw)
theorem s0_was_l {m : zMe} {r : Nat} {d : Int} (a1 : zG r) (hd : 0 ≤ d ∧ d ≤ 30) (hN : 0 ≤ m r 1 ∧ m r 1 ≤ 9) (hr : ∀ k, 0 ≤ k → k < m r 1 → (1 ≤ m (r + 6) k ∧ m (r + 6) k ≤ 30) ∧ -1 ≤ m (r + 7) k ∧ m (r + 7) k ≤ 2) : zOk (lp f_X0_wasPlayedOn_2 600 (r, zI d, zI 0) (zM m)) (fun v m1 => v = zI (zE (∃ k, (0 ≤ k ∧ k < m r 1) ∧ m (r + 6) k = d ∧ ¬ m (r + 7) k = -1)) ∧ m1 = m) := by
  refine z_lp (fun n v m1 => ∃ i : Int, v = (r, zI d, zI i) ∧ 0 ≤ i ∧ i ≤ m r 1 ∧ n = (m r 1 - i).toNat ∧ m1 = m ∧ ∀ k, 0 ≤ k → k < i → m (r + 6) k = d → m (r + 7) k = -1) (fun _ _ v m1 => v = zI (zE (∃ k, (0 ≤ k ∧ k < m r 1) ∧ m (r + 6) k = d ∧ ¬ m (r + 7) k = -1)) ∧ m1 = m) ?_ 600 (m r 1).toNat _ m (by omega) ⟨0, rfl, by omega, by omega, by omega, rfl, fun k h0 h1 => by exfalso; omega⟩
  rintro n v m1 k ⟨i, rfl, h0, h1, rfl, rfl, hw⟩ hk
  have hi := hr i h0
  unfold f_X0_wasPlayedOn_2
  dsimp only
  (first
    | (with_reducible apply z_nm; (case he => repeat (with_reducible first | exact zv_l _ | exact zv_r | apply zv_add | apply zv_sub | apply zv_neg)))
    | (with_reducible apply z_I; (case h => first | exact zg_I1 (by assumption) | with_unfolding_all rfl); (case hy => first | ((simp (disch := omega) only [zU_c, zU_e, zU_k, zF_c, zF_i, zF_o, zW_o, zW_i, zC_c, zC_i, zC_o]); rfl) | rfl))
    | (with_reducible apply z_b_R; (case h => first | exact zg_R8 (by assumption) | with_unfolding_all rfl))
    | (with_reducible apply z_L; (case he => repeat (with_reducible first | exact zv_l _ | exact zv_r | apply zv_add | apply zv_sub | apply zv_neg)); (case hn => with_reducible first | assumption | exact zg_L8 (by assumption) | exact zl_2 | exact zl_6 | exact zl_7 | exact zl_9); (case h => omega); (case hy => first | ((simp (disch := omega) only [zU_c, zU_e, zU_k, zF_c, zF_i, zF_o, zW_o, zW_i, zC_c, zC_i, zC_o]); rfl) | rfl))
    | (with_reducible apply z_0isLeft; (case a1 => assumption); (case e1 => repeat (with_reducible first | exact zv_l _ | exact zv_r | apply zv_add | apply zv_sub | apply zv_neg)); (case r1 => first | omega | ((simp (disch := omega) only [zU_c, zU_e, zU_k, zF_c, zF_i, zF_o, zW_o, zW_i, zC_c, zC_i, zC_o]); omega)); (case r2 => first | omega | ((simp (disch := omega) only [zU_c, zU_e, zU_k, zF_c, zF_i, zF_o, zW_o, zW_i, zC_c, zC_i, zC_o]); omega))))
  (first
    | (with_reducible apply z_B; all_goals (intro _; try (exfalso; omega)))
    | (with_reducible apply z_E; all_goals intro _)
    | (with_reducible apply z_lt; (case ha => repeat (with_reducible first | exact zv_l _ | exact zv_r | apply zv_add | apply zv_sub | apply zv_neg)); (case hb => repeat (with_reducible first | exact zv_l _ | exact zv_r | apply zv_add | apply zv_sub | apply zv_neg)); (case hx => omega); (case hy => omega); all_goals (intro _; try (exfalso; omega)))
    | (with_reducible apply z_le; (case ha => repeat (with_reducible first | exact zv_l _ | exact zv_r | apply zv_add | apply zv_sub | apply zv_neg)); (case hb => repeat (with_reducible first | exact zv_l _ | exact zv_r | apply zv_add | apply zv_sub | apply zv_neg)); (case hx => omega); (case hy => omega); all_goals (intro _; try (exfalso; omega)))
    | (with_reducible apply z_eq; (case ha => repeat (with_reducible first | exact zv_l _ | exact zv_r | apply zv_add | apply zv_sub | apply zv_neg)); (case hb => repeat (with_reducible first | exact zv_l _ | exact zv_r | apply zv_add | apply zv_sub | apply zv_neg)); (case hx => omega); (case hy => omega); all_goals (intro _; try (exfalso; omega))))
  · refine zE_r0 ?_
    rintro ⟨k, hk, h2, h3⟩
    exact h3 (hw k hk.1 (by omega) h2)
  · obtain ⟨hi1, hi2⟩ := hi (by omega)
    repeat' (first | (first
    | (with_reducible apply z_nm; (case he => repeat (with_reducible first | exact zv_l _ | exact zv_r | apply zv_add | apply zv_sub | apply zv_neg)))
    | (with_reducible apply z_I; (case h => first | exact zg_I1 (by assumption) | with_unfolding_all rfl); (case hy => first | ((simp (disch := omega) only [zU_c, zU_e, zU_k, zF_c, zF_i, zF_o, zW_o, zW_i, zC_c, zC_i, zC_o]); rfl) | rfl))
    | (with_reducible apply z_b_R; (case h => first | exact zg_R8 (by assumption) | with_unfolding_all rfl))
    | (with_reducible apply z_L; (case he => repeat (with_reducible first | exact zv_l _ | exact zv_r | apply zv_add | apply zv_sub | apply zv_neg)); (case hn => with_reducible first | assumption | exact zg_L8 (by assumption) | exact zl_2 | exact zl_6 | exact zl_7 | exact zl_9); (case h => omega); (case hy => first | ((simp (disch := omega) only [zU_c, zU_e, zU_k, zF_c, zF_i, zF_o, zW_o, zW_i, zC_c, zC_i, zC_o]); rfl) | rfl))
    | (with_reducible apply z_0isLeft; (case a1 => assumption); (case e1 => repeat (with_reducible first | exact zv_l _ | exact zv_r | apply zv_add | apply zv_sub | apply zv_neg)); (case r1 => first | omega | ((simp (disch := omega) only [zU_c, zU_e, zU_k, zF_c, zF_i, zF_o, zW_o, zW_i, zC_c, zC_i, zC_o]); omega)); (case r2 => first | omega | ((simp (disch := omega) only [zU_c, zU_e, zU_k, zF_c, zF_i, zF_o, zW_o, zW_i, zC_c, zC_i, zC_o]); omega)))) | (first
    | (with_reducible apply z_B; all_goals (intro _; try (exfalso; omega)))
    | (with_reducible apply z_E; all_goals intro _)
    | (with_reducible apply z_lt; (case ha => repeat (with_reducible first | exact zv_l _ | exact zv_r | apply zv_add | apply zv_sub | apply zv_neg)); (case hb => repeat (with_reducible first | exact zv_l _ | exact zv_r | apply zv_add | apply zv_sub | apply zv_neg)); (case hx => omega); (case hy => omega); all_goals (intro _; try (exfalso; omega)))
    | (with_reducible apply z_le; (case ha => repeat (with_reducible first | exact zv_l _ | exact zv_r | apply zv_add | apply zv_sub | apply zv_neg)); (case hb => repeat (with_reducible first | exact zv_l _ | exact zv_r | apply zv_add | apply zv_sub | apply zv_neg)); (case hx => omega); (case hy => omega); all_goals (intro _; try (exfalso; omega)))
    | (with_reducible apply z_eq; (case ha => repeat (with_reducible first | exact zv_l _ | exact zv_r | apply zv_add | apply zv_sub | apply zv_neg)); (case hb => repeat (with_reducible first | exact zv_l _ | exact zv_r | apply zv_add | apply zv_sub | apply zv_neg)); (case hx => omega); (case hy => omega); all_goals (intro _; try (exfalso; omega)))))
    · refine zE_r1 ⟨i, by omega, ?_, ?_⟩ <;> assumption
    · refine hk _ _ _ (by omega) ⟨i + 1, rfl, by omega, by omega, rfl, rfl, fun k q0 q1 q2 => ?_⟩
      by_cases hj : k = i
      · subst hj
        assumption
      · exact hw k q0 (by omega) q2
    · refine hk _ _ _ (by omega) ⟨i + 1, rfl, by omega, by omega, rfl, rfl, fun k q0 q1 q2 => ?_⟩
      by_cases hj : k = i
      · subst hj
        contradiction
      · exact hw k q0 (by omega) q2
set_option maxRecDepth 100000 in
set_option maxHeartbeats 1000000 in
theorem s_0wasPlayedOn {m : zMe} {r : Nat} {e : Int32} {d : Int} (a1 : zG r) (e1 : e = zI d) (r1 : 0 ≤ d ∧ d ≤ 30) (r2 : 0 ≤ m r 1 ∧ m r 1 ≤ 9) (a2 : ∀ k, 0 ≤ k → k < m r 1 → (1 ≤ m (r + 6) k ∧ m (r + 6) k ≤ 30) ∧ -1 ≤ m (r + 7) k ∧ m (r + 7) k ≤ 2) : f_X0_wasPlayedOn r e (zM m) = some (zI (zE (∃ k, (0 ≤ k ∧ k < m r 1) ∧ m (r + 6) k = d ∧ ¬ m (r + 7) k = -1)), zM (m)) := by
  subst e1
  refine zOk.eq ?_
  unfold f_X0_wasPlayedOn
  repeat' (first
    | with_reducible refine z_b (zg_ck (by assumption)) ?_
    | (with_reducible apply z_b_ck; (case h => with_unfolding_all rfl)))
  exact s0_was_l a1 r1 r2 a2
theorem z_0wasPlayedOn {m : zMe} {r : Nat} {e : Int32} {d : Int} (a1 : zG r) (e1 : e = zI d) (r1 : 0 ≤ d ∧ d ≤ 30) (r2 : 0 ≤ m r 1 ∧ m r 1 ≤ 9) (a2 : ∀ k, 0 ≤ k → k < m r 1 → (1 ≤ m (r + 6) k ∧ m (r + 6) k ≤ 30) ∧ -1 ≤ m (r + 7) k ∧ m (r + 7) k ≤ 2) {α : Type} {kf : Int32 × Hp → Option (α × Hp)} {Q : α → zMe → Prop} (K : zOk (kf (zI (zE (∃ k, (0 ≤ k ∧ k < m r 1) ∧ m (r + 6) k = d ∧ ¬ m (r + 7) k = -1)), zM (m))) Q) : zOk ((f_X0_wasPlayedOn r e (zM m)).bind kf) Q := z_b (s_0wasPlayedOn a1 e1 r1 r2 a2) K
