/-! Walk: cells 36 (3 size, 4 known), 37 row, 38 left, 39 seen -/
theorem z_lL {m : zMe} {e : Int32} {x : Int} {α : Type} {f : Int64 → Option (α × Hp)} {Q : α → zMe → Prop} (he : e = zI x) (h : 0 ≤ x ∧ x < 81) (K : zOk (f (zJ (m 39 x))) Q) : zOk ((lL (zM m) 39 e).bind f) Q := by
  subst he
  refine z_b ?_ K
  have hc : (zM m)[39]? = some (.inl (1, (81, .inr (.inl (fun j : Nat => zJ (m 39 j)))))) := rfl
  unfold lL
  rw [hc]
  simp only
  rw [if_neg]
  · rw [zI_nat h.1 (by omega), Int.toNat_of_nonneg h.1]
  · rintro (q | q)
    · exact zI_nn h.1 (by omega) q
    · rw [zI_nat h.1 (by omega)] at q
      omega
theorem zsetL (m : zMe) (k x : Int) : (zM m).set 39 (.inl (1, (81, .inr (.inl (fun j : Nat => zJ (zU m 39 k x 39 j)))))) = zM (zU m 39 k x) := rfl
theorem z_lS {m : zMe} {e : Int32} {x : Int} {y : Int64} {α : Type} {f : Hp → Option (α × Hp)} {Q : α → zMe → Prop} (he : e = zI x) (h : 0 ≤ x ∧ x < 81) (K : zOk (f (zM (zU m 39 x y.toInt))) Q) : zOk ((lS (zM m) 39 e y).bind f) Q := by
  subst he
  refine z_b ?_ K
  have hc : (zM m)[39]? = some (.inl (1, (81, .inr (.inl (fun j : Nat => zJ (m 39 j)))))) := rfl
  unfold lS
  rw [hc]
  simp only
  rw [if_neg]
  · rw [zI_nat h.1 (by omega), ← zsetL]
    congr 7
    funext j
    unfold vp_updL zU
    by_cases hj : j = x.toNat
    · rw [if_pos hj, if_pos rfl, if_pos (by omega)]
      exact (Int64.ofInt_toInt y).symm
    · rw [if_neg hj, if_pos rfl, if_neg (by omega)]
  · rintro (q | q)
    · exact zI_nn h.1 (by omega) q
    · rw [zI_nat h.1 (by omega)] at q
      omega
/-- what holds while a walk goes on -/
def zWk (m : zMe) : Prop := (0 ≤ m 36 3 ∧ m 36 3 ≤ 9) ∧ (0 ≤ m 36 4 ∧ m 36 4 ≤ 81) ∧ ∀ j, 0 ≤ j → j < m 36 3 → 0 ≤ m 38 j ∧ m 38 j < m 3 1
theorem zWk_c {m m1 : zMe} (h36 : m1 36 = m 36) (h38 : m1 38 = m 38) (h3 : m1 3 = m 3) (h : zWk m) : zWk m1 := by
  unfold zWk at h ⊢
  rw [h36, h38, h3]
  exact h
/-- behind a piece of a walk -/
def zWo (m m1 : zMe) : Prop := zFr 36 m m1 ∧ zWk m1 ∧ m1 36 3 = m 36 3
theorem zWo_t {m m1 m2 : zMe} (h1 : zWo m m1) (h2 : zWo m1 m2) : zWo m m2 := ⟨zFr_t h1.1 h2.1 (by omega), h2.2.1, by rw [h2.2.2, h1.2.2]⟩
theorem zWo_A {m : zMe} {g : Int → Int} (h : zWk m) : zWo m (zAw m 37 g) := ⟨zFr_A (zFr_r _ _) (by omega), zWk_c (by funext j; exact zAw_c (by omega)) (by funext j; exact zAw_c (by omega)) (by funext j; exact zAw_c (by omega)) h, zAw_c (by omega)⟩
set_option maxRecDepth 100000 in
set_option maxHeartbeats 1000000 in
theorem s_5isNew {m : zMe} (a1 : zWk m) : zOk (f_X5_isNew 36 (zM m)) (fun (_ : Int32) m1 => zWo m m1) := by
  unfold f_X5_isNew
  (first
    | (with_reducible apply z_nm; (case he => repeat (with_reducible first | exact zv_l _ | exact zv_r | apply zv_add | apply zv_sub | apply zv_or | apply zv_shl | apply zv_and)))
    | (with_reducible apply z_b_ck; (case h => with_unfolding_all rfl))
    | (with_reducible apply z_I; (case h => first | with_unfolding_all rfl); (case hy => first | ((simp (disch := omega) only [zU_c, zU_e, zU_k, zF_c, zF_i, zF_o, zW_o, zW_i, zC_c, zC_i, zC_o]); rfl) | rfl))
    | (with_reducible apply z_b_R; (case h => first | with_unfolding_all rfl))
    | (with_reducible apply z_PU; (case he => repeat (with_reducible first | exact zv_l _ | exact zv_r | apply zv_add | apply zv_sub | apply zv_or | apply zv_shl | apply zv_and)); (case h => with_reducible first | exact zp_36_4 _))
    | (with_reducible apply z_L; (case he => repeat (with_reducible first | exact zv_l _ | exact zv_r | apply zv_add | apply zv_sub | apply zv_or | apply zv_shl | apply zv_and)); (case hn => with_reducible first | assumption | exact zl_2 | exact zl_4 | exact zl_6 | exact zl_37); (case h => omega); (case hy => first | ((simp (disch := omega) only [zU_c, zU_e, zU_k, zF_c, zF_i, zF_o, zW_o, zW_i, zC_c, zC_i, zC_o]); rfl) | rfl)))
  refine z_lp (fun n v m1 => ∃ (c : Int64) (i : Int), v = (36, c, zI i) ∧ 0 ≤ i ∧ i ≤ 6 ∧ n = (6 - i).toNat ∧ m1 = m) (fun _ _ _ m1 => zWo m m1) ?_ 600 6 _ _ (by omega) ⟨0, 0, rfl, by omega, by omega, by omega, rfl⟩
  rintro n v m1 k ⟨c, i, rfl, h0, h1, rfl, rfl⟩ hk
  unfold f_X5_isNew_4
  dsimp only
  (first
    | (with_reducible apply z_B; all_goals (intro _; try (exfalso; omega)))
    | (with_reducible apply z_E; all_goals intro _)
    | (with_reducible apply z_lt; (case ha => repeat (with_reducible first | exact zv_l _ | exact zv_r | apply zv_add | apply zv_sub | apply zv_or | apply zv_shl | apply zv_and)); (case hb => repeat (with_reducible first | exact zv_l _ | exact zv_r | apply zv_add | apply zv_sub | apply zv_or | apply zv_shl | apply zv_and)); (case hx => omega); (case hy => omega); all_goals (intro _; try (exfalso; omega)))
    | (with_reducible apply z_le; (case ha => repeat (with_reducible first | exact zv_l _ | exact zv_r | apply zv_add | apply zv_sub | apply zv_or | apply zv_shl | apply zv_and)); (case hb => repeat (with_reducible first | exact zv_l _ | exact zv_r | apply zv_add | apply zv_sub | apply zv_or | apply zv_shl | apply zv_and)); (case hx => omega); (case hy => omega); all_goals (intro _; try (exfalso; omega)))
    | (with_reducible apply z_eq; (case ha => repeat (with_reducible first | exact zv_l _ | exact zv_r | apply zv_add | apply zv_sub | apply zv_or | apply zv_shl | apply zv_and)); (case hb => repeat (with_reducible first | exact zv_l _ | exact zv_r | apply zv_add | apply zv_sub | apply zv_or | apply zv_shl | apply zv_and)); (case hx => omega); (case hy => omega); all_goals (intro _; try (exfalso; omega))))
  · refine z_lp (fun n v m2 => ∃ (i : Int), v = (36, c, zI i) ∧ 0 ≤ i ∧ i ≤ m1 36 4 ∧ n = (m1 36 4 - i).toNat ∧ m2 = m1) (fun _ _ _ m2 => zWo m1 m2) ?_ 600 (m1 36 4).toNat _ _ (by have := a1.2.1; omega) ⟨0, rfl, by omega, a1.2.1.1, by omega, rfl⟩
    rintro n v m2 k2 ⟨i, rfl, h0, h1, rfl, rfl⟩ hk2
    have hkn := a1.2.1
    unfold f_X5_isNew_31
    dsimp only
    (first
    | (with_reducible apply z_nm; (case he => repeat (with_reducible first | exact zv_l _ | exact zv_r | apply zv_add | apply zv_sub | apply zv_or | apply zv_shl | apply zv_and)))
    | (with_reducible apply z_b_ck; (case h => with_unfolding_all rfl))
    | (with_reducible apply z_I; (case h => first | with_unfolding_all rfl); (case hy => first | ((simp (disch := omega) only [zU_c, zU_e, zU_k, zF_c, zF_i, zF_o, zW_o, zW_i, zC_c, zC_i, zC_o]); rfl) | rfl))
    | (with_reducible apply z_b_R; (case h => first | with_unfolding_all rfl))
    | (with_reducible apply z_PU; (case he => repeat (with_reducible first | exact zv_l _ | exact zv_r | apply zv_add | apply zv_sub | apply zv_or | apply zv_shl | apply zv_and)); (case h => with_reducible first | exact zp_36_4 _))
    | (with_reducible apply z_L; (case he => repeat (with_reducible first | exact zv_l _ | exact zv_r | apply zv_add | apply zv_sub | apply zv_or | apply zv_shl | apply zv_and)); (case hn => with_reducible first | assumption | exact zl_2 | exact zl_4 | exact zl_6 | exact zl_37); (case h => omega); (case hy => first | ((simp (disch := omega) only [zU_c, zU_e, zU_k, zF_c, zF_i, zF_o, zW_o, zW_i, zC_c, zC_i, zC_o]); rfl) | rfl)))
    (first
    | (with_reducible apply z_B; all_goals (intro _; try (exfalso; omega)))
    | (with_reducible apply z_E; all_goals intro _)
    | (with_reducible apply z_lt; (case ha => repeat (with_reducible first | exact zv_l _ | exact zv_r | apply zv_add | apply zv_sub | apply zv_or | apply zv_shl | apply zv_and)); (case hb => repeat (with_reducible first | exact zv_l _ | exact zv_r | apply zv_add | apply zv_sub | apply zv_or | apply zv_shl | apply zv_and)); (case hx => omega); (case hy => omega); all_goals (intro _; try (exfalso; omega)))
    | (with_reducible apply z_le; (case ha => repeat (with_reducible first | exact zv_l _ | exact zv_r | apply zv_add | apply zv_sub | apply zv_or | apply zv_shl | apply zv_and)); (case hb => repeat (with_reducible first | exact zv_l _ | exact zv_r | apply zv_add | apply zv_sub | apply zv_or | apply zv_shl | apply zv_and)); (case hx => omega); (case hy => omega); all_goals (intro _; try (exfalso; omega)))
    | (with_reducible apply z_eq; (case ha => repeat (with_reducible first | exact zv_l _ | exact zv_r | apply zv_add | apply zv_sub | apply zv_or | apply zv_shl | apply zv_and)); (case hb => repeat (with_reducible first | exact zv_l _ | exact zv_r | apply zv_add | apply zv_sub | apply zv_or | apply zv_shl | apply zv_and)); (case hx => omega); (case hy => omega); all_goals (intro _; try (exfalso; omega))))
    · (first
    | (with_reducible apply z_nm; (case he => repeat (with_reducible first | exact zv_l _ | exact zv_r | apply zv_add | apply zv_sub | apply zv_or | apply zv_shl | apply zv_and)))
    | (with_reducible apply z_b_ck; (case h => with_unfolding_all rfl))
    | (with_reducible apply z_I; (case h => first | with_unfolding_all rfl); (case hy => first | ((simp (disch := omega) only [zU_c, zU_e, zU_k, zF_c, zF_i, zF_o, zW_o, zW_i, zC_c, zC_i, zC_o]); rfl) | rfl))
    | (with_reducible apply z_b_R; (case h => first | with_unfolding_all rfl))
    | (with_reducible apply z_PU; (case he => repeat (with_reducible first | exact zv_l _ | exact zv_r | apply zv_add | apply zv_sub | apply zv_or | apply zv_shl | apply zv_and)); (case h => with_reducible first | exact zp_36_4 _))
    | (with_reducible apply z_L; (case he => repeat (with_reducible first | exact zv_l _ | exact zv_r | apply zv_add | apply zv_sub | apply zv_or | apply zv_shl | apply zv_and)); (case hn => with_reducible first | assumption | exact zl_2 | exact zl_4 | exact zl_6 | exact zl_37); (case h => omega); (case hy => first | ((simp (disch := omega) only [zU_c, zU_e, zU_k, zF_c, zF_i, zF_o, zW_o, zW_i, zC_c, zC_i, zC_o]); rfl) | rfl)))
      (first
    | (with_reducible apply z_B; all_goals (intro _; try (exfalso; omega)))
    | (with_reducible apply z_E; all_goals intro _)
    | (with_reducible apply z_lt; (case ha => repeat (with_reducible first | exact zv_l _ | exact zv_r | apply zv_add | apply zv_sub | apply zv_or | apply zv_shl | apply zv_and)); (case hb => repeat (with_reducible first | exact zv_l _ | exact zv_r | apply zv_add | apply zv_sub | apply zv_or | apply zv_shl | apply zv_and)); (case hx => omega); (case hy => omega); all_goals (intro _; try (exfalso; omega)))
    | (with_reducible apply z_le; (case ha => repeat (with_reducible first | exact zv_l _ | exact zv_r | apply zv_add | apply zv_sub | apply zv_or | apply zv_shl | apply zv_and)); (case hb => repeat (with_reducible first | exact zv_l _ | exact zv_r | apply zv_add | apply zv_sub | apply zv_or | apply zv_shl | apply zv_and)); (case hx => omega); (case hy => omega); all_goals (intro _; try (exfalso; omega)))
    | (with_reducible apply z_eq; (case ha => repeat (with_reducible first | exact zv_l _ | exact zv_r | apply zv_add | apply zv_sub | apply zv_or | apply zv_shl | apply zv_and)); (case hb => repeat (with_reducible first | exact zv_l _ | exact zv_r | apply zv_add | apply zv_sub | apply zv_or | apply zv_shl | apply zv_and)); (case hx => omega); (case hy => omega); all_goals (intro _; try (exfalso; omega))))
      · (first
    | (with_reducible apply z_nm; (case he => repeat (with_reducible first | exact zv_l _ | exact zv_r | apply zv_add | apply zv_sub | apply zv_or | apply zv_shl | apply zv_and)))
    | (with_reducible apply z_b_ck; (case h => with_unfolding_all rfl))
    | (with_reducible apply z_I; (case h => first | with_unfolding_all rfl); (case hy => first | ((simp (disch := omega) only [zU_c, zU_e, zU_k, zF_c, zF_i, zF_o, zW_o, zW_i, zC_c, zC_i, zC_o]); rfl) | rfl))
    | (with_reducible apply z_b_R; (case h => first | with_unfolding_all rfl))
    | (with_reducible apply z_PU; (case he => repeat (with_reducible first | exact zv_l _ | exact zv_r | apply zv_add | apply zv_sub | apply zv_or | apply zv_shl | apply zv_and)); (case h => with_reducible first | exact zp_36_4 _))
    | (with_reducible apply z_L; (case he => repeat (with_reducible first | exact zv_l _ | exact zv_r | apply zv_add | apply zv_sub | apply zv_or | apply zv_shl | apply zv_and)); (case hn => with_reducible first | assumption | exact zl_2 | exact zl_4 | exact zl_6 | exact zl_37); (case h => omega); (case hy => first | ((simp (disch := omega) only [zU_c, zU_e, zU_k, zF_c, zF_i, zF_o, zW_o, zW_i, zC_c, zC_i, zC_o]); rfl) | rfl)))
        (first
    | (with_reducible apply z_nm; (case he => repeat (with_reducible first | exact zv_l _ | exact zv_r | apply zv_add | apply zv_sub | apply zv_or | apply zv_shl | apply zv_and)))
    | (with_reducible apply z_b_ck; (case h => with_unfolding_all rfl))
    | (with_reducible apply z_I; (case h => first | with_unfolding_all rfl); (case hy => first | ((simp (disch := omega) only [zU_c, zU_e, zU_k, zF_c, zF_i, zF_o, zW_o, zW_i, zC_c, zC_i, zC_o]); rfl) | rfl))
    | (with_reducible apply z_b_R; (case h => first | with_unfolding_all rfl))
    | (with_reducible apply z_PU; (case he => repeat (with_reducible first | exact zv_l _ | exact zv_r | apply zv_add | apply zv_sub | apply zv_or | apply zv_shl | apply zv_and)); (case h => with_reducible first | exact zp_36_4 _))
    | (with_reducible apply z_L; (case he => repeat (with_reducible first | exact zv_l _ | exact zv_r | apply zv_add | apply zv_sub | apply zv_or | apply zv_shl | apply zv_and)); (case hn => with_reducible first | assumption | exact zl_2 | exact zl_4 | exact zl_6 | exact zl_37); (case h => omega); (case hy => first | ((simp (disch := omega) only [zU_c, zU_e, zU_k, zF_c, zF_i, zF_o, zW_o, zW_i, zC_c, zC_i, zC_o]); rfl) | rfl)))
        refine z_lS rfl (by omega) ?_
        refine z_I (y := m2 36 4) (by with_unfolding_all rfl) (zU_c (by omega)) ?_
        (first
    | (with_reducible apply z_nm; (case he => repeat (with_reducible first | exact zv_l _ | exact zv_r | apply zv_add | apply zv_sub | apply zv_or | apply zv_shl | apply zv_and)))
    | (with_reducible apply z_b_ck; (case h => with_unfolding_all rfl))
    | (with_reducible apply z_I; (case h => first | with_unfolding_all rfl); (case hy => first | ((simp (disch := omega) only [zU_c, zU_e, zU_k, zF_c, zF_i, zF_o, zW_o, zW_i, zC_c, zC_i, zC_o]); rfl) | rfl))
    | (with_reducible apply z_b_R; (case h => first | with_unfolding_all rfl))
    | (with_reducible apply z_PU; (case he => repeat (with_reducible first | exact zv_l _ | exact zv_r | apply zv_add | apply zv_sub | apply zv_or | apply zv_shl | apply zv_and)); (case h => with_reducible first | exact zp_36_4 _))
    | (with_reducible apply z_L; (case he => repeat (with_reducible first | exact zv_l _ | exact zv_r | apply zv_add | apply zv_sub | apply zv_or | apply zv_shl | apply zv_and)); (case hn => with_reducible first | assumption | exact zl_2 | exact zl_4 | exact zl_6 | exact zl_37); (case h => omega); (case hy => first | ((simp (disch := omega) only [zU_c, zU_e, zU_k, zF_c, zF_i, zF_o, zW_o, zW_i, zC_c, zC_i, zC_o]); rfl) | rfl)))
        refine ⟨_, _, rfl, ?_, ?_, ?_⟩
        · exact zFr_U (zFr_U (zFr_r _ _) (by omega)) (by omega)
        · obtain ⟨w1, w2, w3⟩ := a1
          refine ⟨?_, ?_, fun j j0 j1 => ?_⟩
          · rw [zU_k (by omega), zU_c (by omega)]
            exact w1
          · rw [zU_e]
            omega
          · rw [zU_k (by omega), zU_c (by omega)] at j1
            rw [zU_c (by omega), zU_c (by omega), zU_c (by omega), zU_c (by omega)]
            exact w3 j j0 j1
        · rw [zU_k (by omega), zU_c (by omega)]
      · exact ⟨_, _, rfl, zFr_r _ _, a1, rfl⟩
    · (first
    | (with_reducible apply z_nm; (case he => repeat (with_reducible first | exact zv_l _ | exact zv_r | apply zv_add | apply zv_sub | apply zv_or | apply zv_shl | apply zv_and)))
    | (with_reducible apply z_b_ck; (case h => with_unfolding_all rfl))
    | (with_reducible apply z_I; (case h => first | with_unfolding_all rfl); (case hy => first | ((simp (disch := omega) only [zU_c, zU_e, zU_k, zF_c, zF_i, zF_o, zW_o, zW_i, zC_c, zC_i, zC_o]); rfl) | rfl))
    | (with_reducible apply z_b_R; (case h => first | with_unfolding_all rfl))
    | (with_reducible apply z_PU; (case he => repeat (with_reducible first | exact zv_l _ | exact zv_r | apply zv_add | apply zv_sub | apply zv_or | apply zv_shl | apply zv_and)); (case h => with_reducible first | exact zp_36_4 _))
    | (with_reducible apply z_L; (case he => repeat (with_reducible first | exact zv_l _ | exact zv_r | apply zv_add | apply zv_sub | apply zv_or | apply zv_shl | apply zv_and)); (case hn => with_reducible first | assumption | exact zl_2 | exact zl_4 | exact zl_6 | exact zl_37); (case h => omega); (case hy => first | ((simp (disch := omega) only [zU_c, zU_e, zU_k, zF_c, zF_i, zF_o, zW_o, zW_i, zC_c, zC_i, zC_o]); rfl) | rfl)))
      refine z_lL rfl (by omega) ?_
      refine z_ite (fun _ => ?_) (fun _ => ?_)
      · exact ⟨_, _, rfl, zFr_r _ _, a1, rfl⟩
      · repeat' (first
    | (with_reducible apply z_nm; (case he => repeat (with_reducible first | exact zv_l _ | exact zv_r | apply zv_add | apply zv_sub | apply zv_or | apply zv_shl | apply zv_and)))
    | (with_reducible apply z_b_ck; (case h => with_unfolding_all rfl))
    | (with_reducible apply z_I; (case h => first | with_unfolding_all rfl); (case hy => first | ((simp (disch := omega) only [zU_c, zU_e, zU_k, zF_c, zF_i, zF_o, zW_o, zW_i, zC_c, zC_i, zC_o]); rfl) | rfl))
    | (with_reducible apply z_b_R; (case h => first | with_unfolding_all rfl))
    | (with_reducible apply z_PU; (case he => repeat (with_reducible first | exact zv_l _ | exact zv_r | apply zv_add | apply zv_sub | apply zv_or | apply zv_shl | apply zv_and)); (case h => with_reducible first | exact zp_36_4 _))
    | (with_reducible apply z_L; (case he => repeat (with_reducible first | exact zv_l _ | exact zv_r | apply zv_add | apply zv_sub | apply zv_or | apply zv_shl | apply zv_and)); (case hn => with_reducible first | assumption | exact zl_2 | exact zl_4 | exact zl_6 | exact zl_37); (case h => omega); (case hy => first | ((simp (disch := omega) only [zU_c, zU_e, zU_k, zF_c, zF_i, zF_o, zW_o, zW_i, zC_c, zC_i, zC_o]); rfl) | rfl)))
        exact hk2 _ _ _ (by omega) ⟨i + 1, rfl, by omega, by omega, rfl, rfl⟩
  · (first
    | (with_reducible apply z_nm; (case he => repeat (with_reducible first | exact zv_l _ | exact zv_r | apply zv_add | apply zv_sub | apply zv_or | apply zv_shl | apply zv_and)))
    | (with_reducible apply z_b_ck; (case h => with_unfolding_all rfl))
    | (with_reducible apply z_I; (case h => first | with_unfolding_all rfl); (case hy => first | ((simp (disch := omega) only [zU_c, zU_e, zU_k, zF_c, zF_i, zF_o, zW_o, zW_i, zC_c, zC_i, zC_o]); rfl) | rfl))
    | (with_reducible apply z_b_R; (case h => first | with_unfolding_all rfl))
    | (with_reducible apply z_PU; (case he => repeat (with_reducible first | exact zv_l _ | exact zv_r | apply zv_add | apply zv_sub | apply zv_or | apply zv_shl | apply zv_and)); (case h => with_reducible first | exact zp_36_4 _))
    | (with_reducible apply z_L; (case he => repeat (with_reducible first | exact zv_l _ | exact zv_r | apply zv_add | apply zv_sub | apply zv_or | apply zv_shl | apply zv_and)); (case hn => with_reducible first | assumption | exact zl_2 | exact zl_4 | exact zl_6 | exact zl_37); (case h => omega); (case hy => first | ((simp (disch := omega) only [zU_c, zU_e, zU_k, zF_c, zF_i, zF_o, zW_o, zW_i, zC_c, zC_i, zC_o]); rfl) | rfl)))
    (first
    | (with_reducible apply z_nm; (case he => repeat (with_reducible first | exact zv_l _ | exact zv_r | apply zv_add | apply zv_sub | apply zv_or | apply zv_shl | apply zv_and)))
    | (with_reducible apply z_b_ck; (case h => with_unfolding_all rfl))
    | (with_reducible apply z_I; (case h => first | with_unfolding_all rfl); (case hy => first | ((simp (disch := omega) only [zU_c, zU_e, zU_k, zF_c, zF_i, zF_o, zW_o, zW_i, zC_c, zC_i, zC_o]); rfl) | rfl))
    | (with_reducible apply z_b_R; (case h => first | with_unfolding_all rfl))
    | (with_reducible apply z_PU; (case he => repeat (with_reducible first | exact zv_l _ | exact zv_r | apply zv_add | apply zv_sub | apply zv_or | apply zv_shl | apply zv_and)); (case h => with_reducible first | exact zp_36_4 _))
    | (with_reducible apply z_L; (case he => repeat (with_reducible first | exact zv_l _ | exact zv_r | apply zv_add | apply zv_sub | apply zv_or | apply zv_shl | apply zv_and)); (case hn => with_reducible first | assumption | exact zl_2 | exact zl_4 | exact zl_6 | exact zl_37); (case h => omega); (case hy => first | ((simp (disch := omega) only [zU_c, zU_e, zU_k, zF_c, zF_i, zF_o, zW_o, zW_i, zC_c, zC_i, zC_o]); rfl) | rfl)))
    refine z_nml ?_
    repeat' (first
    | (with_reducible apply z_nm; (case he => repeat (with_reducible first | exact zv_l _ | exact zv_r | apply zv_add | apply zv_sub | apply zv_or | apply zv_shl | apply zv_and)))
    | (with_reducible apply z_b_ck; (case h => with_unfolding_all rfl))
    | (with_reducible apply z_I; (case h => first | with_unfolding_all rfl); (case hy => first | ((simp (disch := omega) only [zU_c, zU_e, zU_k, zF_c, zF_i, zF_o, zW_o, zW_i, zC_c, zC_i, zC_o]); rfl) | rfl))
    | (with_reducible apply z_b_R; (case h => first | with_unfolding_all rfl))
    | (with_reducible apply z_PU; (case he => repeat (with_reducible first | exact zv_l _ | exact zv_r | apply zv_add | apply zv_sub | apply zv_or | apply zv_shl | apply zv_and)); (case h => with_reducible first | exact zp_36_4 _))
    | (with_reducible apply z_L; (case he => repeat (with_reducible first | exact zv_l _ | exact zv_r | apply zv_add | apply zv_sub | apply zv_or | apply zv_shl | apply zv_and)); (case hn => with_reducible first | assumption | exact zl_2 | exact zl_4 | exact zl_6 | exact zl_37); (case h => omega); (case hy => first | ((simp (disch := omega) only [zU_c, zU_e, zU_k, zF_c, zF_i, zF_o, zW_o, zW_i, zC_c, zC_i, zC_o]); rfl) | rfl)))
    exact hk _ _ _ (by omega) ⟨_, i + 1, rfl, by omega, by omega, rfl, rfl⟩
theorem z_5isNew {m : zMe} (a1 : zWk m) {α : Type} {kf : Int32 × Hp → Option (α × Hp)} {Q : α → zMe → Prop} (K : ∀ (v : Int32) (m1 : zMe), (fun (_ : Int32) m1 => zWo m m1) v m1 → zOk (kf (v, zM m1)) Q) : zOk ((f_X5_isNew 36 (zM m)).bind kf) Q := z_call (s_5isNew a1) K
set_option maxRecDepth 100000 in
set_option maxHeartbeats 1000000 in
theorem s_5isAsTold {m : zMe} {r : Nat} (a1 : zS r) (r1 : 0 ≤ m r 2 ∧ m r 2 ≤ 40) : zOk (f_X5_isAsTold 36 r (zM m)) (fun (_ : Int32) m1 => m1 = m) := by
  unfold f_X5_isAsTold
  (first
    | (with_reducible apply z_nm; (case he => repeat (with_reducible first | exact zv_l _ | exact zv_r | apply zv_add | apply zv_sub)))
    | (with_reducible apply z_b_ck; (case h => with_unfolding_all rfl))
    | (with_reducible apply z_I; (case h => first | exact zs_I2 (by assumption) | with_unfolding_all rfl); (case hy => first | ((simp (disch := omega) only [zU_c, zU_e, zU_k, zF_c, zF_i, zF_o, zW_o, zW_i, zC_c, zC_i, zC_o]); rfl) | rfl))
    | (with_reducible apply z_b_R; (case h => first | exact zs_R0 (by assumption) | with_unfolding_all rfl))
    | (with_reducible apply z_L; (case he => repeat (with_reducible first | exact zv_l _ | exact zv_r | apply zv_add | apply zv_sub)); (case hn => with_reducible first | assumption | exact zs_L (by assumption) | exact zl_2 | exact zl_6 | exact zl_37 | exact zl_40); (case h => omega); (case hy => first | ((simp (disch := omega) only [zU_c, zU_e, zU_k, zF_c, zF_i, zF_o, zW_o, zW_i, zC_c, zC_i, zC_o]); rfl) | rfl)))
  refine z_lp (fun n v m1 => ∃ (i : Int), v = (36, r, zI i) ∧ 0 ≤ i ∧ i ≤ 6 ∧ n = (6 - i).toNat ∧ m1 = m) (fun _ _ _ m1 => m1 = m) ?_ 600 6 _ _ (by omega) ⟨0, rfl, by omega, by omega, by omega, rfl⟩
  rintro n v m1 k ⟨i, rfl, h0, h1, rfl, rfl⟩ hk
  unfold f_X5_isAsTold_2
  dsimp only
  (first
    | (with_reducible apply z_nm; (case he => repeat (with_reducible first | exact zv_l _ | exact zv_r | apply zv_add | apply zv_sub)))
    | (with_reducible apply z_b_ck; (case h => with_unfolding_all rfl))
    | (with_reducible apply z_I; (case h => first | exact zs_I2 (by assumption) | with_unfolding_all rfl); (case hy => first | ((simp (disch := omega) only [zU_c, zU_e, zU_k, zF_c, zF_i, zF_o, zW_o, zW_i, zC_c, zC_i, zC_o]); rfl) | rfl))
    | (with_reducible apply z_b_R; (case h => first | exact zs_R0 (by assumption) | with_unfolding_all rfl))
    | (with_reducible apply z_L; (case he => repeat (with_reducible first | exact zv_l _ | exact zv_r | apply zv_add | apply zv_sub)); (case hn => with_reducible first | assumption | exact zs_L (by assumption) | exact zl_2 | exact zl_6 | exact zl_37 | exact zl_40); (case h => omega); (case hy => first | ((simp (disch := omega) only [zU_c, zU_e, zU_k, zF_c, zF_i, zF_o, zW_o, zW_i, zC_c, zC_i, zC_o]); rfl) | rfl)))
  (first
    | (with_reducible apply z_B; all_goals (intro _; try (exfalso; omega)))
    | (with_reducible apply z_E; all_goals intro _)
    | (with_reducible apply z_lt; (case ha => repeat (with_reducible first | exact zv_l _ | exact zv_r | apply zv_add | apply zv_sub)); (case hb => repeat (with_reducible first | exact zv_l _ | exact zv_r | apply zv_add | apply zv_sub)); (case hx => omega); (case hy => omega); all_goals (intro _; try (exfalso; omega)))
    | (with_reducible apply z_le; (case ha => repeat (with_reducible first | exact zv_l _ | exact zv_r | apply zv_add | apply zv_sub)); (case hb => repeat (with_reducible first | exact zv_l _ | exact zv_r | apply zv_add | apply zv_sub)); (case hx => omega); (case hy => omega); all_goals (intro _; try (exfalso; omega)))
    | (with_reducible apply z_eq; (case ha => repeat (with_reducible first | exact zv_l _ | exact zv_r | apply zv_add | apply zv_sub)); (case hb => repeat (with_reducible first | exact zv_l _ | exact zv_r | apply zv_add | apply zv_sub)); (case hx => omega); (case hy => omega); all_goals (intro _; try (exfalso; omega))))
  · exact ⟨_, _, rfl, rfl⟩
  · (first
    | (with_reducible apply z_B; all_goals (intro _; try (exfalso; omega)))
    | (with_reducible apply z_E; all_goals intro _)
    | (with_reducible apply z_lt; (case ha => repeat (with_reducible first | exact zv_l _ | exact zv_r | apply zv_add | apply zv_sub)); (case hb => repeat (with_reducible first | exact zv_l _ | exact zv_r | apply zv_add | apply zv_sub)); (case hx => omega); (case hy => omega); all_goals (intro _; try (exfalso; omega)))
    | (with_reducible apply z_le; (case ha => repeat (with_reducible first | exact zv_l _ | exact zv_r | apply zv_add | apply zv_sub)); (case hb => repeat (with_reducible first | exact zv_l _ | exact zv_r | apply zv_add | apply zv_sub)); (case hx => omega); (case hy => omega); all_goals (intro _; try (exfalso; omega)))
    | (with_reducible apply z_eq; (case ha => repeat (with_reducible first | exact zv_l _ | exact zv_r | apply zv_add | apply zv_sub)); (case hb => repeat (with_reducible first | exact zv_l _ | exact zv_r | apply zv_add | apply zv_sub)); (case hx => omega); (case hy => omega); all_goals (intro _; try (exfalso; omega))))
    · exact ⟨_, _, rfl, rfl⟩
    · (first
    | (with_reducible apply z_nm; (case he => repeat (with_reducible first | exact zv_l _ | exact zv_r | apply zv_add | apply zv_sub)))
    | (with_reducible apply z_b_ck; (case h => with_unfolding_all rfl))
    | (with_reducible apply z_I; (case h => first | exact zs_I2 (by assumption) | with_unfolding_all rfl); (case hy => first | ((simp (disch := omega) only [zU_c, zU_e, zU_k, zF_c, zF_i, zF_o, zW_o, zW_i, zC_c, zC_i, zC_o]); rfl) | rfl))
    | (with_reducible apply z_b_R; (case h => first | exact zs_R0 (by assumption) | with_unfolding_all rfl))
    | (with_reducible apply z_L; (case he => repeat (with_reducible first | exact zv_l _ | exact zv_r | apply zv_add | apply zv_sub)); (case hn => with_reducible first | assumption | exact zs_L (by assumption) | exact zl_2 | exact zl_6 | exact zl_37 | exact zl_40); (case h => omega); (case hy => first | ((simp (disch := omega) only [zU_c, zU_e, zU_k, zF_c, zF_i, zF_o, zW_o, zW_i, zC_c, zC_i, zC_o]); rfl) | rfl)))
      (first
    | (with_reducible apply z_nm; (case he => repeat (with_reducible first | exact zv_l _ | exact zv_r | apply zv_add | apply zv_sub)))
    | (with_reducible apply z_b_ck; (case h => with_unfolding_all rfl))
    | (with_reducible apply z_I; (case h => first | exact zs_I2 (by assumption) | with_unfolding_all rfl); (case hy => first | ((simp (disch := omega) only [zU_c, zU_e, zU_k, zF_c, zF_i, zF_o, zW_o, zW_i, zC_c, zC_i, zC_o]); rfl) | rfl))
    | (with_reducible apply z_b_R; (case h => first | exact zs_R0 (by assumption) | with_unfolding_all rfl))
    | (with_reducible apply z_L; (case he => repeat (with_reducible first | exact zv_l _ | exact zv_r | apply zv_add | apply zv_sub)); (case hn => with_reducible first | assumption | exact zs_L (by assumption) | exact zl_2 | exact zl_6 | exact zl_37 | exact zl_40); (case h => omega); (case hy => first | ((simp (disch := omega) only [zU_c, zU_e, zU_k, zF_c, zF_i, zF_o, zW_o, zW_i, zC_c, zC_i, zC_o]); rfl) | rfl)))
      (first
    | (with_reducible apply z_nm; (case he => repeat (with_reducible first | exact zv_l _ | exact zv_r | apply zv_add | apply zv_sub)))
    | (with_reducible apply z_b_ck; (case h => with_unfolding_all rfl))
    | (with_reducible apply z_I; (case h => first | exact zs_I2 (by assumption) | with_unfolding_all rfl); (case hy => first | ((simp (disch := omega) only [zU_c, zU_e, zU_k, zF_c, zF_i, zF_o, zW_o, zW_i, zC_c, zC_i, zC_o]); rfl) | rfl))
    | (with_reducible apply z_b_R; (case h => first | exact zs_R0 (by assumption) | with_unfolding_all rfl))
    | (with_reducible apply z_L; (case he => repeat (with_reducible first | exact zv_l _ | exact zv_r | apply zv_add | apply zv_sub)); (case hn => with_reducible first | assumption | exact zs_L (by assumption) | exact zl_2 | exact zl_6 | exact zl_37 | exact zl_40); (case h => omega); (case hy => first | ((simp (disch := omega) only [zU_c, zU_e, zU_k, zF_c, zF_i, zF_o, zW_o, zW_i, zC_c, zC_i, zC_o]); rfl) | rfl)))
      (first
    | (with_reducible apply z_nm; (case he => repeat (with_reducible first | exact zv_l _ | exact zv_r | apply zv_add | apply zv_sub)))
    | (with_reducible apply z_b_ck; (case h => with_unfolding_all rfl))
    | (with_reducible apply z_I; (case h => first | exact zs_I2 (by assumption) | with_unfolding_all rfl); (case hy => first | ((simp (disch := omega) only [zU_c, zU_e, zU_k, zF_c, zF_i, zF_o, zW_o, zW_i, zC_c, zC_i, zC_o]); rfl) | rfl))
    | (with_reducible apply z_b_R; (case h => first | exact zs_R0 (by assumption) | with_unfolding_all rfl))
    | (with_reducible apply z_L; (case he => repeat (with_reducible first | exact zv_l _ | exact zv_r | apply zv_add | apply zv_sub)); (case hn => with_reducible first | assumption | exact zs_L (by assumption) | exact zl_2 | exact zl_6 | exact zl_37 | exact zl_40); (case h => omega); (case hy => first | ((simp (disch := omega) only [zU_c, zU_e, zU_k, zF_c, zF_i, zF_o, zW_o, zW_i, zC_c, zC_i, zC_o]); rfl) | rfl)))
      refine z_ite (fun _ => ?_) (fun _ => ?_)
      · repeat' (first
    | (with_reducible apply z_nm; (case he => repeat (with_reducible first | exact zv_l _ | exact zv_r | apply zv_add | apply zv_sub)))
    | (with_reducible apply z_b_ck; (case h => with_unfolding_all rfl))
    | (with_reducible apply z_I; (case h => first | exact zs_I2 (by assumption) | with_unfolding_all rfl); (case hy => first | ((simp (disch := omega) only [zU_c, zU_e, zU_k, zF_c, zF_i, zF_o, zW_o, zW_i, zC_c, zC_i, zC_o]); rfl) | rfl))
    | (with_reducible apply z_b_R; (case h => first | exact zs_R0 (by assumption) | with_unfolding_all rfl))
    | (with_reducible apply z_L; (case he => repeat (with_reducible first | exact zv_l _ | exact zv_r | apply zv_add | apply zv_sub)); (case hn => with_reducible first | assumption | exact zs_L (by assumption) | exact zl_2 | exact zl_6 | exact zl_37 | exact zl_40); (case h => omega); (case hy => first | ((simp (disch := omega) only [zU_c, zU_e, zU_k, zF_c, zF_i, zF_o, zW_o, zW_i, zC_c, zC_i, zC_o]); rfl) | rfl)))
        exact hk _ _ _ (by omega) ⟨i + 1, rfl, by omega, by omega, rfl, rfl⟩
      · exact ⟨_, _, rfl, rfl⟩
theorem z_5isAsTold {m : zMe} {r : Nat} (a1 : zS r) (r1 : 0 ≤ m r 2 ∧ m r 2 ≤ 40) {α : Type} {kf : Int32 × Hp → Option (α × Hp)} {Q : α → zMe → Prop} (K : ∀ (v : Int32) (m1 : zMe), (fun (_ : Int32) m1 => m1 = m) v m1 → zOk (kf (v, zM m1)) Q) : zOk ((f_X5_isAsTold 36 r (zM m)).bind kf) Q := z_call (s_5isAsTold a1 r1) K
