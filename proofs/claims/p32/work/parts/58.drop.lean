/-! Group: the next game between two; a game dropped -/
theorem s0_nx_l {m : zMe} {r : Nat} {f s : Int} (a1 : zG r) (hf : 0 ≤ f ∧ f < 6) (hs : 0 ≤ s ∧ s < 6) (hN : 0 ≤ m r 1 ∧ m r 1 ≤ 9) (hr : ∀ k, 0 ≤ k → k < m r 1 → (-1 ≤ m (r + 7) k ∧ m (r + 7) k ≤ 2) ∧ (0 ≤ m (r + 4) k ∧ m (r + 4) k < 6) ∧ (0 ≤ m (r + 5) k ∧ m (r + 5) k < 6) ∧ (1 ≤ m (r + 6) k ∧ m (r + 6) k ≤ 30)) : zOk (lp f_X0_nextBetween_5 600 (r, zI f, zI s, zI (-1), zI 0) (zM m)) (fun v m1 => v = zI (zNx m r f s (m r 1).toNat) ∧ m1 = m) := by
  refine z_lp (fun n v m1 => ∃ i : Nat, v = (r, zI f, zI s, zI (zNx m r f s i), zI (i : Int)) ∧ (i : Int) ≤ m r 1 ∧ n = (m r 1 - i).toNat ∧ m1 = m) (fun _ _ v m1 => v = zI (zNx m r f s (m r 1).toNat) ∧ m1 = m) ?_ 600 (m r 1).toNat _ m (by omega) ⟨0, rfl, by omega, by omega, rfl⟩
  rintro n v m1 k ⟨i, rfl, h1, rfl, rfl⟩ hk
  have hi := hr i (by omega)
  have hx := zNx_range m1 r f s i
  have hb : ¬ zNx m1 r f s i = -1 → (1 ≤ m1 (r + 6) (zNx m1 r f s i) ∧ m1 (r + 6) (zNx m1 r f s i) ≤ 30) := fun h => (hr _ (by omega) (by omega)).2.2.2
  have hs1 : zNx m1 r f s (i + 1) = if m1 (r + 7) (i : Int) = -1 ∧ (if m1 (r + 4) (i : Int) = f then m1 (r + 5) (i : Int) else if m1 (r + 5) (i : Int) = f then m1 (r + 4) (i : Int) else -1) = s ∧ (zNx m1 r f s i = -1 ∨ m1 (r + 6) (i : Int) < m1 (r + 6) (zNx m1 r f s i)) then (i : Int) else zNx m1 r f s i := rfl
  generalize hB : zNx m1 r f s i = B at hx hb hs1 ⊢
  unfold f_X0_nextBetween_5
  dsimp only
  (first
    | (with_reducible apply z_nm; (case he => repeat (with_reducible first | exact zv_l _ | exact zv_r | apply zv_add | apply zv_sub | apply zv_neg)))
    | (with_reducible apply z_I; (case h => first | exact zg_I1 (by assumption) | with_unfolding_all rfl); (case hy => first | ((simp (disch := omega) only [zU_c, zU_e, zU_k, zF_c, zF_i, zF_o, zW_o, zW_i, zC_c, zC_i, zC_o]); rfl) | rfl))
    | (with_reducible apply z_b_R; (case h => first | exact zg_R8 (by assumption) | with_unfolding_all rfl))
    | (with_reducible apply z_L; (case he => repeat (with_reducible first | exact zv_l _ | exact zv_r | apply zv_add | apply zv_sub | apply zv_neg)); (case hn => with_reducible first | assumption | exact zg_L8 (by assumption) | exact zl_2 | exact zl_4 | exact zl_5 | exact zl_6 | exact zl_7 | exact zl_9); (case h => omega); (case hy => first | ((simp (disch := omega) only [zU_c, zU_e, zU_k, zF_c, zF_i, zF_o, zW_o, zW_i, zC_c, zC_i, zC_o]); rfl) | rfl))
    | (with_reducible apply z_0isLeft; (case a1 => assumption); (case e1 => repeat (with_reducible first | exact zv_l _ | exact zv_r | apply zv_add | apply zv_sub | apply zv_neg)); (case r1 => first | omega | ((simp (disch := omega) only [zU_c, zU_e, zU_k, zF_c, zF_i, zF_o, zW_o, zW_i, zC_c, zC_i, zC_o]); omega)); (case r2 => first | omega | ((simp (disch := omega) only [zU_c, zU_e, zU_k, zF_c, zF_i, zF_o, zW_o, zW_i, zC_c, zC_i, zC_o]); omega)))
    | (with_reducible apply z_0foe; (case a1 => assumption); (case e1 => repeat (with_reducible first | exact zv_l _ | exact zv_r | apply zv_add | apply zv_sub | apply zv_neg)); (case e2 => repeat (with_reducible first | exact zv_l _ | exact zv_r | apply zv_add | apply zv_sub | apply zv_neg)); (case r1 => first | omega | ((simp (disch := omega) only [zU_c, zU_e, zU_k, zF_c, zF_i, zF_o, zW_o, zW_i, zC_c, zC_i, zC_o]); omega)); (case r2 => first | omega | ((simp (disch := omega) only [zU_c, zU_e, zU_k, zF_c, zF_i, zF_o, zW_o, zW_i, zC_c, zC_i, zC_o]); omega)); (case r3 => first | omega | ((simp (disch := omega) only [zU_c, zU_e, zU_k, zF_c, zF_i, zF_o, zW_o, zW_i, zC_c, zC_i, zC_o]); omega)); (case r4 => first | omega | ((simp (disch := omega) only [zU_c, zU_e, zU_k, zF_c, zF_i, zF_o, zW_o, zW_i, zC_c, zC_i, zC_o]); omega))))
  (first
    | (with_reducible apply z_B; all_goals (intro _; try (exfalso; omega)))
    | (with_reducible apply z_E; all_goals intro _)
    | (with_reducible apply z_lt; (case ha => repeat (with_reducible first | exact zv_l _ | exact zv_r | apply zv_add | apply zv_sub | apply zv_neg)); (case hb => repeat (with_reducible first | exact zv_l _ | exact zv_r | apply zv_add | apply zv_sub | apply zv_neg)); (case hx => omega); (case hy => omega); all_goals (intro _; try (exfalso; omega)))
    | (with_reducible apply z_le; (case ha => repeat (with_reducible first | exact zv_l _ | exact zv_r | apply zv_add | apply zv_sub | apply zv_neg)); (case hb => repeat (with_reducible first | exact zv_l _ | exact zv_r | apply zv_add | apply zv_sub | apply zv_neg)); (case hx => omega); (case hy => omega); all_goals (intro _; try (exfalso; omega)))
    | (with_reducible apply z_eq; (case ha => repeat (with_reducible first | exact zv_l _ | exact zv_r | apply zv_add | apply zv_sub | apply zv_neg)); (case hb => repeat (with_reducible first | exact zv_l _ | exact zv_r | apply zv_add | apply zv_sub | apply zv_neg)); (case hx => omega); (case hy => omega); all_goals (intro _; try (exfalso; omega))))
  · (first | (with_reducible apply z_reti; (case he => repeat (with_reducible first | exact zv_l _ | exact zv_r | apply zv_add | apply zv_sub | apply zv_neg))) | with_reducible refine z_ret ?_)
    have : (m1 r 1).toNat = i := by omega
    rw [this, hB]
    exact ⟨rfl, rfl⟩
  · obtain ⟨g1, g2, g3, g4⟩ := hi (by omega)
    have hq : ∀ z, z = zNx m1 r f s (i + 1) → zOk (k (r, zI f, zI s, zI z, zI ((i : Int) + 1)) (zM m1)) (fun v m' => v = zI (zNx m1 r f s (m1 r 1).toNat) ∧ m' = m1) := fun z hz => hk _ _ _ (by omega) ⟨i + 1, by rw [hz]; rfl, by omega, rfl, rfl⟩
    (first
    | (with_reducible apply z_nm; (case he => repeat (with_reducible first | exact zv_l _ | exact zv_r | apply zv_add | apply zv_sub | apply zv_neg)))
    | (with_reducible apply z_I; (case h => first | exact zg_I1 (by assumption) | with_unfolding_all rfl); (case hy => first | ((simp (disch := omega) only [zU_c, zU_e, zU_k, zF_c, zF_i, zF_o, zW_o, zW_i, zC_c, zC_i, zC_o]); rfl) | rfl))
    | (with_reducible apply z_b_R; (case h => first | exact zg_R8 (by assumption) | with_unfolding_all rfl))
    | (with_reducible apply z_L; (case he => repeat (with_reducible first | exact zv_l _ | exact zv_r | apply zv_add | apply zv_sub | apply zv_neg)); (case hn => with_reducible first | assumption | exact zg_L8 (by assumption) | exact zl_2 | exact zl_4 | exact zl_5 | exact zl_6 | exact zl_7 | exact zl_9); (case h => omega); (case hy => first | ((simp (disch := omega) only [zU_c, zU_e, zU_k, zF_c, zF_i, zF_o, zW_o, zW_i, zC_c, zC_i, zC_o]); rfl) | rfl))
    | (with_reducible apply z_0isLeft; (case a1 => assumption); (case e1 => repeat (with_reducible first | exact zv_l _ | exact zv_r | apply zv_add | apply zv_sub | apply zv_neg)); (case r1 => first | omega | ((simp (disch := omega) only [zU_c, zU_e, zU_k, zF_c, zF_i, zF_o, zW_o, zW_i, zC_c, zC_i, zC_o]); omega)); (case r2 => first | omega | ((simp (disch := omega) only [zU_c, zU_e, zU_k, zF_c, zF_i, zF_o, zW_o, zW_i, zC_c, zC_i, zC_o]); omega)))
    | (with_reducible apply z_0foe; (case a1 => assumption); (case e1 => repeat (with_reducible first | exact zv_l _ | exact zv_r | apply zv_add | apply zv_sub | apply zv_neg)); (case e2 => repeat (with_reducible first | exact zv_l _ | exact zv_r | apply zv_add | apply zv_sub | apply zv_neg)); (case r1 => first | omega | ((simp (disch := omega) only [zU_c, zU_e, zU_k, zF_c, zF_i, zF_o, zW_o, zW_i, zC_c, zC_i, zC_o]); omega)); (case r2 => first | omega | ((simp (disch := omega) only [zU_c, zU_e, zU_k, zF_c, zF_i, zF_o, zW_o, zW_i, zC_c, zC_i, zC_o]); omega)); (case r3 => first | omega | ((simp (disch := omega) only [zU_c, zU_e, zU_k, zF_c, zF_i, zF_o, zW_o, zW_i, zC_c, zC_i, zC_o]); omega)); (case r4 => first | omega | ((simp (disch := omega) only [zU_c, zU_e, zU_k, zF_c, zF_i, zF_o, zW_o, zW_i, zC_c, zC_i, zC_o]); omega))))
    (first
    | (with_reducible apply z_B; all_goals (intro _; try (exfalso; omega)))
    | (with_reducible apply z_E; all_goals intro _)
    | (with_reducible apply z_lt; (case ha => repeat (with_reducible first | exact zv_l _ | exact zv_r | apply zv_add | apply zv_sub | apply zv_neg)); (case hb => repeat (with_reducible first | exact zv_l _ | exact zv_r | apply zv_add | apply zv_sub | apply zv_neg)); (case hx => omega); (case hy => omega); all_goals (intro _; try (exfalso; omega)))
    | (with_reducible apply z_le; (case ha => repeat (with_reducible first | exact zv_l _ | exact zv_r | apply zv_add | apply zv_sub | apply zv_neg)); (case hb => repeat (with_reducible first | exact zv_l _ | exact zv_r | apply zv_add | apply zv_sub | apply zv_neg)); (case hx => omega); (case hy => omega); all_goals (intro _; try (exfalso; omega)))
    | (with_reducible apply z_eq; (case ha => repeat (with_reducible first | exact zv_l _ | exact zv_r | apply zv_add | apply zv_sub | apply zv_neg)); (case hb => repeat (with_reducible first | exact zv_l _ | exact zv_r | apply zv_add | apply zv_sub | apply zv_neg)); (case hx => omega); (case hy => omega); all_goals (intro _; try (exfalso; omega))))
    · repeat' (first
    | (with_reducible apply z_nm; (case he => repeat (with_reducible first | exact zv_l _ | exact zv_r | apply zv_add | apply zv_sub | apply zv_neg)))
    | (with_reducible apply z_I; (case h => first | exact zg_I1 (by assumption) | with_unfolding_all rfl); (case hy => first | ((simp (disch := omega) only [zU_c, zU_e, zU_k, zF_c, zF_i, zF_o, zW_o, zW_i, zC_c, zC_i, zC_o]); rfl) | rfl))
    | (with_reducible apply z_b_R; (case h => first | exact zg_R8 (by assumption) | with_unfolding_all rfl))
    | (with_reducible apply z_L; (case he => repeat (with_reducible first | exact zv_l _ | exact zv_r | apply zv_add | apply zv_sub | apply zv_neg)); (case hn => with_reducible first | assumption | exact zg_L8 (by assumption) | exact zl_2 | exact zl_4 | exact zl_5 | exact zl_6 | exact zl_7 | exact zl_9); (case h => omega); (case hy => first | ((simp (disch := omega) only [zU_c, zU_e, zU_k, zF_c, zF_i, zF_o, zW_o, zW_i, zC_c, zC_i, zC_o]); rfl) | rfl))
    | (with_reducible apply z_0isLeft; (case a1 => assumption); (case e1 => repeat (with_reducible first | exact zv_l _ | exact zv_r | apply zv_add | apply zv_sub | apply zv_neg)); (case r1 => first | omega | ((simp (disch := omega) only [zU_c, zU_e, zU_k, zF_c, zF_i, zF_o, zW_o, zW_i, zC_c, zC_i, zC_o]); omega)); (case r2 => first | omega | ((simp (disch := omega) only [zU_c, zU_e, zU_k, zF_c, zF_i, zF_o, zW_o, zW_i, zC_c, zC_i, zC_o]); omega)))
    | (with_reducible apply z_0foe; (case a1 => assumption); (case e1 => repeat (with_reducible first | exact zv_l _ | exact zv_r | apply zv_add | apply zv_sub | apply zv_neg)); (case e2 => repeat (with_reducible first | exact zv_l _ | exact zv_r | apply zv_add | apply zv_sub | apply zv_neg)); (case r1 => first | omega | ((simp (disch := omega) only [zU_c, zU_e, zU_k, zF_c, zF_i, zF_o, zW_o, zW_i, zC_c, zC_i, zC_o]); omega)); (case r2 => first | omega | ((simp (disch := omega) only [zU_c, zU_e, zU_k, zF_c, zF_i, zF_o, zW_o, zW_i, zC_c, zC_i, zC_o]); omega)); (case r3 => first | omega | ((simp (disch := omega) only [zU_c, zU_e, zU_k, zF_c, zF_i, zF_o, zW_o, zW_i, zC_c, zC_i, zC_o]); omega)); (case r4 => first | omega | ((simp (disch := omega) only [zU_c, zU_e, zU_k, zF_c, zF_i, zF_o, zW_o, zW_i, zC_c, zC_i, zC_o]); omega))))
      refine hq _ ?_
      rw [hs1, if_neg]
      intro h
      rename_i q
      exact q h.1
    · rename_i hl
      (first
    | (with_reducible apply z_nm; (case he => repeat (with_reducible first | exact zv_l _ | exact zv_r | apply zv_add | apply zv_sub | apply zv_neg)))
    | (with_reducible apply z_I; (case h => first | exact zg_I1 (by assumption) | with_unfolding_all rfl); (case hy => first | ((simp (disch := omega) only [zU_c, zU_e, zU_k, zF_c, zF_i, zF_o, zW_o, zW_i, zC_c, zC_i, zC_o]); rfl) | rfl))
    | (with_reducible apply z_b_R; (case h => first | exact zg_R8 (by assumption) | with_unfolding_all rfl))
    | (with_reducible apply z_L; (case he => repeat (with_reducible first | exact zv_l _ | exact zv_r | apply zv_add | apply zv_sub | apply zv_neg)); (case hn => with_reducible first | assumption | exact zg_L8 (by assumption) | exact zl_2 | exact zl_4 | exact zl_5 | exact zl_6 | exact zl_7 | exact zl_9); (case h => omega); (case hy => first | ((simp (disch := omega) only [zU_c, zU_e, zU_k, zF_c, zF_i, zF_o, zW_o, zW_i, zC_c, zC_i, zC_o]); rfl) | rfl))
    | (with_reducible apply z_0isLeft; (case a1 => assumption); (case e1 => repeat (with_reducible first | exact zv_l _ | exact zv_r | apply zv_add | apply zv_sub | apply zv_neg)); (case r1 => first | omega | ((simp (disch := omega) only [zU_c, zU_e, zU_k, zF_c, zF_i, zF_o, zW_o, zW_i, zC_c, zC_i, zC_o]); omega)); (case r2 => first | omega | ((simp (disch := omega) only [zU_c, zU_e, zU_k, zF_c, zF_i, zF_o, zW_o, zW_i, zC_c, zC_i, zC_o]); omega)))
    | (with_reducible apply z_0foe; (case a1 => assumption); (case e1 => repeat (with_reducible first | exact zv_l _ | exact zv_r | apply zv_add | apply zv_sub | apply zv_neg)); (case e2 => repeat (with_reducible first | exact zv_l _ | exact zv_r | apply zv_add | apply zv_sub | apply zv_neg)); (case r1 => first | omega | ((simp (disch := omega) only [zU_c, zU_e, zU_k, zF_c, zF_i, zF_o, zW_o, zW_i, zC_c, zC_i, zC_o]); omega)); (case r2 => first | omega | ((simp (disch := omega) only [zU_c, zU_e, zU_k, zF_c, zF_i, zF_o, zW_o, zW_i, zC_c, zC_i, zC_o]); omega)); (case r3 => first | omega | ((simp (disch := omega) only [zU_c, zU_e, zU_k, zF_c, zF_i, zF_o, zW_o, zW_i, zC_c, zC_i, zC_o]); omega)); (case r4 => first | omega | ((simp (disch := omega) only [zU_c, zU_e, zU_k, zF_c, zF_i, zF_o, zW_o, zW_i, zC_c, zC_i, zC_o]); omega))))
      have hF : -1 ≤ (if m1 (r + 4) (i : Int) = f then m1 (r + 5) (i : Int) else if m1 (r + 5) (i : Int) = f then m1 (r + 4) (i : Int) else -1) ∧ (if m1 (r + 4) (i : Int) = f then m1 (r + 5) (i : Int) else if m1 (r + 5) (i : Int) = f then m1 (r + 4) (i : Int) else -1) < 6 := by
        (repeat' split) <;> omega
      generalize (if m1 (r + 4) (i : Int) = f then m1 (r + 5) (i : Int) else if m1 (r + 5) (i : Int) = f then m1 (r + 4) (i : Int) else -1) = F at hs1 hF ⊢
      (first
    | (with_reducible apply z_B; all_goals (intro _; try (exfalso; omega)))
    | (with_reducible apply z_E; all_goals intro _)
    | (with_reducible apply z_lt; (case ha => repeat (with_reducible first | exact zv_l _ | exact zv_r | apply zv_add | apply zv_sub | apply zv_neg)); (case hb => repeat (with_reducible first | exact zv_l _ | exact zv_r | apply zv_add | apply zv_sub | apply zv_neg)); (case hx => omega); (case hy => omega); all_goals (intro _; try (exfalso; omega)))
    | (with_reducible apply z_le; (case ha => repeat (with_reducible first | exact zv_l _ | exact zv_r | apply zv_add | apply zv_sub | apply zv_neg)); (case hb => repeat (with_reducible first | exact zv_l _ | exact zv_r | apply zv_add | apply zv_sub | apply zv_neg)); (case hx => omega); (case hy => omega); all_goals (intro _; try (exfalso; omega)))
    | (with_reducible apply z_eq; (case ha => repeat (with_reducible first | exact zv_l _ | exact zv_r | apply zv_add | apply zv_sub | apply zv_neg)); (case hb => repeat (with_reducible first | exact zv_l _ | exact zv_r | apply zv_add | apply zv_sub | apply zv_neg)); (case hx => omega); (case hy => omega); all_goals (intro _; try (exfalso; omega))))
      · rename_i hFs
        by_cases hB1 : B = -1
        · refine z_eq (x := B) (y := -1) rfl rfl (by omega) (by omega) (fun _ => ?_) (fun q => absurd hB1 q)
          repeat' (first
    | (with_reducible apply z_nm; (case he => repeat (with_reducible first | exact zv_l _ | exact zv_r | apply zv_add | apply zv_sub | apply zv_neg)))
    | (with_reducible apply z_I; (case h => first | exact zg_I1 (by assumption) | with_unfolding_all rfl); (case hy => first | ((simp (disch := omega) only [zU_c, zU_e, zU_k, zF_c, zF_i, zF_o, zW_o, zW_i, zC_c, zC_i, zC_o]); rfl) | rfl))
    | (with_reducible apply z_b_R; (case h => first | exact zg_R8 (by assumption) | with_unfolding_all rfl))
    | (with_reducible apply z_L; (case he => repeat (with_reducible first | exact zv_l _ | exact zv_r | apply zv_add | apply zv_sub | apply zv_neg)); (case hn => with_reducible first | assumption | exact zg_L8 (by assumption) | exact zl_2 | exact zl_4 | exact zl_5 | exact zl_6 | exact zl_7 | exact zl_9); (case h => omega); (case hy => first | ((simp (disch := omega) only [zU_c, zU_e, zU_k, zF_c, zF_i, zF_o, zW_o, zW_i, zC_c, zC_i, zC_o]); rfl) | rfl))
    | (with_reducible apply z_0isLeft; (case a1 => assumption); (case e1 => repeat (with_reducible first | exact zv_l _ | exact zv_r | apply zv_add | apply zv_sub | apply zv_neg)); (case r1 => first | omega | ((simp (disch := omega) only [zU_c, zU_e, zU_k, zF_c, zF_i, zF_o, zW_o, zW_i, zC_c, zC_i, zC_o]); omega)); (case r2 => first | omega | ((simp (disch := omega) only [zU_c, zU_e, zU_k, zF_c, zF_i, zF_o, zW_o, zW_i, zC_c, zC_i, zC_o]); omega)))
    | (with_reducible apply z_0foe; (case a1 => assumption); (case e1 => repeat (with_reducible first | exact zv_l _ | exact zv_r | apply zv_add | apply zv_sub | apply zv_neg)); (case e2 => repeat (with_reducible first | exact zv_l _ | exact zv_r | apply zv_add | apply zv_sub | apply zv_neg)); (case r1 => first | omega | ((simp (disch := omega) only [zU_c, zU_e, zU_k, zF_c, zF_i, zF_o, zW_o, zW_i, zC_c, zC_i, zC_o]); omega)); (case r2 => first | omega | ((simp (disch := omega) only [zU_c, zU_e, zU_k, zF_c, zF_i, zF_o, zW_o, zW_i, zC_c, zC_i, zC_o]); omega)); (case r3 => first | omega | ((simp (disch := omega) only [zU_c, zU_e, zU_k, zF_c, zF_i, zF_o, zW_o, zW_i, zC_c, zC_i, zC_o]); omega)); (case r4 => first | omega | ((simp (disch := omega) only [zU_c, zU_e, zU_k, zF_c, zF_i, zF_o, zW_o, zW_i, zC_c, zC_i, zC_o]); omega))))
          refine hq _ ?_
          rw [hs1, if_pos ⟨hl, hFs, Or.inl hB1⟩]
        · have hb := hb hB1
          refine z_eq (x := B) (y := -1) rfl rfl (by omega) (by omega) (fun q => absurd q hB1) (fun _ => ?_)
          repeat' (first
    | (with_reducible apply z_nm; (case he => repeat (with_reducible first | exact zv_l _ | exact zv_r | apply zv_add | apply zv_sub | apply zv_neg)))
    | (with_reducible apply z_I; (case h => first | exact zg_I1 (by assumption) | with_unfolding_all rfl); (case hy => first | ((simp (disch := omega) only [zU_c, zU_e, zU_k, zF_c, zF_i, zF_o, zW_o, zW_i, zC_c, zC_i, zC_o]); rfl) | rfl))
    | (with_reducible apply z_b_R; (case h => first | exact zg_R8 (by assumption) | with_unfolding_all rfl))
    | (with_reducible apply z_L; (case he => repeat (with_reducible first | exact zv_l _ | exact zv_r | apply zv_add | apply zv_sub | apply zv_neg)); (case hn => with_reducible first | assumption | exact zg_L8 (by assumption) | exact zl_2 | exact zl_4 | exact zl_5 | exact zl_6 | exact zl_7 | exact zl_9); (case h => omega); (case hy => first | ((simp (disch := omega) only [zU_c, zU_e, zU_k, zF_c, zF_i, zF_o, zW_o, zW_i, zC_c, zC_i, zC_o]); rfl) | rfl))
    | (with_reducible apply z_0isLeft; (case a1 => assumption); (case e1 => repeat (with_reducible first | exact zv_l _ | exact zv_r | apply zv_add | apply zv_sub | apply zv_neg)); (case r1 => first | omega | ((simp (disch := omega) only [zU_c, zU_e, zU_k, zF_c, zF_i, zF_o, zW_o, zW_i, zC_c, zC_i, zC_o]); omega)); (case r2 => first | omega | ((simp (disch := omega) only [zU_c, zU_e, zU_k, zF_c, zF_i, zF_o, zW_o, zW_i, zC_c, zC_i, zC_o]); omega)))
    | (with_reducible apply z_0foe; (case a1 => assumption); (case e1 => repeat (with_reducible first | exact zv_l _ | exact zv_r | apply zv_add | apply zv_sub | apply zv_neg)); (case e2 => repeat (with_reducible first | exact zv_l _ | exact zv_r | apply zv_add | apply zv_sub | apply zv_neg)); (case r1 => first | omega | ((simp (disch := omega) only [zU_c, zU_e, zU_k, zF_c, zF_i, zF_o, zW_o, zW_i, zC_c, zC_i, zC_o]); omega)); (case r2 => first | omega | ((simp (disch := omega) only [zU_c, zU_e, zU_k, zF_c, zF_i, zF_o, zW_o, zW_i, zC_c, zC_i, zC_o]); omega)); (case r3 => first | omega | ((simp (disch := omega) only [zU_c, zU_e, zU_k, zF_c, zF_i, zF_o, zW_o, zW_i, zC_c, zC_i, zC_o]); omega)); (case r4 => first | omega | ((simp (disch := omega) only [zU_c, zU_e, zU_k, zF_c, zF_i, zF_o, zW_o, zW_i, zC_c, zC_i, zC_o]); omega))))
          (first
    | (with_reducible apply z_B; all_goals (intro _; try (exfalso; omega)))
    | (with_reducible apply z_E; all_goals intro _)
    | (with_reducible apply z_lt; (case ha => repeat (with_reducible first | exact zv_l _ | exact zv_r | apply zv_add | apply zv_sub | apply zv_neg)); (case hb => repeat (with_reducible first | exact zv_l _ | exact zv_r | apply zv_add | apply zv_sub | apply zv_neg)); (case hx => omega); (case hy => omega); all_goals (intro _; try (exfalso; omega)))
    | (with_reducible apply z_le; (case ha => repeat (with_reducible first | exact zv_l _ | exact zv_r | apply zv_add | apply zv_sub | apply zv_neg)); (case hb => repeat (with_reducible first | exact zv_l _ | exact zv_r | apply zv_add | apply zv_sub | apply zv_neg)); (case hx => omega); (case hy => omega); all_goals (intro _; try (exfalso; omega)))
    | (with_reducible apply z_eq; (case ha => repeat (with_reducible first | exact zv_l _ | exact zv_r | apply zv_add | apply zv_sub | apply zv_neg)); (case hb => repeat (with_reducible first | exact zv_l _ | exact zv_r | apply zv_add | apply zv_sub | apply zv_neg)); (case hx => omega); (case hy => omega); all_goals (intro _; try (exfalso; omega))))
          · repeat' (first
    | (with_reducible apply z_nm; (case he => repeat (with_reducible first | exact zv_l _ | exact zv_r | apply zv_add | apply zv_sub | apply zv_neg)))
    | (with_reducible apply z_I; (case h => first | exact zg_I1 (by assumption) | with_unfolding_all rfl); (case hy => first | ((simp (disch := omega) only [zU_c, zU_e, zU_k, zF_c, zF_i, zF_o, zW_o, zW_i, zC_c, zC_i, zC_o]); rfl) | rfl))
    | (with_reducible apply z_b_R; (case h => first | exact zg_R8 (by assumption) | with_unfolding_all rfl))
    | (with_reducible apply z_L; (case he => repeat (with_reducible first | exact zv_l _ | exact zv_r | apply zv_add | apply zv_sub | apply zv_neg)); (case hn => with_reducible first | assumption | exact zg_L8 (by assumption) | exact zl_2 | exact zl_4 | exact zl_5 | exact zl_6 | exact zl_7 | exact zl_9); (case h => omega); (case hy => first | ((simp (disch := omega) only [zU_c, zU_e, zU_k, zF_c, zF_i, zF_o, zW_o, zW_i, zC_c, zC_i, zC_o]); rfl) | rfl))
    | (with_reducible apply z_0isLeft; (case a1 => assumption); (case e1 => repeat (with_reducible first | exact zv_l _ | exact zv_r | apply zv_add | apply zv_sub | apply zv_neg)); (case r1 => first | omega | ((simp (disch := omega) only [zU_c, zU_e, zU_k, zF_c, zF_i, zF_o, zW_o, zW_i, zC_c, zC_i, zC_o]); omega)); (case r2 => first | omega | ((simp (disch := omega) only [zU_c, zU_e, zU_k, zF_c, zF_i, zF_o, zW_o, zW_i, zC_c, zC_i, zC_o]); omega)))
    | (with_reducible apply z_0foe; (case a1 => assumption); (case e1 => repeat (with_reducible first | exact zv_l _ | exact zv_r | apply zv_add | apply zv_sub | apply zv_neg)); (case e2 => repeat (with_reducible first | exact zv_l _ | exact zv_r | apply zv_add | apply zv_sub | apply zv_neg)); (case r1 => first | omega | ((simp (disch := omega) only [zU_c, zU_e, zU_k, zF_c, zF_i, zF_o, zW_o, zW_i, zC_c, zC_i, zC_o]); omega)); (case r2 => first | omega | ((simp (disch := omega) only [zU_c, zU_e, zU_k, zF_c, zF_i, zF_o, zW_o, zW_i, zC_c, zC_i, zC_o]); omega)); (case r3 => first | omega | ((simp (disch := omega) only [zU_c, zU_e, zU_k, zF_c, zF_i, zF_o, zW_o, zW_i, zC_c, zC_i, zC_o]); omega)); (case r4 => first | omega | ((simp (disch := omega) only [zU_c, zU_e, zU_k, zF_c, zF_i, zF_o, zW_o, zW_i, zC_c, zC_i, zC_o]); omega))))
            refine hq _ ?_
            rw [hs1, if_neg (by omega)]
          · repeat' (first
    | (with_reducible apply z_nm; (case he => repeat (with_reducible first | exact zv_l _ | exact zv_r | apply zv_add | apply zv_sub | apply zv_neg)))
    | (with_reducible apply z_I; (case h => first | exact zg_I1 (by assumption) | with_unfolding_all rfl); (case hy => first | ((simp (disch := omega) only [zU_c, zU_e, zU_k, zF_c, zF_i, zF_o, zW_o, zW_i, zC_c, zC_i, zC_o]); rfl) | rfl))
    | (with_reducible apply z_b_R; (case h => first | exact zg_R8 (by assumption) | with_unfolding_all rfl))
    | (with_reducible apply z_L; (case he => repeat (with_reducible first | exact zv_l _ | exact zv_r | apply zv_add | apply zv_sub | apply zv_neg)); (case hn => with_reducible first | assumption | exact zg_L8 (by assumption) | exact zl_2 | exact zl_4 | exact zl_5 | exact zl_6 | exact zl_7 | exact zl_9); (case h => omega); (case hy => first | ((simp (disch := omega) only [zU_c, zU_e, zU_k, zF_c, zF_i, zF_o, zW_o, zW_i, zC_c, zC_i, zC_o]); rfl) | rfl))
    | (with_reducible apply z_0isLeft; (case a1 => assumption); (case e1 => repeat (with_reducible first | exact zv_l _ | exact zv_r | apply zv_add | apply zv_sub | apply zv_neg)); (case r1 => first | omega | ((simp (disch := omega) only [zU_c, zU_e, zU_k, zF_c, zF_i, zF_o, zW_o, zW_i, zC_c, zC_i, zC_o]); omega)); (case r2 => first | omega | ((simp (disch := omega) only [zU_c, zU_e, zU_k, zF_c, zF_i, zF_o, zW_o, zW_i, zC_c, zC_i, zC_o]); omega)))
    | (with_reducible apply z_0foe; (case a1 => assumption); (case e1 => repeat (with_reducible first | exact zv_l _ | exact zv_r | apply zv_add | apply zv_sub | apply zv_neg)); (case e2 => repeat (with_reducible first | exact zv_l _ | exact zv_r | apply zv_add | apply zv_sub | apply zv_neg)); (case r1 => first | omega | ((simp (disch := omega) only [zU_c, zU_e, zU_k, zF_c, zF_i, zF_o, zW_o, zW_i, zC_c, zC_i, zC_o]); omega)); (case r2 => first | omega | ((simp (disch := omega) only [zU_c, zU_e, zU_k, zF_c, zF_i, zF_o, zW_o, zW_i, zC_c, zC_i, zC_o]); omega)); (case r3 => first | omega | ((simp (disch := omega) only [zU_c, zU_e, zU_k, zF_c, zF_i, zF_o, zW_o, zW_i, zC_c, zC_i, zC_o]); omega)); (case r4 => first | omega | ((simp (disch := omega) only [zU_c, zU_e, zU_k, zF_c, zF_i, zF_o, zW_o, zW_i, zC_c, zC_i, zC_o]); omega))))
            refine hq _ ?_
            rw [hs1, if_pos (by omega)]
      · repeat' (first
    | (with_reducible apply z_nm; (case he => repeat (with_reducible first | exact zv_l _ | exact zv_r | apply zv_add | apply zv_sub | apply zv_neg)))
    | (with_reducible apply z_I; (case h => first | exact zg_I1 (by assumption) | with_unfolding_all rfl); (case hy => first | ((simp (disch := omega) only [zU_c, zU_e, zU_k, zF_c, zF_i, zF_o, zW_o, zW_i, zC_c, zC_i, zC_o]); rfl) | rfl))
    | (with_reducible apply z_b_R; (case h => first | exact zg_R8 (by assumption) | with_unfolding_all rfl))
    | (with_reducible apply z_L; (case he => repeat (with_reducible first | exact zv_l _ | exact zv_r | apply zv_add | apply zv_sub | apply zv_neg)); (case hn => with_reducible first | assumption | exact zg_L8 (by assumption) | exact zl_2 | exact zl_4 | exact zl_5 | exact zl_6 | exact zl_7 | exact zl_9); (case h => omega); (case hy => first | ((simp (disch := omega) only [zU_c, zU_e, zU_k, zF_c, zF_i, zF_o, zW_o, zW_i, zC_c, zC_i, zC_o]); rfl) | rfl))
    | (with_reducible apply z_0isLeft; (case a1 => assumption); (case e1 => repeat (with_reducible first | exact zv_l _ | exact zv_r | apply zv_add | apply zv_sub | apply zv_neg)); (case r1 => first | omega | ((simp (disch := omega) only [zU_c, zU_e, zU_k, zF_c, zF_i, zF_o, zW_o, zW_i, zC_c, zC_i, zC_o]); omega)); (case r2 => first | omega | ((simp (disch := omega) only [zU_c, zU_e, zU_k, zF_c, zF_i, zF_o, zW_o, zW_i, zC_c, zC_i, zC_o]); omega)))
    | (with_reducible apply z_0foe; (case a1 => assumption); (case e1 => repeat (with_reducible first | exact zv_l _ | exact zv_r | apply zv_add | apply zv_sub | apply zv_neg)); (case e2 => repeat (with_reducible first | exact zv_l _ | exact zv_r | apply zv_add | apply zv_sub | apply zv_neg)); (case r1 => first | omega | ((simp (disch := omega) only [zU_c, zU_e, zU_k, zF_c, zF_i, zF_o, zW_o, zW_i, zC_c, zC_i, zC_o]); omega)); (case r2 => first | omega | ((simp (disch := omega) only [zU_c, zU_e, zU_k, zF_c, zF_i, zF_o, zW_o, zW_i, zC_c, zC_i, zC_o]); omega)); (case r3 => first | omega | ((simp (disch := omega) only [zU_c, zU_e, zU_k, zF_c, zF_i, zF_o, zW_o, zW_i, zC_c, zC_i, zC_o]); omega)); (case r4 => first | omega | ((simp (disch := omega) only [zU_c, zU_e, zU_k, zF_c, zF_i, zF_o, zW_o, zW_i, zC_c, zC_i, zC_o]); omega))))
        refine hq _ ?_
        rw [hs1, if_neg]
        intro h
        rename_i q
        exact q h.2.1
set_option maxRecDepth 100000 in
set_option maxHeartbeats 1000000 in
theorem s_0nextBetween {m : zMe} {r : Nat} {e1 e2 : Int32} {f s : Int} (a1 : zG r) (e3 : e1 = zI f) (e4 : e2 = zI s) (r3 : 0 ≤ f ∧ f < 6) (r4 : 0 ≤ s ∧ s < 6) (r1 : 0 ≤ m r 1 ∧ m r 1 ≤ 9) (a2 : ∀ k, 0 ≤ k → k < m r 1 → (-1 ≤ m (r + 7) k ∧ m (r + 7) k ≤ 2) ∧ (0 ≤ m (r + 4) k ∧ m (r + 4) k < 6) ∧ (0 ≤ m (r + 5) k ∧ m (r + 5) k < 6) ∧ (1 ≤ m (r + 6) k ∧ m (r + 6) k ≤ 30)) : f_X0_nextBetween r e1 e2 (zM m) = some (zI (zNx m r f s (m r 1).toNat), zM (m)) := by
  subst e3; subst e4
  refine zOk.eq ?_
  unfold f_X0_nextBetween
  repeat' (first
    | with_reducible refine z_b (zg_ck (by assumption)) ?_
    | (with_reducible apply z_b_ck; (case h => with_unfolding_all rfl)))
  exact s0_nx_l a1 r3 r4 r1 a2
theorem z_0nextBetween {m : zMe} {r : Nat} {e1 e2 : Int32} {f s : Int} (a1 : zG r) (e3 : e1 = zI f) (e4 : e2 = zI s) (r3 : 0 ≤ f ∧ f < 6) (r4 : 0 ≤ s ∧ s < 6) (r1 : 0 ≤ m r 1 ∧ m r 1 ≤ 9) (a2 : ∀ k, 0 ≤ k → k < m r 1 → (-1 ≤ m (r + 7) k ∧ m (r + 7) k ≤ 2) ∧ (0 ≤ m (r + 4) k ∧ m (r + 4) k < 6) ∧ (0 ≤ m (r + 5) k ∧ m (r + 5) k < 6) ∧ (1 ≤ m (r + 6) k ∧ m (r + 6) k ≤ 30)) {α : Type} {kf : Int32 × Hp → Option (α × Hp)} {Q : α → zMe → Prop} (K : zOk (kf (zI (zNx m r f s (m r 1).toNat), zM (m))) Q) : zOk ((f_X0_nextBetween r e1 e2 (zM m)).bind kf) Q := z_b (s_0nextBetween a1 e3 e4 r3 r4 r1 a2) K
/-- behind drop -/
def zDr (m : zMe) (l : Nat) (g : Int) (w : zMe) : Prop := (w l 0 = m l 0 ∧ w l 1 = m l 1 - 1 ∧ w l 2 = m l 2) ∧ (∀ c, c = 1 ∨ c = 2 ∨ c = 3 → ∀ j, w (l + c) j = m (l + c) j) ∧ ∀ c, c = 4 ∨ c = 5 ∨ c = 6 ∨ c = 7 → ∀ j, 0 ≤ j → j < m l 1 - 1 → w (l + c) j = if j < g then m (l + c) j else m (l + c) (j + 1)
theorem s0_drop_l {m : zMe} {l : Nat} {g : Int} (a1 : zG l) (hN : 1 ≤ m l 1 ∧ m l 1 ≤ 9) (hg : 0 ≤ g ∧ g < m l 1) : zOk (lp f_X0_drop_2 600 (l, zI g) (zM m)) (fun (_ : Unit) m1 => ∃ w, m1 = zW m l (l + 7) w ∧ zDr m l g w) := by
  refine z_lp (fun n v m1 => ∃ (i : Int) (w : zMe), v = (l, zI i) ∧ g ≤ i ∧ i ≤ m l 1 - 1 ∧ n = (m l 1 - i).toNat ∧ m1 = zW m l (l + 7) w ∧ (w l 0 = m l 0 ∧ w l 1 = m l 1 ∧ w l 2 = m l 2) ∧ (∀ c, c = 1 ∨ c = 2 ∨ c = 3 → ∀ j, w (l + c) j = m (l + c) j) ∧ ∀ c, c = 4 ∨ c = 5 ∨ c = 6 ∨ c = 7 → ∀ j, w (l + c) j = if g ≤ j ∧ j < i then m (l + c) (j + 1) else m (l + c) j) (fun _ _ _ m1 => ∃ w, m1 = zW m l (l + 7) w ∧ zDr m l g w) ?_ 600 (m l 1 - g).toNat _ m (by omega) ⟨g, m, rfl, by omega, by omega, by omega, zW_0 _ _ _, ⟨rfl, rfl, rfl⟩, fun _ _ _ => rfl, fun c _ j => by rw [if_neg (by omega)]⟩
  rintro n v m1 k ⟨i, w, rfl, h0, h1, rfl, rfl, hw0, hw1, hw2⟩ hk
  have hl : l = 3 ∨ l = 11 ∨ l = 19 := a1
  unfold f_X0_drop_2
  dsimp only
  (first
    | (with_reducible apply z_nm; (case he => repeat (with_reducible first | exact zv_l _ | exact zv_r | apply zv_add | apply zv_sub)))
    | (with_reducible apply z_I; (case h => first | exact zg_I1 (by assumption) | with_unfolding_all rfl); (case hy => first | ((simp (disch := omega) only [zU_c, zU_e, zU_k, zF_c, zF_i, zF_o, zW_o, zW_i, zC_c, zC_i, zC_o]); rfl) | rfl))
    | (with_reducible apply z_b_R; (case h => first | exact zg_R6 (by assumption) | exact zg_R7 (by assumption) | exact zg_R8 (by assumption) | exact zg_R9 (by assumption) | with_unfolding_all rfl))
    | (with_reducible apply z_PU; (case he => repeat (with_reducible first | exact zv_l _ | exact zv_r | apply zv_add | apply zv_sub)); (case h => with_reducible first | exact zg_P1 (by assumption) _))
    | (with_reducible apply z_L; (case he => repeat (with_reducible first | exact zv_l _ | exact zv_r | apply zv_add | apply zv_sub)); (case hn => with_reducible first | assumption | exact zg_L6 (by assumption) | exact zg_L7 (by assumption) | exact zg_L8 (by assumption) | exact zg_L9 (by assumption) | exact zl_2 | exact zl_4 | exact zl_5 | exact zl_6 | exact zl_7 | exact zl_8 | exact zl_9 | exact zl_10 | exact zl_12 | exact zl_13 | exact zl_14 | exact zl_15 | exact zl_16 | exact zl_17 | exact zl_18 | exact zl_20 | exact zl_21 | exact zl_22 | exact zl_23 | exact zl_24 | exact zl_25 | exact zl_26); (case h => omega); (case hy => first | ((simp (disch := omega) only [zU_c, zU_e, zU_k, zF_c, zF_i, zF_o, zW_o, zW_i, zC_c, zC_i, zC_o]); rfl) | rfl))
    | (with_reducible apply z_S; (case he => repeat (with_reducible first | exact zv_l _ | exact zv_r | apply zv_add | apply zv_sub)); (case hg => repeat (with_reducible first | exact zv_l _ | exact zv_r | apply zv_add | apply zv_sub)); (case hn => with_reducible first | assumption | exact zg_L6 (by assumption) | exact zg_L7 (by assumption) | exact zg_L8 (by assumption) | exact zg_L9 (by assumption) | exact zl_2 | exact zl_4 | exact zl_5 | exact zl_6 | exact zl_7 | exact zl_8 | exact zl_9 | exact zl_10 | exact zl_12 | exact zl_13 | exact zl_14 | exact zl_15 | exact zl_16 | exact zl_17 | exact zl_18 | exact zl_20 | exact zl_21 | exact zl_22 | exact zl_23 | exact zl_24 | exact zl_25 | exact zl_26); (case h => omega)))
  (first
    | (with_reducible apply z_B; all_goals (intro _; try (exfalso; omega)))
    | (with_reducible apply z_E; all_goals intro _)
    | (with_reducible apply z_lt; (case ha => repeat (with_reducible first | exact zv_l _ | exact zv_r | apply zv_add | apply zv_sub)); (case hb => repeat (with_reducible first | exact zv_l _ | exact zv_r | apply zv_add | apply zv_sub)); (case hx => omega); (case hy => omega); all_goals (intro _; try (exfalso; omega)))
    | (with_reducible apply z_le; (case ha => repeat (with_reducible first | exact zv_l _ | exact zv_r | apply zv_add | apply zv_sub)); (case hb => repeat (with_reducible first | exact zv_l _ | exact zv_r | apply zv_add | apply zv_sub)); (case hx => omega); (case hy => omega); all_goals (intro _; try (exfalso; omega)))
    | (with_reducible apply z_eq; (case ha => repeat (with_reducible first | exact zv_l _ | exact zv_r | apply zv_add | apply zv_sub)); (case hb => repeat (with_reducible first | exact zv_l _ | exact zv_r | apply zv_add | apply zv_sub)); (case hx => omega); (case hy => omega); all_goals (intro _; try (exfalso; omega))))
  · repeat' (first
    | (with_reducible apply z_nm; (case he => repeat (with_reducible first | exact zv_l _ | exact zv_r | apply zv_add | apply zv_sub)))
    | (with_reducible apply z_I; (case h => first | exact zg_I1 (by assumption) | with_unfolding_all rfl); (case hy => first | ((simp (disch := omega) only [zU_c, zU_e, zU_k, zF_c, zF_i, zF_o, zW_o, zW_i, zC_c, zC_i, zC_o]); rfl) | rfl))
    | (with_reducible apply z_b_R; (case h => first | exact zg_R6 (by assumption) | exact zg_R7 (by assumption) | exact zg_R8 (by assumption) | exact zg_R9 (by assumption) | with_unfolding_all rfl))
    | (with_reducible apply z_PU; (case he => repeat (with_reducible first | exact zv_l _ | exact zv_r | apply zv_add | apply zv_sub)); (case h => with_reducible first | exact zg_P1 (by assumption) _))
    | (with_reducible apply z_L; (case he => repeat (with_reducible first | exact zv_l _ | exact zv_r | apply zv_add | apply zv_sub)); (case hn => with_reducible first | assumption | exact zg_L6 (by assumption) | exact zg_L7 (by assumption) | exact zg_L8 (by assumption) | exact zg_L9 (by assumption) | exact zl_2 | exact zl_4 | exact zl_5 | exact zl_6 | exact zl_7 | exact zl_8 | exact zl_9 | exact zl_10 | exact zl_12 | exact zl_13 | exact zl_14 | exact zl_15 | exact zl_16 | exact zl_17 | exact zl_18 | exact zl_20 | exact zl_21 | exact zl_22 | exact zl_23 | exact zl_24 | exact zl_25 | exact zl_26); (case h => omega); (case hy => first | ((simp (disch := omega) only [zU_c, zU_e, zU_k, zF_c, zF_i, zF_o, zW_o, zW_i, zC_c, zC_i, zC_o]); rfl) | rfl))
    | (with_reducible apply z_S; (case he => repeat (with_reducible first | exact zv_l _ | exact zv_r | apply zv_add | apply zv_sub)); (case hg => repeat (with_reducible first | exact zv_l _ | exact zv_r | apply zv_add | apply zv_sub)); (case hn => with_reducible first | assumption | exact zg_L6 (by assumption) | exact zg_L7 (by assumption) | exact zg_L8 (by assumption) | exact zg_L9 (by assumption) | exact zl_2 | exact zl_4 | exact zl_5 | exact zl_6 | exact zl_7 | exact zl_8 | exact zl_9 | exact zl_10 | exact zl_12 | exact zl_13 | exact zl_14 | exact zl_15 | exact zl_16 | exact zl_17 | exact zl_18 | exact zl_20 | exact zl_21 | exact zl_22 | exact zl_23 | exact zl_24 | exact zl_25 | exact zl_26); (case h => omega)))
    rw [zU_W (by omega)]
    refine z_ret ⟨_, rfl, ⟨?_, ?_, ?_⟩, fun c hc j => ?_, fun c hc j q0 q1 => ?_⟩
    · rw [zU_k (by omega)]
      exact hw0.1
    · rw [zU_e]
      omega
    · rw [zU_k (by omega)]
      exact hw0.2.2
    · rw [zU_c (by omega)]
      exact hw1 c hc j
    · rw [zU_c (by omega), hw2 c hc j]
      by_cases hj : j < g
      · rw [if_pos hj, if_neg (by omega)]
      · rw [if_neg hj, if_pos (by omega)]
  · repeat' (first
    | (with_reducible apply z_nm; (case he => repeat (with_reducible first | exact zv_l _ | exact zv_r | apply zv_add | apply zv_sub)))
    | (with_reducible apply z_I; (case h => first | exact zg_I1 (by assumption) | with_unfolding_all rfl); (case hy => first | ((simp (disch := omega) only [zU_c, zU_e, zU_k, zF_c, zF_i, zF_o, zW_o, zW_i, zC_c, zC_i, zC_o]); rfl) | rfl))
    | (with_reducible apply z_b_R; (case h => first | exact zg_R6 (by assumption) | exact zg_R7 (by assumption) | exact zg_R8 (by assumption) | exact zg_R9 (by assumption) | with_unfolding_all rfl))
    | (with_reducible apply z_PU; (case he => repeat (with_reducible first | exact zv_l _ | exact zv_r | apply zv_add | apply zv_sub)); (case h => with_reducible first | exact zg_P1 (by assumption) _))
    | (with_reducible apply z_L; (case he => repeat (with_reducible first | exact zv_l _ | exact zv_r | apply zv_add | apply zv_sub)); (case hn => with_reducible first | assumption | exact zg_L6 (by assumption) | exact zg_L7 (by assumption) | exact zg_L8 (by assumption) | exact zg_L9 (by assumption) | exact zl_2 | exact zl_4 | exact zl_5 | exact zl_6 | exact zl_7 | exact zl_8 | exact zl_9 | exact zl_10 | exact zl_12 | exact zl_13 | exact zl_14 | exact zl_15 | exact zl_16 | exact zl_17 | exact zl_18 | exact zl_20 | exact zl_21 | exact zl_22 | exact zl_23 | exact zl_24 | exact zl_25 | exact zl_26); (case h => omega); (case hy => first | ((simp (disch := omega) only [zU_c, zU_e, zU_k, zF_c, zF_i, zF_o, zW_o, zW_i, zC_c, zC_i, zC_o]); rfl) | rfl))
    | (with_reducible apply z_S; (case he => repeat (with_reducible first | exact zv_l _ | exact zv_r | apply zv_add | apply zv_sub)); (case hg => repeat (with_reducible first | exact zv_l _ | exact zv_r | apply zv_add | apply zv_sub)); (case hn => with_reducible first | assumption | exact zg_L6 (by assumption) | exact zg_L7 (by assumption) | exact zg_L8 (by assumption) | exact zg_L9 (by assumption) | exact zl_2 | exact zl_4 | exact zl_5 | exact zl_6 | exact zl_7 | exact zl_8 | exact zl_9 | exact zl_10 | exact zl_12 | exact zl_13 | exact zl_14 | exact zl_15 | exact zl_16 | exact zl_17 | exact zl_18 | exact zl_20 | exact zl_21 | exact zl_22 | exact zl_23 | exact zl_24 | exact zl_25 | exact zl_26); (case h => omega)))
    rw [zU_W (by omega), zU_W (by omega), zU_W (by omega), zU_W (by omega)]
    refine hk _ _ _ (by omega) ⟨i + 1, _, rfl, by omega, by omega, rfl, rfl, ⟨?_, ?_, ?_⟩, fun c hc j => ?_, fun c hc j => ?_⟩
    · simp (disch := omega) only [zU_c]
      exact hw0.1
    · simp (disch := omega) only [zU_c]
      exact hw0.2.1
    · simp (disch := omega) only [zU_c]
      exact hw0.2.2
    · rcases hc with rfl | rfl | rfl
      · simp (disch := omega) only [zU_c]
        exact hw1 1 (by omega) j
      · simp (disch := omega) only [zU_c]
        exact hw1 2 (by omega) j
      · simp (disch := omega) only [zU_c]
        exact hw1 3 (by omega) j
    · have e : ∀ c, c = 4 ∨ c = 5 ∨ c = 6 ∨ c = 7 → w (l + c) (i + 1) = m (l + c) (i + 1) := fun c hc => by rw [hw2 c hc, if_neg (by omega)]
      by_cases hj : j = i
      · subst hj
        rw [if_pos (by omega), ← e c hc]
        rcases hc with rfl | rfl | rfl | rfl <;> simp (disch := omega) only [zU_c, zU_e]
      · have h2 := hw2 c hc j
        have h3 : (if g ≤ j ∧ j < i + 1 then m (l + c) (j + 1) else m (l + c) j) = w (l + c) j := by
          rw [h2]
          by_cases hq : g ≤ j ∧ j < i
          · rw [if_pos hq, if_pos (by omega)]
          · rw [if_neg hq, if_neg (by omega)]
        rw [h3]
        rcases hc with rfl | rfl | rfl | rfl <;> simp (disch := omega) only [zU_c, zU_k]
set_option maxRecDepth 100000 in
set_option maxHeartbeats 1000000 in
theorem s_0drop {m : zMe} {l : Nat} {e : Int32} {g : Int} (a1 : zG l) (e1 : e = zI g) (r1 : 1 ≤ m l 1 ∧ m l 1 ≤ 9) (r2 : 0 ≤ g ∧ g < m l 1) : zOk (f_X0_drop l e (zM m)) (fun v m1 => ∃ w, m1 = zW m (l) (l + 7) w ∧ (fun (_ : Unit) w => zDr m l g w) v w) := by
  subst e1
  unfold f_X0_drop
  repeat' (first
    | with_reducible refine z_b (zg_ck (by assumption)) ?_
    | (with_reducible apply z_b_ck; (case h => with_unfolding_all rfl)))
  exact s0_drop_l a1 r1 r2
theorem z_0drop {m : zMe} {l : Nat} {e : Int32} {g : Int} (a1 : zG l) (e1 : e = zI g) (r1 : 1 ≤ m l 1 ∧ m l 1 ≤ 9) (r2 : 0 ≤ g ∧ g < m l 1) {α : Type} {kf : Unit × Hp → Option (α × Hp)} {Q : α → zMe → Prop} (K : ∀ (v : Unit) (w : zMe), (fun (_ : Unit) w => zDr m l g w) v w → zOk (kf (v, zM (zW m (l) (l + 7) w))) Q) : zOk ((f_X0_drop l e (zM m)).bind kf) Q := z_call (s_0drop a1 e1 r1 r2) (fun v m1 h => by obtain ⟨w, rfl, hw⟩ := h; exact K v w hw)
