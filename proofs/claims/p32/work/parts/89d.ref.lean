/-! the reference: draws, chances -/
def zDz7 (m : zMe) (seed : Int32) : Nat → Int32
  | 0 => seed
  | n + 1 => if zRs m (n : Int) = -1 then zDz7 m seed n * 1103515245 + 12345 else zDz7 m seed n
def zDq (m : zMe) (seed : Int32) (n : Nat) (t : Int) : Int := zQt (zLk m (zRs m)) t + zSm n (fun k => if zRs m (k : Int) = -1 then zG7 m k (zDres (m 51 2) (zDz7 m seed (k + 1))) t else 0)
theorem zDq_s {m : zMe} {i : Nat} {seed : Int32} (hl : zRs m (i : Int) = -1) (h4 : 0 ≤ m 51 (51 + (i : Int)) ∧ m 51 (51 + (i : Int)) < 6) (h5 : 0 ≤ m 51 (60 + (i : Int)) ∧ m 51 (60 + (i : Int)) < 6) : zAw (zF (zLk m (zRs m)) 54 0 6 (zDq m seed i)) 54 (fun t => zG7 (zF (zLk m (zRs m)) 54 0 6 (zDq m seed i)) (i : Int) (zDres (m 51 2) (zDz7 m seed (i + 1))) t * 1) = zF (zLk m (zRs m)) 54 0 6 (zDq m seed (i + 1)) := by
  funext c j
  by_cases hc : c = 54
  · subst hc
    rw [zAw_q]
    have e : zG7 (zF (zLk m (zRs m)) 54 0 6 (zDq m seed i)) (i : Int) (zDres (m 51 2) (zDz7 m seed (i + 1))) j = zG7 m i (zDres (m 51 2) (zDz7 m seed (i + 1))) j := by
      unfold zG7 zLk
      rw [zF_c (by omega), zF_c (by omega), zF_c (by omega), zF_c (by omega), zF_c (by omega), zF_c (by omega)]
    rw [e]
    by_cases hj : 0 ≤ j ∧ j < 0 + 6
    · rw [zF_i hj, zF_i hj]
      unfold zDq
      show _ = _ + (zSm i _ + _)
      dsimp only
      rw [if_pos hl, Int.sub_zero, Int.mul_one]
      omega
    · rw [zF_o hj, zF_o hj, zG7_out (by omega) (by omega)]
      omega
  · rw [zAw_c hc, zF_c hc, zF_c hc]
theorem zDq_l {m : zMe} {i : Nat} {seed : Int32} (hl : ¬ zRs m (i : Int) = -1) : zDq m seed (i + 1) = zDq m seed i := by
  funext t
  unfold zDq
  show _ + (zSm i _ + _) = _
  dsimp only
  rw [if_neg hl]
  omega
def zDm (m : zMe) (seed : Int32) : zMe := zF (zLk m (zRs m)) 54 0 6 (zDq m seed (m 51 1).toNat)
theorem zDm_X {m : zMe} {seed : Int32} : zX m (zDm m seed) := zX_F (zX_F (zX_r _) (Or.inl rfl)) (Or.inr (Or.inl rfl))
theorem zDm_Y {m : zMe} {seed : Int32} : zY m (zDm m seed) := zY_8 zDm_X (by unfold zDm zLk; rw [zF_c (by omega), zF_c (by omega)])
set_option maxRecDepth 100000 in
set_option maxHeartbeats 1000000 in
theorem s_7draws {m : zMe} {e : Int32} (a2 : zRw m) : f_X7_draws 50 e (zM m) = some ((), zM (zDm m e)) := by
  have hT := a2.1.1
  have hN := a2.1.2.1
  have hK := a2.1.2.2
  refine zOk.eq ?_
  unfold f_X7_draws
  (first
    | (with_reducible apply z_nm; (case he => repeat (with_reducible first | exact zv_l _ | exact zv_r | apply zv_add | apply zv_sub | apply zv_mul | apply zv_neg | apply zv_usr | apply zv_div)))
    | (with_reducible apply z_b_ck; (case h => with_unfolding_all rfl))
    | (with_reducible apply z_b_R; (case h => first | with_unfolding_all rfl))
    | (with_reducible apply z_L; (case he => repeat (with_reducible first | exact zv_l _ | exact zv_r | apply zv_add | apply zv_sub | apply zv_mul | apply zv_neg | apply zv_usr | apply zv_div)); (case hn => with_reducible first | assumption | exact zl_2 | exact zl_6 | exact zl_51 | exact zl_53 | exact zl_54); (case h => omega); (case hy => first | ((simp (disch := omega) only [zU_c, zU_e, zU_k, zF_c, zF_i, zF_o, zW_o, zW_i, zC_c, zC_i, zC_o]); rfl) | rfl))
    | (with_reducible apply z_7brings; (case e1 => repeat (with_reducible first | exact zv_l _ | exact zv_r | apply zv_add | apply zv_sub | apply zv_mul | apply zv_neg | apply zv_usr | apply zv_div)); (case e2 => repeat (with_reducible first | exact zv_l _ | exact zv_r | apply zv_add | apply zv_sub | apply zv_mul | apply zv_neg | apply zv_usr | apply zv_div)); (case e3 => repeat (with_reducible first | exact zv_l _ | exact zv_r | apply zv_add | apply zv_sub | apply zv_mul | apply zv_neg | apply zv_usr | apply zv_div)); (case r1 => first | omega | ((simp (disch := omega) only [zU_c, zU_e, zU_k, zF_c, zF_i, zF_o, zW_o, zW_i, zC_c, zC_i, zC_o]); omega)); (case r2 => first | omega | ((simp (disch := omega) only [zU_c, zU_e, zU_k, zF_c, zF_i, zF_o, zW_o, zW_i, zC_c, zC_i, zC_o]); omega)); (case r3 => first | omega | ((simp (disch := omega) only [zU_c, zU_e, zU_k, zF_c, zF_i, zF_o, zW_o, zW_i, zC_c, zC_i, zC_o]); omega)); (case r4 => first | omega | ((simp (disch := omega) only [zU_c, zU_e, zU_k, zF_c, zF_i, zF_o, zW_o, zW_i, zC_c, zC_i, zC_o]); omega)); (case r5 => first | omega | ((simp (disch := omega) only [zU_c, zU_e, zU_k, zF_c, zF_i, zF_o, zW_o, zW_i, zC_c, zC_i, zC_o]); omega)); (case r6 => first | omega | ((simp (disch := omega) only [zU_c, zU_e, zU_k, zF_c, zF_i, zF_o, zW_o, zW_i, zC_c, zC_i, zC_o]); omega)))
    | (with_reducible apply z_7looks; (case a2 => assumption)))
  refine z_7looks a2 ?_
  have h0 : zL7 m (zRs m) = zF (zLk m (zRs m)) 54 0 6 (zDq m e 0) := by
    unfold zL7
    congr 1
    funext t
    show _ = _ + (0 : Int)
    omega
  rw [h0]
  refine z_lp (fun n v m1 => ∃ i : Nat, v = (50, zDz7 m e i, zI (i : Int)) ∧ (i : Int) ≤ m 51 1 ∧ n = (m 51 1 - i).toNat ∧ m1 = zF (zLk m (zRs m)) 54 0 6 (zDq m e i)) (fun _ _ v m1 => v = () ∧ m1 = zDm m e) ?_ 600 (m 51 1).toNat _ _ (by omega) ⟨0, rfl, by omega, by omega, rfl⟩
  rintro n v m1 k ⟨i, rfl, h1, rfl, rfl⟩ hk
  have hg := a2.2.2 (i : Int) (by omega)
  have e51 : ∀ j, zF (zLk m (zRs m)) 54 0 6 (zDq m e i) 51 j = m 51 j := fun j => by
    unfold zLk
    rw [zF_c (by omega), zF_c (by omega)]
  have e53 : (i : Int) < m 51 1 → zF (zLk m (zRs m)) 54 0 6 (zDq m e i) 53 (i : Int) = zRs m (i : Int) := fun h => by
    unfold zLk
    rw [zF_c (by omega), zF_i (by omega), Int.sub_zero]
  unfold f_X7_draws_8
  dsimp only
  (first
    | (with_reducible apply z_nm; (case he => repeat (with_reducible first | exact zv_l _ | exact zv_r | apply zv_add | apply zv_sub | apply zv_mul | apply zv_neg | apply zv_usr | apply zv_div)))
    | (with_reducible apply z_b_ck; (case h => with_unfolding_all rfl))
    | (with_reducible apply z_b_R; (case h => first | with_unfolding_all rfl))
    | (with_reducible apply z_L; (case he => repeat (with_reducible first | exact zv_l _ | exact zv_r | apply zv_add | apply zv_sub | apply zv_mul | apply zv_neg | apply zv_usr | apply zv_div)); (case hn => with_reducible first | assumption | exact zl_2 | exact zl_6 | exact zl_51 | exact zl_53 | exact zl_54); (case h => omega); (case hy => first | ((simp (disch := omega) only [zU_c, zU_e, zU_k, zF_c, zF_i, zF_o, zW_o, zW_i, zC_c, zC_i, zC_o]); rfl) | rfl))
    | (with_reducible apply z_7brings; (case e1 => repeat (with_reducible first | exact zv_l _ | exact zv_r | apply zv_add | apply zv_sub | apply zv_mul | apply zv_neg | apply zv_usr | apply zv_div)); (case e2 => repeat (with_reducible first | exact zv_l _ | exact zv_r | apply zv_add | apply zv_sub | apply zv_mul | apply zv_neg | apply zv_usr | apply zv_div)); (case e3 => repeat (with_reducible first | exact zv_l _ | exact zv_r | apply zv_add | apply zv_sub | apply zv_mul | apply zv_neg | apply zv_usr | apply zv_div)); (case r1 => first | omega | ((simp (disch := omega) only [zU_c, zU_e, zU_k, zF_c, zF_i, zF_o, zW_o, zW_i, zC_c, zC_i, zC_o]); omega)); (case r2 => first | omega | ((simp (disch := omega) only [zU_c, zU_e, zU_k, zF_c, zF_i, zF_o, zW_o, zW_i, zC_c, zC_i, zC_o]); omega)); (case r3 => first | omega | ((simp (disch := omega) only [zU_c, zU_e, zU_k, zF_c, zF_i, zF_o, zW_o, zW_i, zC_c, zC_i, zC_o]); omega)); (case r4 => first | omega | ((simp (disch := omega) only [zU_c, zU_e, zU_k, zF_c, zF_i, zF_o, zW_o, zW_i, zC_c, zC_i, zC_o]); omega)); (case r5 => first | omega | ((simp (disch := omega) only [zU_c, zU_e, zU_k, zF_c, zF_i, zF_o, zW_o, zW_i, zC_c, zC_i, zC_o]); omega)); (case r6 => first | omega | ((simp (disch := omega) only [zU_c, zU_e, zU_k, zF_c, zF_i, zF_o, zW_o, zW_i, zC_c, zC_i, zC_o]); omega)))
    | (with_reducible apply z_7looks; (case a2 => assumption)))
  refine z_L (y := m 51 1) (x := 1) (zv_l 1) zl_51 (by omega) (e51 1) ?_
  (first
    | (with_reducible apply z_B; all_goals (intro _; try (exfalso; omega)))
    | (with_reducible apply z_E; all_goals intro _)
    | (with_reducible apply z_lt; (case ha => repeat (with_reducible first | exact zv_l _ | exact zv_r | apply zv_add | apply zv_sub | apply zv_mul | apply zv_neg | apply zv_usr | apply zv_div)); (case hb => repeat (with_reducible first | exact zv_l _ | exact zv_r | apply zv_add | apply zv_sub | apply zv_mul | apply zv_neg | apply zv_usr | apply zv_div)); (case hx => omega); (case hy => omega); all_goals (intro _; try (exfalso; omega)))
    | (with_reducible apply z_le; (case ha => repeat (with_reducible first | exact zv_l _ | exact zv_r | apply zv_add | apply zv_sub | apply zv_mul | apply zv_neg | apply zv_usr | apply zv_div)); (case hb => repeat (with_reducible first | exact zv_l _ | exact zv_r | apply zv_add | apply zv_sub | apply zv_mul | apply zv_neg | apply zv_usr | apply zv_div)); (case hx => omega); (case hy => omega); all_goals (intro _; try (exfalso; omega)))
    | (with_reducible apply z_eq; (case ha => repeat (with_reducible first | exact zv_l _ | exact zv_r | apply zv_add | apply zv_sub | apply zv_mul | apply zv_neg | apply zv_usr | apply zv_div)); (case hb => repeat (with_reducible first | exact zv_l _ | exact zv_r | apply zv_add | apply zv_sub | apply zv_mul | apply zv_neg | apply zv_usr | apply zv_div)); (case hx => omega); (case hy => omega); all_goals (intro _; try (exfalso; omega))))
  · refine z_ret ⟨rfl, ?_⟩
    have : (m 51 1).toNat = i := by omega
    unfold zDm
    rw [this]
  · obtain ⟨g1, g2, g3, g4, g5⟩ := hg (by omega)
    have hrs : -1 ≤ zRs m (i : Int) ∧ zRs m (i : Int) ≤ 2 := g1
    (first
    | (with_reducible apply z_nm; (case he => repeat (with_reducible first | exact zv_l _ | exact zv_r | apply zv_add | apply zv_sub | apply zv_mul | apply zv_neg | apply zv_usr | apply zv_div)))
    | (with_reducible apply z_b_ck; (case h => with_unfolding_all rfl))
    | (with_reducible apply z_b_R; (case h => first | with_unfolding_all rfl))
    | (with_reducible apply z_L; (case he => repeat (with_reducible first | exact zv_l _ | exact zv_r | apply zv_add | apply zv_sub | apply zv_mul | apply zv_neg | apply zv_usr | apply zv_div)); (case hn => with_reducible first | assumption | exact zl_2 | exact zl_6 | exact zl_51 | exact zl_53 | exact zl_54); (case h => omega); (case hy => first | ((simp (disch := omega) only [zU_c, zU_e, zU_k, zF_c, zF_i, zF_o, zW_o, zW_i, zC_c, zC_i, zC_o]); rfl) | rfl))
    | (with_reducible apply z_7brings; (case e1 => repeat (with_reducible first | exact zv_l _ | exact zv_r | apply zv_add | apply zv_sub | apply zv_mul | apply zv_neg | apply zv_usr | apply zv_div)); (case e2 => repeat (with_reducible first | exact zv_l _ | exact zv_r | apply zv_add | apply zv_sub | apply zv_mul | apply zv_neg | apply zv_usr | apply zv_div)); (case e3 => repeat (with_reducible first | exact zv_l _ | exact zv_r | apply zv_add | apply zv_sub | apply zv_mul | apply zv_neg | apply zv_usr | apply zv_div)); (case r1 => first | omega | ((simp (disch := omega) only [zU_c, zU_e, zU_k, zF_c, zF_i, zF_o, zW_o, zW_i, zC_c, zC_i, zC_o]); omega)); (case r2 => first | omega | ((simp (disch := omega) only [zU_c, zU_e, zU_k, zF_c, zF_i, zF_o, zW_o, zW_i, zC_c, zC_i, zC_o]); omega)); (case r3 => first | omega | ((simp (disch := omega) only [zU_c, zU_e, zU_k, zF_c, zF_i, zF_o, zW_o, zW_i, zC_c, zC_i, zC_o]); omega)); (case r4 => first | omega | ((simp (disch := omega) only [zU_c, zU_e, zU_k, zF_c, zF_i, zF_o, zW_o, zW_i, zC_c, zC_i, zC_o]); omega)); (case r5 => first | omega | ((simp (disch := omega) only [zU_c, zU_e, zU_k, zF_c, zF_i, zF_o, zW_o, zW_i, zC_c, zC_i, zC_o]); omega)); (case r6 => first | omega | ((simp (disch := omega) only [zU_c, zU_e, zU_k, zF_c, zF_i, zF_o, zW_o, zW_i, zC_c, zC_i, zC_o]); omega)))
    | (with_reducible apply z_7looks; (case a2 => assumption)))
    refine z_L (y := zRs m (i : Int)) rfl zl_53 (by omega) (e53 (by omega)) ?_
    (first
    | (with_reducible apply z_B; all_goals (intro _; try (exfalso; omega)))
    | (with_reducible apply z_E; all_goals intro _)
    | (with_reducible apply z_lt; (case ha => repeat (with_reducible first | exact zv_l _ | exact zv_r | apply zv_add | apply zv_sub | apply zv_mul | apply zv_neg | apply zv_usr | apply zv_div)); (case hb => repeat (with_reducible first | exact zv_l _ | exact zv_r | apply zv_add | apply zv_sub | apply zv_mul | apply zv_neg | apply zv_usr | apply zv_div)); (case hx => omega); (case hy => omega); all_goals (intro _; try (exfalso; omega)))
    | (with_reducible apply z_le; (case ha => repeat (with_reducible first | exact zv_l _ | exact zv_r | apply zv_add | apply zv_sub | apply zv_mul | apply zv_neg | apply zv_usr | apply zv_div)); (case hb => repeat (with_reducible first | exact zv_l _ | exact zv_r | apply zv_add | apply zv_sub | apply zv_mul | apply zv_neg | apply zv_usr | apply zv_div)); (case hx => omega); (case hy => omega); all_goals (intro _; try (exfalso; omega)))
    | (with_reducible apply z_eq; (case ha => repeat (with_reducible first | exact zv_l _ | exact zv_r | apply zv_add | apply zv_sub | apply zv_mul | apply zv_neg | apply zv_usr | apply zv_div)); (case hb => repeat (with_reducible first | exact zv_l _ | exact zv_r | apply zv_add | apply zv_sub | apply zv_mul | apply zv_neg | apply zv_usr | apply zv_div)); (case hx => omega); (case hy => omega); all_goals (intro _; try (exfalso; omega))))
    · rename_i hq
      have hz : zDz7 m e (i + 1) = zDz7 m e i * 1103515245 + 12345 := if_pos hq
      refine z_b (x := zDz7 m e (i + 1)) (by rw [hz]) ?_
      (first
    | (with_reducible apply z_nm; (case he => repeat (with_reducible first | exact zv_l _ | exact zv_r | apply zv_add | apply zv_sub | apply zv_mul | apply zv_neg | apply zv_usr | apply zv_div)))
    | (with_reducible apply z_b_ck; (case h => with_unfolding_all rfl))
    | (with_reducible apply z_b_R; (case h => first | with_unfolding_all rfl))
    | (with_reducible apply z_L; (case he => repeat (with_reducible first | exact zv_l _ | exact zv_r | apply zv_add | apply zv_sub | apply zv_mul | apply zv_neg | apply zv_usr | apply zv_div)); (case hn => with_reducible first | assumption | exact zl_2 | exact zl_6 | exact zl_51 | exact zl_53 | exact zl_54); (case h => omega); (case hy => first | ((simp (disch := omega) only [zU_c, zU_e, zU_k, zF_c, zF_i, zF_o, zW_o, zW_i, zC_c, zC_i, zC_o]); rfl) | rfl))
    | (with_reducible apply z_7brings; (case e1 => repeat (with_reducible first | exact zv_l _ | exact zv_r | apply zv_add | apply zv_sub | apply zv_mul | apply zv_neg | apply zv_usr | apply zv_div)); (case e2 => repeat (with_reducible first | exact zv_l _ | exact zv_r | apply zv_add | apply zv_sub | apply zv_mul | apply zv_neg | apply zv_usr | apply zv_div)); (case e3 => repeat (with_reducible first | exact zv_l _ | exact zv_r | apply zv_add | apply zv_sub | apply zv_mul | apply zv_neg | apply zv_usr | apply zv_div)); (case r1 => first | omega | ((simp (disch := omega) only [zU_c, zU_e, zU_k, zF_c, zF_i, zF_o, zW_o, zW_i, zC_c, zC_i, zC_o]); omega)); (case r2 => first | omega | ((simp (disch := omega) only [zU_c, zU_e, zU_k, zF_c, zF_i, zF_o, zW_o, zW_i, zC_c, zC_i, zC_o]); omega)); (case r3 => first | omega | ((simp (disch := omega) only [zU_c, zU_e, zU_k, zF_c, zF_i, zF_o, zW_o, zW_i, zC_c, zC_i, zC_o]); omega)); (case r4 => first | omega | ((simp (disch := omega) only [zU_c, zU_e, zU_k, zF_c, zF_i, zF_o, zW_o, zW_i, zC_c, zC_i, zC_o]); omega)); (case r5 => first | omega | ((simp (disch := omega) only [zU_c, zU_e, zU_k, zF_c, zF_i, zF_o, zW_o, zW_i, zC_c, zC_i, zC_o]); omega)); (case r6 => first | omega | ((simp (disch := omega) only [zU_c, zU_e, zU_k, zF_c, zF_i, zF_o, zW_o, zW_i, zC_c, zC_i, zC_o]); omega)))
    | (with_reducible apply z_7looks; (case a2 => assumption)))
      refine z_L (y := m 51 2) (x := 2) (zv_l 2) zl_51 (by omega) (e51 2) ?_
      have hdr := zDres_r (m 51 2) (zDz7 m e (i + 1))
      have hun := ushr_nn (zDz7 m e (i + 1))
      have hmain : ∀ x : Int32, x = zI (zDres (m 51 2) (zDz7 m e (i + 1))) → zOk (f_X7_draws_65 k 50 (zDz7 m e (i + 1)) (zI (i : Int)) x (zI (i : Int)) 50 (zM (zF (zLk m (zRs m)) 54 0 6 (zDq m e i)))) (fun v m1 => v = () ∧ m1 = zDm m e) := fun x hx => by
        subst hx
        unfold f_X7_draws_65
        refine z_7brings (k := (i : Int)) (x := 1) rfl rfl (zv_l 1) (by omega) hdr.1 (by rw [e51]; omega) (by rw [e51]; omega) (by rw [e51, e51]; exact g4) (by rw [e51]; exact hK) ?_
        rw [zDq_s hq (by omega) (by omega)]
        repeat' (first
    | (with_reducible apply z_nm; (case he => repeat (with_reducible first | exact zv_l _ | exact zv_r | apply zv_add | apply zv_sub | apply zv_mul | apply zv_neg | apply zv_usr | apply zv_div)))
    | (with_reducible apply z_b_ck; (case h => with_unfolding_all rfl))
    | (with_reducible apply z_b_R; (case h => first | with_unfolding_all rfl))
    | (with_reducible apply z_L; (case he => repeat (with_reducible first | exact zv_l _ | exact zv_r | apply zv_add | apply zv_sub | apply zv_mul | apply zv_neg | apply zv_usr | apply zv_div)); (case hn => with_reducible first | assumption | exact zl_2 | exact zl_6 | exact zl_51 | exact zl_53 | exact zl_54); (case h => omega); (case hy => first | ((simp (disch := omega) only [zU_c, zU_e, zU_k, zF_c, zF_i, zF_o, zW_o, zW_i, zC_c, zC_i, zC_o]); rfl) | rfl))
    | (with_reducible apply z_7brings; (case e1 => repeat (with_reducible first | exact zv_l _ | exact zv_r | apply zv_add | apply zv_sub | apply zv_mul | apply zv_neg | apply zv_usr | apply zv_div)); (case e2 => repeat (with_reducible first | exact zv_l _ | exact zv_r | apply zv_add | apply zv_sub | apply zv_mul | apply zv_neg | apply zv_usr | apply zv_div)); (case e3 => repeat (with_reducible first | exact zv_l _ | exact zv_r | apply zv_add | apply zv_sub | apply zv_mul | apply zv_neg | apply zv_usr | apply zv_div)); (case r1 => first | omega | ((simp (disch := omega) only [zU_c, zU_e, zU_k, zF_c, zF_i, zF_o, zW_o, zW_i, zC_c, zC_i, zC_o]); omega)); (case r2 => first | omega | ((simp (disch := omega) only [zU_c, zU_e, zU_k, zF_c, zF_i, zF_o, zW_o, zW_i, zC_c, zC_i, zC_o]); omega)); (case r3 => first | omega | ((simp (disch := omega) only [zU_c, zU_e, zU_k, zF_c, zF_i, zF_o, zW_o, zW_i, zC_c, zC_i, zC_o]); omega)); (case r4 => first | omega | ((simp (disch := omega) only [zU_c, zU_e, zU_k, zF_c, zF_i, zF_o, zW_o, zW_i, zC_c, zC_i, zC_o]); omega)); (case r5 => first | omega | ((simp (disch := omega) only [zU_c, zU_e, zU_k, zF_c, zF_i, zF_o, zW_o, zW_i, zC_c, zC_i, zC_o]); omega)); (case r6 => first | omega | ((simp (disch := omega) only [zU_c, zU_e, zU_k, zF_c, zF_i, zF_o, zW_o, zW_i, zC_c, zC_i, zC_o]); omega)))
    | (with_reducible apply z_7looks; (case a2 => assumption)))
        exact hk _ _ _ (by omega) ⟨i + 1, rfl, by omega, rfl, rfl⟩
      refine z_eq (x := m 51 2) (y := 0) rfl rfl (by omega) (by omega) (fun hK0 => ?_) (fun hK0 => ?_)
      · refine hmain _ ?_
        unfold zDres
        rw [if_pos hK0]
        exact zv_add (zv_l 1) (zmod_pos (zI_self _) (zv_l 2) (zv_l 2) (by omega) (by omega))
      · refine hmain _ ?_
        unfold zDres
        rw [if_neg hK0]
        exact zmod_pos (zI_self _) (zv_l 3) (zv_l 3) (by omega) (by omega)
    · rename_i hq
      have hz : zDz7 m e (i + 1) = zDz7 m e i := if_neg hq
      repeat' (first
    | (with_reducible apply z_nm; (case he => repeat (with_reducible first | exact zv_l _ | exact zv_r | apply zv_add | apply zv_sub | apply zv_mul | apply zv_neg | apply zv_usr | apply zv_div)))
    | (with_reducible apply z_b_ck; (case h => with_unfolding_all rfl))
    | (with_reducible apply z_b_R; (case h => first | with_unfolding_all rfl))
    | (with_reducible apply z_L; (case he => repeat (with_reducible first | exact zv_l _ | exact zv_r | apply zv_add | apply zv_sub | apply zv_mul | apply zv_neg | apply zv_usr | apply zv_div)); (case hn => with_reducible first | assumption | exact zl_2 | exact zl_6 | exact zl_51 | exact zl_53 | exact zl_54); (case h => omega); (case hy => first | ((simp (disch := omega) only [zU_c, zU_e, zU_k, zF_c, zF_i, zF_o, zW_o, zW_i, zC_c, zC_i, zC_o]); rfl) | rfl))
    | (with_reducible apply z_7brings; (case e1 => repeat (with_reducible first | exact zv_l _ | exact zv_r | apply zv_add | apply zv_sub | apply zv_mul | apply zv_neg | apply zv_usr | apply zv_div)); (case e2 => repeat (with_reducible first | exact zv_l _ | exact zv_r | apply zv_add | apply zv_sub | apply zv_mul | apply zv_neg | apply zv_usr | apply zv_div)); (case e3 => repeat (with_reducible first | exact zv_l _ | exact zv_r | apply zv_add | apply zv_sub | apply zv_mul | apply zv_neg | apply zv_usr | apply zv_div)); (case r1 => first | omega | ((simp (disch := omega) only [zU_c, zU_e, zU_k, zF_c, zF_i, zF_o, zW_o, zW_i, zC_c, zC_i, zC_o]); omega)); (case r2 => first | omega | ((simp (disch := omega) only [zU_c, zU_e, zU_k, zF_c, zF_i, zF_o, zW_o, zW_i, zC_c, zC_i, zC_o]); omega)); (case r3 => first | omega | ((simp (disch := omega) only [zU_c, zU_e, zU_k, zF_c, zF_i, zF_o, zW_o, zW_i, zC_c, zC_i, zC_o]); omega)); (case r4 => first | omega | ((simp (disch := omega) only [zU_c, zU_e, zU_k, zF_c, zF_i, zF_o, zW_o, zW_i, zC_c, zC_i, zC_o]); omega)); (case r5 => first | omega | ((simp (disch := omega) only [zU_c, zU_e, zU_k, zF_c, zF_i, zF_o, zW_o, zW_i, zC_c, zC_i, zC_o]); omega)); (case r6 => first | omega | ((simp (disch := omega) only [zU_c, zU_e, zU_k, zF_c, zF_i, zF_o, zW_o, zW_i, zC_c, zC_i, zC_o]); omega)))
    | (with_reducible apply z_7looks; (case a2 => assumption)))
      refine hk _ _ _ (by omega) ⟨i + 1, ?_, by omega, rfl, by rw [zDq_l hq]⟩
      rw [hz]
      rfl
theorem z_7draws {m : zMe} {e : Int32} (a2 : zRw m) {α : Type} {kf : Unit × Hp → Option (α × Hp)} {Q : α → zMe → Prop} (K : zOk (kf ((), zM (zDm m e))) Q) : zOk ((f_X7_draws 50 e (zM m)).bind kf) Q := z_b (s_7draws a2) K
set_option maxRecDepth 100000 in
set_option maxHeartbeats 1000000 in
theorem s_7firstOnes {m : zMe} (r1 : 0 ≤ m 51 0 ∧ m 51 0 ≤ 6) (a1 : ∀ u : Nat, (u : Int) < m 51 0 → -2147483648 ≤ m 54 (u : Int) ∧ m 54 (u : Int) < 2147483648) : f_X7_firstOnes 50 (zM m) = some (zI (zTop (m 54) (m 51 0).toNat : Nat), zM (m)) := by
  refine zOk.eq ?_
  unfold f_X7_firstOnes
  (first
    | (with_reducible apply z_nm; (case he => repeat (with_reducible first | exact zv_l _ | exact zv_r | apply zv_add | apply zv_sub | apply zv_neg | apply zv_or | apply zv_shl | apply zv_and)))
    | (with_reducible apply z_b_ck; (case h => with_unfolding_all rfl))
    | (with_reducible apply z_b_R; (case h => first | with_unfolding_all rfl))
    | (with_reducible apply z_L; (case he => repeat (with_reducible first | exact zv_l _ | exact zv_r | apply zv_add | apply zv_sub | apply zv_neg | apply zv_or | apply zv_shl | apply zv_and)); (case hn => with_reducible first | assumption | exact zl_2 | exact zl_6 | exact zl_9 | exact zl_51 | exact zl_54); (case h => omega); (case hy => first | ((simp (disch := omega) only [zU_c, zU_e, zU_k, zF_c, zF_i, zF_o, zW_o, zW_i, zC_c, zC_i, zC_o]); rfl) | rfl)))
  refine z_lp (fun n v m1 => ∃ i : Nat, v = (50, zI (zBn i (fun u => zDc (∀ v : Nat, v < (m 51 0).toNat → m 54 (v : Int) ≤ m 54 (u : Int))) : Nat), zI (i : Int)) ∧ (i : Int) ≤ m 51 0 ∧ n = (m 51 0 - i).toNat ∧ m1 = m) (fun _ _ v m1 => v = zI (zTop (m 54) (m 51 0).toNat : Nat) ∧ m1 = m) ?_ 600 (m 51 0).toNat _ _ (by omega) ⟨0, rfl, by omega, by omega, rfl⟩
  rintro n v m1 k ⟨i, rfl, h1, rfl, rfl⟩ hk
  have hlt := zBn_lt i (fun u => zDc (∀ v : Nat, v < (m1 51 0).toNat → m1 54 (v : Int) ≤ m1 54 (u : Int)))
  have h512 : zBn i (fun u => zDc (∀ v : Nat, v < (m1 51 0).toNat → m1 54 (v : Int) ≤ m1 54 (u : Int))) < 512 := by
    have : 2 ^ i ≤ 2 ^ 9 := Nat.pow_le_pow_right (by omega) (by omega)
    omega
  unfold f_X7_firstOnes_4
  dsimp only
  (first
    | (with_reducible apply z_nm; (case he => repeat (with_reducible first | exact zv_l _ | exact zv_r | apply zv_add | apply zv_sub | apply zv_neg | apply zv_or | apply zv_shl | apply zv_and)))
    | (with_reducible apply z_b_ck; (case h => with_unfolding_all rfl))
    | (with_reducible apply z_b_R; (case h => first | with_unfolding_all rfl))
    | (with_reducible apply z_L; (case he => repeat (with_reducible first | exact zv_l _ | exact zv_r | apply zv_add | apply zv_sub | apply zv_neg | apply zv_or | apply zv_shl | apply zv_and)); (case hn => with_reducible first | assumption | exact zl_2 | exact zl_6 | exact zl_9 | exact zl_51 | exact zl_54); (case h => omega); (case hy => first | ((simp (disch := omega) only [zU_c, zU_e, zU_k, zF_c, zF_i, zF_o, zW_o, zW_i, zC_c, zC_i, zC_o]); rfl) | rfl)))
  (first
    | (with_reducible apply z_nm; (case he => repeat (with_reducible first | exact zv_l _ | exact zv_r | apply zv_add | apply zv_sub | apply zv_neg | apply zv_or | apply zv_shl | apply zv_and)))
    | (with_reducible apply z_b_ck; (case h => with_unfolding_all rfl))
    | (with_reducible apply z_b_R; (case h => first | with_unfolding_all rfl))
    | (with_reducible apply z_L; (case he => repeat (with_reducible first | exact zv_l _ | exact zv_r | apply zv_add | apply zv_sub | apply zv_neg | apply zv_or | apply zv_shl | apply zv_and)); (case hn => with_reducible first | assumption | exact zl_2 | exact zl_6 | exact zl_9 | exact zl_51 | exact zl_54); (case h => omega); (case hy => first | ((simp (disch := omega) only [zU_c, zU_e, zU_k, zF_c, zF_i, zF_o, zW_o, zW_i, zC_c, zC_i, zC_o]); rfl) | rfl)))
  (first
    | (with_reducible apply z_B; all_goals (intro _; try (exfalso; omega)))
    | (with_reducible apply z_E; all_goals intro _)
    | (with_reducible apply z_lt; (case ha => repeat (with_reducible first | exact zv_l _ | exact zv_r | apply zv_add | apply zv_sub | apply zv_neg | apply zv_or | apply zv_shl | apply zv_and)); (case hb => repeat (with_reducible first | exact zv_l _ | exact zv_r | apply zv_add | apply zv_sub | apply zv_neg | apply zv_or | apply zv_shl | apply zv_and)); (case hx => omega); (case hy => omega); all_goals (intro _; try (exfalso; omega)))
    | (with_reducible apply z_le; (case ha => repeat (with_reducible first | exact zv_l _ | exact zv_r | apply zv_add | apply zv_sub | apply zv_neg | apply zv_or | apply zv_shl | apply zv_and)); (case hb => repeat (with_reducible first | exact zv_l _ | exact zv_r | apply zv_add | apply zv_sub | apply zv_neg | apply zv_or | apply zv_shl | apply zv_and)); (case hx => omega); (case hy => omega); all_goals (intro _; try (exfalso; omega)))
    | (with_reducible apply z_eq; (case ha => repeat (with_reducible first | exact zv_l _ | exact zv_r | apply zv_add | apply zv_sub | apply zv_neg | apply zv_or | apply zv_shl | apply zv_and)); (case hb => repeat (with_reducible first | exact zv_l _ | exact zv_r | apply zv_add | apply zv_sub | apply zv_neg | apply zv_or | apply zv_shl | apply zv_and)); (case hx => omega); (case hy => omega); all_goals (intro _; try (exfalso; omega))))
  · (first | (with_reducible apply z_reti; (case he => repeat (with_reducible first | exact zv_l _ | exact zv_r | apply zv_add | apply zv_sub | apply zv_neg | apply zv_or | apply zv_shl | apply zv_and))) | with_reducible refine z_ret ?_)
    have : (m1 51 0).toNat = i := by omega
    unfold zTop
    rw [this]
    exact ⟨rfl, rfl⟩
  · have hi := a1 i (by omega)
    refine z_lp (fun n v m2 => ∃ j : Nat, v = (50, zI (zBn i (fun u => zDc (∀ v : Nat, v < (m1 51 0).toNat → m1 54 (v : Int) ≤ m1 54 (u : Int))) : Nat), zI (i : Int), zI (zE (∀ v : Nat, v < j → m1 54 (v : Int) ≤ m1 54 (i : Int))), zI (j : Int)) ∧ (j : Int) ≤ m1 51 0 ∧ n = (m1 51 0 - j).toNat ∧ m2 = m1) (fun _ _ v m2 => v = zI (zTop (m1 54) (m1 51 0).toNat : Nat) ∧ m2 = m1) ?_ 600 (m1 51 0).toNat _ _ (by omega) ⟨0, by rw [zE_p (fun v hv => absurd hv (by omega))]; rfl, by omega, by omega, rfl⟩
    rintro n v m2 k2 ⟨j, rfl, j1, rfl, rfl⟩ hk2
    unfold f_X7_firstOnes_19
    dsimp only
    (first
    | (with_reducible apply z_nm; (case he => repeat (with_reducible first | exact zv_l _ | exact zv_r | apply zv_add | apply zv_sub | apply zv_neg | apply zv_or | apply zv_shl | apply zv_and)))
    | (with_reducible apply z_b_ck; (case h => with_unfolding_all rfl))
    | (with_reducible apply z_b_R; (case h => first | with_unfolding_all rfl))
    | (with_reducible apply z_L; (case he => repeat (with_reducible first | exact zv_l _ | exact zv_r | apply zv_add | apply zv_sub | apply zv_neg | apply zv_or | apply zv_shl | apply zv_and)); (case hn => with_reducible first | assumption | exact zl_2 | exact zl_6 | exact zl_9 | exact zl_51 | exact zl_54); (case h => omega); (case hy => first | ((simp (disch := omega) only [zU_c, zU_e, zU_k, zF_c, zF_i, zF_o, zW_o, zW_i, zC_c, zC_i, zC_o]); rfl) | rfl)))
    (first
    | (with_reducible apply z_nm; (case he => repeat (with_reducible first | exact zv_l _ | exact zv_r | apply zv_add | apply zv_sub | apply zv_neg | apply zv_or | apply zv_shl | apply zv_and)))
    | (with_reducible apply z_b_ck; (case h => with_unfolding_all rfl))
    | (with_reducible apply z_b_R; (case h => first | with_unfolding_all rfl))
    | (with_reducible apply z_L; (case he => repeat (with_reducible first | exact zv_l _ | exact zv_r | apply zv_add | apply zv_sub | apply zv_neg | apply zv_or | apply zv_shl | apply zv_and)); (case hn => with_reducible first | assumption | exact zl_2 | exact zl_6 | exact zl_9 | exact zl_51 | exact zl_54); (case h => omega); (case hy => first | ((simp (disch := omega) only [zU_c, zU_e, zU_k, zF_c, zF_i, zF_o, zW_o, zW_i, zC_c, zC_i, zC_o]); rfl) | rfl)))
    (first
    | (with_reducible apply z_B; all_goals (intro _; try (exfalso; omega)))
    | (with_reducible apply z_E; all_goals intro _)
    | (with_reducible apply z_lt; (case ha => repeat (with_reducible first | exact zv_l _ | exact zv_r | apply zv_add | apply zv_sub | apply zv_neg | apply zv_or | apply zv_shl | apply zv_and)); (case hb => repeat (with_reducible first | exact zv_l _ | exact zv_r | apply zv_add | apply zv_sub | apply zv_neg | apply zv_or | apply zv_shl | apply zv_and)); (case hx => omega); (case hy => omega); all_goals (intro _; try (exfalso; omega)))
    | (with_reducible apply z_le; (case ha => repeat (with_reducible first | exact zv_l _ | exact zv_r | apply zv_add | apply zv_sub | apply zv_neg | apply zv_or | apply zv_shl | apply zv_and)); (case hb => repeat (with_reducible first | exact zv_l _ | exact zv_r | apply zv_add | apply zv_sub | apply zv_neg | apply zv_or | apply zv_shl | apply zv_and)); (case hx => omega); (case hy => omega); all_goals (intro _; try (exfalso; omega)))
    | (with_reducible apply z_eq; (case ha => repeat (with_reducible first | exact zv_l _ | exact zv_r | apply zv_add | apply zv_sub | apply zv_neg | apply zv_or | apply zv_shl | apply zv_and)); (case hb => repeat (with_reducible first | exact zv_l _ | exact zv_r | apply zv_add | apply zv_sub | apply zv_neg | apply zv_or | apply zv_shl | apply zv_and)); (case hx => omega); (case hy => omega); all_goals (intro _; try (exfalso; omega))))
    · have : j = (m2 51 0).toNat := by omega
      subst this
      refine z_E (fun hq => ?_) (fun hq => ?_)
      · repeat' (first
    | (with_reducible apply z_nm; (case he => repeat (with_reducible first | exact zv_l _ | exact zv_r | apply zv_add | apply zv_sub | apply zv_neg | apply zv_or | apply zv_shl | apply zv_and)))
    | (with_reducible apply z_b_ck; (case h => with_unfolding_all rfl))
    | (with_reducible apply z_b_R; (case h => first | with_unfolding_all rfl))
    | (with_reducible apply z_L; (case he => repeat (with_reducible first | exact zv_l _ | exact zv_r | apply zv_add | apply zv_sub | apply zv_neg | apply zv_or | apply zv_shl | apply zv_and)); (case hn => with_reducible first | assumption | exact zl_2 | exact zl_6 | exact zl_9 | exact zl_51 | exact zl_54); (case h => omega); (case hy => first | ((simp (disch := omega) only [zU_c, zU_e, zU_k, zF_c, zF_i, zF_o, zW_o, zW_i, zC_c, zC_i, zC_o]); rfl) | rfl)))
        refine hk _ _ _ (by omega) ⟨i + 1, ?_, by omega, rfl, rfl⟩
        rw [zOr_0 h512, zBn_f (zDc_f hq)]
        rfl
      · repeat' (first
    | (with_reducible apply z_nm; (case he => repeat (with_reducible first | exact zv_l _ | exact zv_r | apply zv_add | apply zv_sub | apply zv_neg | apply zv_or | apply zv_shl | apply zv_and)))
    | (with_reducible apply z_b_ck; (case h => with_unfolding_all rfl))
    | (with_reducible apply z_b_R; (case h => first | with_unfolding_all rfl))
    | (with_reducible apply z_L; (case he => repeat (with_reducible first | exact zv_l _ | exact zv_r | apply zv_add | apply zv_sub | apply zv_neg | apply zv_or | apply zv_shl | apply zv_and)); (case hn => with_reducible first | assumption | exact zl_2 | exact zl_6 | exact zl_9 | exact zl_51 | exact zl_54); (case h => omega); (case hy => first | ((simp (disch := omega) only [zU_c, zU_e, zU_k, zF_c, zF_i, zF_o, zW_o, zW_i, zC_c, zC_i, zC_o]); rfl) | rfl)))
        refine hk _ _ _ (by omega) ⟨i + 1, ?_, by omega, rfl, rfl⟩
        rw [zOr_bit (by omega) hlt, zBn_t (zDc_t hq)]
        rfl
    · have hj := a1 j (by omega)
      have hsno : ¬ (∀ v : Nat, v < j + 1 → m2 54 (v : Int) ≤ m2 54 (i : Int)) → zOk (k2 (50, zI (zBn i (fun u => zDc (∀ v : Nat, v < (m2 51 0).toNat → m2 54 (v : Int) ≤ m2 54 (u : Int))) : Nat), zI (i : Int), 0, zI ((j : Int) + 1)) (zM m2)) (fun v m3 => v = zI (zTop (m2 54) (m2 51 0).toNat : Nat) ∧ m3 = m2) := fun hq => hk2 _ _ _ (by omega) ⟨j + 1, by rw [zE_n hq]; rfl, by omega, rfl, rfl⟩
      refine z_E (fun hq => ?_) (fun hq => ?_)
      · repeat' (first
    | (with_reducible apply z_nm; (case he => repeat (with_reducible first | exact zv_l _ | exact zv_r | apply zv_add | apply zv_sub | apply zv_neg | apply zv_or | apply zv_shl | apply zv_and)))
    | (with_reducible apply z_b_ck; (case h => with_unfolding_all rfl))
    | (with_reducible apply z_b_R; (case h => first | with_unfolding_all rfl))
    | (with_reducible apply z_L; (case he => repeat (with_reducible first | exact zv_l _ | exact zv_r | apply zv_add | apply zv_sub | apply zv_neg | apply zv_or | apply zv_shl | apply zv_and)); (case hn => with_reducible first | assumption | exact zl_2 | exact zl_6 | exact zl_9 | exact zl_51 | exact zl_54); (case h => omega); (case hy => first | ((simp (disch := omega) only [zU_c, zU_e, zU_k, zF_c, zF_i, zF_o, zW_o, zW_i, zC_c, zC_i, zC_o]); rfl) | rfl)))
        exact hsno (fun w => hq (fun v hv => w v (by omega)))
      · (first
    | (with_reducible apply z_nm; (case he => repeat (with_reducible first | exact zv_l _ | exact zv_r | apply zv_add | apply zv_sub | apply zv_neg | apply zv_or | apply zv_shl | apply zv_and)))
    | (with_reducible apply z_b_ck; (case h => with_unfolding_all rfl))
    | (with_reducible apply z_b_R; (case h => first | with_unfolding_all rfl))
    | (with_reducible apply z_L; (case he => repeat (with_reducible first | exact zv_l _ | exact zv_r | apply zv_add | apply zv_sub | apply zv_neg | apply zv_or | apply zv_shl | apply zv_and)); (case hn => with_reducible first | assumption | exact zl_2 | exact zl_6 | exact zl_9 | exact zl_51 | exact zl_54); (case h => omega); (case hy => first | ((simp (disch := omega) only [zU_c, zU_e, zU_k, zF_c, zF_i, zF_o, zW_o, zW_i, zC_c, zC_i, zC_o]); rfl) | rfl)))
        (first
    | (with_reducible apply z_nm; (case he => repeat (with_reducible first | exact zv_l _ | exact zv_r | apply zv_add | apply zv_sub | apply zv_neg | apply zv_or | apply zv_shl | apply zv_and)))
    | (with_reducible apply z_b_ck; (case h => with_unfolding_all rfl))
    | (with_reducible apply z_b_R; (case h => first | with_unfolding_all rfl))
    | (with_reducible apply z_L; (case he => repeat (with_reducible first | exact zv_l _ | exact zv_r | apply zv_add | apply zv_sub | apply zv_neg | apply zv_or | apply zv_shl | apply zv_and)); (case hn => with_reducible first | assumption | exact zl_2 | exact zl_6 | exact zl_9 | exact zl_51 | exact zl_54); (case h => omega); (case hy => first | ((simp (disch := omega) only [zU_c, zU_e, zU_k, zF_c, zF_i, zF_o, zW_o, zW_i, zC_c, zC_i, zC_o]); rfl) | rfl)))
        (first
    | (with_reducible apply z_nm; (case he => repeat (with_reducible first | exact zv_l _ | exact zv_r | apply zv_add | apply zv_sub | apply zv_neg | apply zv_or | apply zv_shl | apply zv_and)))
    | (with_reducible apply z_b_ck; (case h => with_unfolding_all rfl))
    | (with_reducible apply z_b_R; (case h => first | with_unfolding_all rfl))
    | (with_reducible apply z_L; (case he => repeat (with_reducible first | exact zv_l _ | exact zv_r | apply zv_add | apply zv_sub | apply zv_neg | apply zv_or | apply zv_shl | apply zv_and)); (case hn => with_reducible first | assumption | exact zl_2 | exact zl_6 | exact zl_9 | exact zl_51 | exact zl_54); (case h => omega); (case hy => first | ((simp (disch := omega) only [zU_c, zU_e, zU_k, zF_c, zF_i, zF_o, zW_o, zW_i, zC_c, zC_i, zC_o]); rfl) | rfl)))
        (first
    | (with_reducible apply z_nm; (case he => repeat (with_reducible first | exact zv_l _ | exact zv_r | apply zv_add | apply zv_sub | apply zv_neg | apply zv_or | apply zv_shl | apply zv_and)))
    | (with_reducible apply z_b_ck; (case h => with_unfolding_all rfl))
    | (with_reducible apply z_b_R; (case h => first | with_unfolding_all rfl))
    | (with_reducible apply z_L; (case he => repeat (with_reducible first | exact zv_l _ | exact zv_r | apply zv_add | apply zv_sub | apply zv_neg | apply zv_or | apply zv_shl | apply zv_and)); (case hn => with_reducible first | assumption | exact zl_2 | exact zl_6 | exact zl_9 | exact zl_51 | exact zl_54); (case h => omega); (case hy => first | ((simp (disch := omega) only [zU_c, zU_e, zU_k, zF_c, zF_i, zF_o, zW_o, zW_i, zC_c, zC_i, zC_o]); rfl) | rfl)))
        refine z_lt (x := m2 54 (i : Int)) (y := m2 54 (j : Int)) rfl rfl hi hj (fun hl => ?_) (fun hl => ?_)
        · repeat' (first
    | (with_reducible apply z_nm; (case he => repeat (with_reducible first | exact zv_l _ | exact zv_r | apply zv_add | apply zv_sub | apply zv_neg | apply zv_or | apply zv_shl | apply zv_and)))
    | (with_reducible apply z_b_ck; (case h => with_unfolding_all rfl))
    | (with_reducible apply z_b_R; (case h => first | with_unfolding_all rfl))
    | (with_reducible apply z_L; (case he => repeat (with_reducible first | exact zv_l _ | exact zv_r | apply zv_add | apply zv_sub | apply zv_neg | apply zv_or | apply zv_shl | apply zv_and)); (case hn => with_reducible first | assumption | exact zl_2 | exact zl_6 | exact zl_9 | exact zl_51 | exact zl_54); (case h => omega); (case hy => first | ((simp (disch := omega) only [zU_c, zU_e, zU_k, zF_c, zF_i, zF_o, zW_o, zW_i, zC_c, zC_i, zC_o]); rfl) | rfl)))
          refine hsno (fun w => ?_)
          have := w j (by omega)
          omega
        · repeat' (first
    | (with_reducible apply z_nm; (case he => repeat (with_reducible first | exact zv_l _ | exact zv_r | apply zv_add | apply zv_sub | apply zv_neg | apply zv_or | apply zv_shl | apply zv_and)))
    | (with_reducible apply z_b_ck; (case h => with_unfolding_all rfl))
    | (with_reducible apply z_b_R; (case h => first | with_unfolding_all rfl))
    | (with_reducible apply z_L; (case he => repeat (with_reducible first | exact zv_l _ | exact zv_r | apply zv_add | apply zv_sub | apply zv_neg | apply zv_or | apply zv_shl | apply zv_and)); (case hn => with_reducible first | assumption | exact zl_2 | exact zl_6 | exact zl_9 | exact zl_51 | exact zl_54); (case h => omega); (case hy => first | ((simp (disch := omega) only [zU_c, zU_e, zU_k, zF_c, zF_i, zF_o, zW_o, zW_i, zC_c, zC_i, zC_o]); rfl) | rfl)))
          refine hk2 _ _ _ (by omega) ⟨j + 1, ?_, by omega, rfl, rfl⟩
          rw [zE_p (fun v hv => ?_)]
          · rfl
          · by_cases w : v = j
            · subst w
              omega
            · exact hq v (by omega)
theorem z_7firstOnes {m : zMe} (r1 : 0 ≤ m 51 0 ∧ m 51 0 ≤ 6) (a1 : ∀ u : Nat, (u : Int) < m 51 0 → -2147483648 ≤ m 54 (u : Int) ∧ m 54 (u : Int) < 2147483648) {α : Type} {kf : Int32 × Hp → Option (α × Hp)} {Q : α → zMe → Prop} (K : zOk (kf (zI (zTop (m 54) (m 51 0).toNat : Nat), zM (m))) Q) : zOk ((f_X7_firstOnes 50 (zM m)).bind kf) Q := z_b (s_7firstOnes r1 a1) K
theorem zQt_range {m : zMe} (h : zRw m) {t : Int} (ht : 0 ≤ t ∧ t < m 51 0) : 0 ≤ zQt m t ∧ zQt m t ≤ 36 := by
  have hN := h.1.2.1
  have hs := h.2.1 t ht.1 ht.2
  have h1 := zSm_range (n := (m 51 1).toNat) (f := fun k => if m 53 (k : Int) < 0 then 0 else zG7 m k (m 53 (k : Int)) t) (a := 0) (b := 3) (by omega) (by omega) (fun k hk => by
    have := (h.2.2 (k : Int) (by omega) (by omega)).2.2.2.1
    have hK := h.1.2.2
    have hg : 0 ≤ zG7 m k (m 53 (k : Int)) t ∧ zG7 m k (m 53 (k : Int)) t ≤ 3 := by
      unfold zG7 zGn
      (repeat' split) <;> omega
    split <;> omega)
  unfold zQt zQi
  omega
theorem zLk_R {m : zMe} {g : Int → Int} (h : zRw m) : zRw (zLk m g) := zRw_F h (by omega)
theorem zDq_range {m : zMe} {seed : Int32} (h : zRw m) {t : Int} (ht : 0 ≤ t ∧ t < m 51 0) : 0 ≤ zDq m seed (m 51 1).toNat t ∧ zDq m seed (m 51 1).toNat t ≤ 63 := by
  have hN := h.1.2.1
  have h0 := zQt_range (zLk_R (g := zRs m) h) (t := t) (by
    unfold zLk
    rw [zF_c (by omega)]
    exact ht)
  have h1 := zSm_range (n := (m 51 1).toNat) (f := fun k => if zRs m (k : Int) = -1 then zG7 m k (zDres (m 51 2) (zDz7 m seed (k + 1))) t else 0) (a := 0) (b := 3) (by omega) (by omega) (fun k hk => by
    have := (h.2.2 (k : Int) (by omega) (by omega)).2.2.2.1
    have hK := h.1.2.2
    have hg : 0 ≤ zG7 m k (zDres (m 51 2) (zDz7 m seed (k + 1))) t ∧ zG7 m k (zDres (m 51 2) (zDz7 m seed (k + 1))) t ≤ 3 := by
      unfold zG7 zGn
      (repeat' split) <;> omega
    split <;> omega)
  unfold zDq
  omega
noncomputable def zFs7 (m : zMe) (seed : Int32) : Nat := zTop (zDq m seed (m 51 1).toNat) (m 51 0).toNat
theorem zDm_51 {m : zMe} {seed : Int32} {j : Int} : zDm m seed 51 j = m 51 j := by
  unfold zDm zLk
  rw [zF_c (by omega), zF_c (by omega)]
theorem s7_dfirst {m : zMe} {e : Int32} (a2 : zRw m) {α : Type} {f : Int32 × Hp → Option (α × Hp)} {Q : α → zMe → Prop} (K : zOk (f (zI (zFs7 m e : Nat), zM (zDm m e))) Q) : zOk ((f_X7_firstOnes 50 (zM (zDm m e))).bind f) Q := by
  have hT := a2.1.1
  have e54 : ∀ u : Nat, (u : Int) < m 51 0 → zDm m e 54 (u : Int) = zDq m e (m 51 1).toNat (u : Int) := fun u hu => by
    unfold zDm
    rw [zF_i (by omega), Int.sub_zero]
  refine z_7firstOnes (by rw [zDm_51]; exact hT) (fun u hu => ?_) ?_
  · rw [zDm_51] at hu
    rw [e54 u hu]
    have := zDq_range (seed := e) a2 (t := (u : Int)) (by omega)
    omega
  · rw [zDm_51, zTop_congr (g := zDq m e (m 51 1).toNat) (fun u hu => e54 u (by omega))]
    exact K
set_option maxRecDepth 100000 in
set_option maxHeartbeats 1000000 in
theorem s_7drawn {m : zMe} {e : Int32} (a2 : zRw m) : zOk (f_X7_drawn 50 e (zM m)) (fun v m1 => v = zI (zFs7 m e : Nat) ∧ zY m m1) := by
  unfold f_X7_drawn
  (first
    | (with_reducible apply z_b_ck; (case h => with_unfolding_all rfl))
    | (with_reducible apply z_7draws; (case a2 => assumption))
    | (with_reducible apply z_7firstOnes; (case r1 => first | omega | ((simp (disch := omega) only [zU_c, zU_e, zU_k, zF_c, zF_i, zF_o, zW_o, zW_i, zC_c, zC_i, zC_o]); omega)); (case a1 => assumption)))
  refine z_7draws a2 ?_
  refine s7_dfirst a2 ?_
  exact ⟨_, _, rfl, rfl, zDm_Y⟩
theorem z_7drawn {m : zMe} {e : Int32} (a2 : zRw m) {α : Type} {kf : Int32 × Hp → Option (α × Hp)} {Q : α → zMe → Prop} (K : ∀ (v : Int32) (m1 : zMe), (fun v m1 => v = zI (zFs7 m e : Nat) ∧ zY m m1) v m1 → zOk (kf (v, zM m1)) Q) : zOk ((f_X7_drawn 50 e (zM m)).bind kf) Q := z_call (s_7drawn a2) K
