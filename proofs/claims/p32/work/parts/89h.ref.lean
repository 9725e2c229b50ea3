/-! the reference: needs, tells; calls that change nothing but the group -/
set_option maxRecDepth 100000 in
set_option maxHeartbeats 1000000 in
theorem s_7isEnough {m : zMe} {e1 e2 e3 : Int32} {t : Int} {own won : Nat} (e4 : e1 = zI t) (e5 : e2 = zI (own : Int)) (e6 : e3 = zI (won : Int)) (r1 : 0 ≤ t ∧ t < 6) (r2 : own < 512) (r3 : won < 512) (a1 : zRw m) (r4 : -1 ≤ m 50 8 ∧ m 50 8 < 512) : zOk (f_X7_isEnough 50 e1 e2 e3 (zM m)) (fun v m1 => (∃ p : Prop, v = zI (zE p)) ∧ zX m m1 ∧ (-1 ≤ m1 50 8 ∧ m1 50 8 < 512)) := by
  subst e4; subst e5; subst e6
  unfold f_X7_isEnough
  (first
    | (with_reducible apply z_nm; (case he => repeat (with_reducible first | exact zv_l _ | exact zv_r | apply zv_add | apply zv_sub | apply zv_neg | apply zv_and | apply zv_xor)))
    | (with_reducible apply z_b_ck; (case h => with_unfolding_all rfl))
    | (with_reducible apply z_b_R; (case h => first | with_unfolding_all rfl))
    | (with_reducible apply z_PU; (case he => repeat (with_reducible first | exact zv_l _ | exact zv_r | apply zv_add | apply zv_sub | apply zv_neg | apply zv_and | apply zv_xor)); (case h => with_reducible first | exact zp_50_5 _ | exact zp_50_6 _))
    | (with_reducible apply z_PZ; (case he => repeat (with_reducible first | exact zv_l _ | exact zv_r | apply zv_add | apply zv_sub | apply zv_neg | apply zv_and | apply zv_xor)); (case hb => omega); (case h => with_reducible first | exact zpz_50_9 _))
    | (with_reducible apply z_L; (case he => repeat (with_reducible first | exact zv_l _ | exact zv_r | apply zv_add | apply zv_sub | apply zv_neg | apply zv_and | apply zv_xor)); (case hn => with_reducible first | assumption | exact zl_2 | exact zl_5 | exact zl_6 | exact zl_8 | exact zl_9 | exact zl_12 | exact zl_51 | exact zl_54); (case h => omega); (case hy => first | ((simp (disch := omega) only [zU_c, zU_e, zU_k, zF_c, zF_i, zF_o, zW_o, zW_i, zC_c, zC_i, zC_o]); rfl) | rfl))
    | with_reducible refine z_bz ?_
    | with_reducible refine z_bzE ?_
    | (with_reducible apply z_bzl; (case h => omega))
    | (with_reducible apply z_7has; (case e1 => repeat (with_reducible first | exact zv_l _ | exact zv_r | apply zv_add | apply zv_sub | apply zv_neg | apply zv_and | apply zv_xor)); (case e2 => repeat (with_reducible first | exact zv_l _ | exact zv_r | apply zv_add | apply zv_sub | apply zv_neg | apply zv_and | apply zv_xor)); (case r1 => first | omega | ((simp (disch := omega) only [zU_c, zU_e, zU_k, zF_c, zF_i, zF_o, zW_o, zW_i, zC_c, zC_i, zC_o]); omega)); (case r2 => first | omega | ((simp (disch := omega) only [zU_c, zU_e, zU_k, zF_c, zF_i, zF_o, zW_o, zW_i, zC_c, zC_i, zC_o]); omega)))
    | (with_reducible apply z_7leftSet; (case r1 => first | omega | ((simp (disch := omega) only [zU_c, zU_e, zU_k, zF_c, zF_i, zF_o, zW_o, zW_i, zC_c, zC_i, zC_o]); omega)); (case a1 => assumption))
    | (with_reducible apply z_7brings; (case e1 => repeat (with_reducible first | exact zv_l _ | exact zv_r | apply zv_add | apply zv_sub | apply zv_neg | apply zv_and | apply zv_xor)); (case e2 => repeat (with_reducible first | exact zv_l _ | exact zv_r | apply zv_add | apply zv_sub | apply zv_neg | apply zv_and | apply zv_xor)); (case e3 => repeat (with_reducible first | exact zv_l _ | exact zv_r | apply zv_add | apply zv_sub | apply zv_neg | apply zv_and | apply zv_xor)); (case r1 => first | omega | ((simp (disch := omega) only [zU_c, zU_e, zU_k, zF_c, zF_i, zF_o, zW_o, zW_i, zC_c, zC_i, zC_o]); omega)); (case r2 => first | omega | ((simp (disch := omega) only [zU_c, zU_e, zU_k, zF_c, zF_i, zF_o, zW_o, zW_i, zC_c, zC_i, zC_o]); omega)); (case r3 => first | omega | ((simp (disch := omega) only [zU_c, zU_e, zU_k, zF_c, zF_i, zF_o, zW_o, zW_i, zC_c, zC_i, zC_o]); omega)); (case r4 => first | omega | ((simp (disch := omega) only [zU_c, zU_e, zU_k, zF_c, zF_i, zF_o, zW_o, zW_i, zC_c, zC_i, zC_o]); omega)); (case r5 => first | omega | ((simp (disch := omega) only [zU_c, zU_e, zU_k, zF_c, zF_i, zF_o, zW_o, zW_i, zC_c, zC_i, zC_o]); omega)); (case r6 => first | omega | ((simp (disch := omega) only [zU_c, zU_e, zU_k, zF_c, zF_i, zF_o, zW_o, zW_i, zC_c, zC_i, zC_o]); omega)))
    | (with_reducible apply z_7looks; (case a2 => assumption)))
  refine s7_lk a1 (fun M hY hR hA => ?_)
  have hN := hR.1.2.1
  have hT := hR.1.1
  have h8 := hY.2 r4
  refine z_lp (fun n v m1 => ∃ i : Int, v = (50, zI t, zI (own : Int), zI (won : Int), zI i) ∧ 0 ≤ i ∧ i ≤ M 51 1 ∧ n = (M 51 1 - i).toNat ∧ zPv M m1) (fun _ _ v m1 => (∃ p : Prop, v = zI (zE p)) ∧ zX m m1 ∧ (-1 ≤ m1 50 8 ∧ m1 50 8 < 512)) ?_ 600 (M 51 1).toNat _ _ (by omega) ⟨0, rfl, by omega, by omega, by omega, zPv_r _⟩
  rintro n v m1 k ⟨i, rfl, h0, h1, rfl, hP⟩ hk
  have hR1 := zPv_R hP hR
  have hA1 := zPv_As hP hA
  have e1 : ∀ j, m1 51 j = M 51 j := hP 51 (by omega)
  have e8 : m1 50 8 = M 50 8 := hP 50 (by omega) 8
  have e11 : m1 51 1 = M 51 1 := e1 1
  have hg := hR1.2.2 i h0
  unfold f_X7_isEnough_7
  dsimp only
  (first
    | (with_reducible apply z_nm; (case he => repeat (with_reducible first | exact zv_l _ | exact zv_r | apply zv_add | apply zv_sub | apply zv_neg | apply zv_and | apply zv_xor)))
    | (with_reducible apply z_b_ck; (case h => with_unfolding_all rfl))
    | (with_reducible apply z_b_R; (case h => first | with_unfolding_all rfl))
    | (with_reducible apply z_PU; (case he => repeat (with_reducible first | exact zv_l _ | exact zv_r | apply zv_add | apply zv_sub | apply zv_neg | apply zv_and | apply zv_xor)); (case h => with_reducible first | exact zp_50_5 _ | exact zp_50_6 _))
    | (with_reducible apply z_PZ; (case he => repeat (with_reducible first | exact zv_l _ | exact zv_r | apply zv_add | apply zv_sub | apply zv_neg | apply zv_and | apply zv_xor)); (case hb => omega); (case h => with_reducible first | exact zpz_50_9 _))
    | (with_reducible apply z_L; (case he => repeat (with_reducible first | exact zv_l _ | exact zv_r | apply zv_add | apply zv_sub | apply zv_neg | apply zv_and | apply zv_xor)); (case hn => with_reducible first | assumption | exact zl_2 | exact zl_5 | exact zl_6 | exact zl_8 | exact zl_9 | exact zl_12 | exact zl_51 | exact zl_54); (case h => omega); (case hy => first | ((simp (disch := omega) only [zU_c, zU_e, zU_k, zF_c, zF_i, zF_o, zW_o, zW_i, zC_c, zC_i, zC_o]); rfl) | rfl))
    | with_reducible refine z_bz ?_
    | with_reducible refine z_bzE ?_
    | (with_reducible apply z_bzl; (case h => omega))
    | (with_reducible apply z_7has; (case e1 => repeat (with_reducible first | exact zv_l _ | exact zv_r | apply zv_add | apply zv_sub | apply zv_neg | apply zv_and | apply zv_xor)); (case e2 => repeat (with_reducible first | exact zv_l _ | exact zv_r | apply zv_add | apply zv_sub | apply zv_neg | apply zv_and | apply zv_xor)); (case r1 => first | omega | ((simp (disch := omega) only [zU_c, zU_e, zU_k, zF_c, zF_i, zF_o, zW_o, zW_i, zC_c, zC_i, zC_o]); omega)); (case r2 => first | omega | ((simp (disch := omega) only [zU_c, zU_e, zU_k, zF_c, zF_i, zF_o, zW_o, zW_i, zC_c, zC_i, zC_o]); omega)))
    | (with_reducible apply z_7leftSet; (case r1 => first | omega | ((simp (disch := omega) only [zU_c, zU_e, zU_k, zF_c, zF_i, zF_o, zW_o, zW_i, zC_c, zC_i, zC_o]); omega)); (case a1 => assumption))
    | (with_reducible apply z_7brings; (case e1 => repeat (with_reducible first | exact zv_l _ | exact zv_r | apply zv_add | apply zv_sub | apply zv_neg | apply zv_and | apply zv_xor)); (case e2 => repeat (with_reducible first | exact zv_l _ | exact zv_r | apply zv_add | apply zv_sub | apply zv_neg | apply zv_and | apply zv_xor)); (case e3 => repeat (with_reducible first | exact zv_l _ | exact zv_r | apply zv_add | apply zv_sub | apply zv_neg | apply zv_and | apply zv_xor)); (case r1 => first | omega | ((simp (disch := omega) only [zU_c, zU_e, zU_k, zF_c, zF_i, zF_o, zW_o, zW_i, zC_c, zC_i, zC_o]); omega)); (case r2 => first | omega | ((simp (disch := omega) only [zU_c, zU_e, zU_k, zF_c, zF_i, zF_o, zW_o, zW_i, zC_c, zC_i, zC_o]); omega)); (case r3 => first | omega | ((simp (disch := omega) only [zU_c, zU_e, zU_k, zF_c, zF_i, zF_o, zW_o, zW_i, zC_c, zC_i, zC_o]); omega)); (case r4 => first | omega | ((simp (disch := omega) only [zU_c, zU_e, zU_k, zF_c, zF_i, zF_o, zW_o, zW_i, zC_c, zC_i, zC_o]); omega)); (case r5 => first | omega | ((simp (disch := omega) only [zU_c, zU_e, zU_k, zF_c, zF_i, zF_o, zW_o, zW_i, zC_c, zC_i, zC_o]); omega)); (case r6 => first | omega | ((simp (disch := omega) only [zU_c, zU_e, zU_k, zF_c, zF_i, zF_o, zW_o, zW_i, zC_c, zC_i, zC_o]); omega)))
    | (with_reducible apply z_7looks; (case a2 => assumption)))
  (first
    | (with_reducible apply z_nm; (case he => repeat (with_reducible first | exact zv_l _ | exact zv_r | apply zv_add | apply zv_sub | apply zv_neg | apply zv_and | apply zv_xor)))
    | (with_reducible apply z_b_ck; (case h => with_unfolding_all rfl))
    | (with_reducible apply z_b_R; (case h => first | with_unfolding_all rfl))
    | (with_reducible apply z_PU; (case he => repeat (with_reducible first | exact zv_l _ | exact zv_r | apply zv_add | apply zv_sub | apply zv_neg | apply zv_and | apply zv_xor)); (case h => with_reducible first | exact zp_50_5 _ | exact zp_50_6 _))
    | (with_reducible apply z_PZ; (case he => repeat (with_reducible first | exact zv_l _ | exact zv_r | apply zv_add | apply zv_sub | apply zv_neg | apply zv_and | apply zv_xor)); (case hb => omega); (case h => with_reducible first | exact zpz_50_9 _))
    | (with_reducible apply z_L; (case he => repeat (with_reducible first | exact zv_l _ | exact zv_r | apply zv_add | apply zv_sub | apply zv_neg | apply zv_and | apply zv_xor)); (case hn => with_reducible first | assumption | exact zl_2 | exact zl_5 | exact zl_6 | exact zl_8 | exact zl_9 | exact zl_12 | exact zl_51 | exact zl_54); (case h => omega); (case hy => first | ((simp (disch := omega) only [zU_c, zU_e, zU_k, zF_c, zF_i, zF_o, zW_o, zW_i, zC_c, zC_i, zC_o]); rfl) | rfl))
    | with_reducible refine z_bz ?_
    | with_reducible refine z_bzE ?_
    | (with_reducible apply z_bzl; (case h => omega))
    | (with_reducible apply z_7has; (case e1 => repeat (with_reducible first | exact zv_l _ | exact zv_r | apply zv_add | apply zv_sub | apply zv_neg | apply zv_and | apply zv_xor)); (case e2 => repeat (with_reducible first | exact zv_l _ | exact zv_r | apply zv_add | apply zv_sub | apply zv_neg | apply zv_and | apply zv_xor)); (case r1 => first | omega | ((simp (disch := omega) only [zU_c, zU_e, zU_k, zF_c, zF_i, zF_o, zW_o, zW_i, zC_c, zC_i, zC_o]); omega)); (case r2 => first | omega | ((simp (disch := omega) only [zU_c, zU_e, zU_k, zF_c, zF_i, zF_o, zW_o, zW_i, zC_c, zC_i, zC_o]); omega)))
    | (with_reducible apply z_7leftSet; (case r1 => first | omega | ((simp (disch := omega) only [zU_c, zU_e, zU_k, zF_c, zF_i, zF_o, zW_o, zW_i, zC_c, zC_i, zC_o]); omega)); (case a1 => assumption))
    | (with_reducible apply z_7brings; (case e1 => repeat (with_reducible first | exact zv_l _ | exact zv_r | apply zv_add | apply zv_sub | apply zv_neg | apply zv_and | apply zv_xor)); (case e2 => repeat (with_reducible first | exact zv_l _ | exact zv_r | apply zv_add | apply zv_sub | apply zv_neg | apply zv_and | apply zv_xor)); (case e3 => repeat (with_reducible first | exact zv_l _ | exact zv_r | apply zv_add | apply zv_sub | apply zv_neg | apply zv_and | apply zv_xor)); (case r1 => first | omega | ((simp (disch := omega) only [zU_c, zU_e, zU_k, zF_c, zF_i, zF_o, zW_o, zW_i, zC_c, zC_i, zC_o]); omega)); (case r2 => first | omega | ((simp (disch := omega) only [zU_c, zU_e, zU_k, zF_c, zF_i, zF_o, zW_o, zW_i, zC_c, zC_i, zC_o]); omega)); (case r3 => first | omega | ((simp (disch := omega) only [zU_c, zU_e, zU_k, zF_c, zF_i, zF_o, zW_o, zW_i, zC_c, zC_i, zC_o]); omega)); (case r4 => first | omega | ((simp (disch := omega) only [zU_c, zU_e, zU_k, zF_c, zF_i, zF_o, zW_o, zW_i, zC_c, zC_i, zC_o]); omega)); (case r5 => first | omega | ((simp (disch := omega) only [zU_c, zU_e, zU_k, zF_c, zF_i, zF_o, zW_o, zW_i, zC_c, zC_i, zC_o]); omega)); (case r6 => first | omega | ((simp (disch := omega) only [zU_c, zU_e, zU_k, zF_c, zF_i, zF_o, zW_o, zW_i, zC_c, zC_i, zC_o]); omega)))
    | (with_reducible apply z_7looks; (case a2 => assumption)))
  (first
    | (with_reducible apply z_B; all_goals (intro _; try (exfalso; omega)))
    | (with_reducible apply z_E; all_goals intro _)
    | (with_reducible apply z_lt; (case ha => repeat (with_reducible first | exact zv_l _ | exact zv_r | apply zv_add | apply zv_sub | apply zv_neg | apply zv_and | apply zv_xor)); (case hb => repeat (with_reducible first | exact zv_l _ | exact zv_r | apply zv_add | apply zv_sub | apply zv_neg | apply zv_and | apply zv_xor)); (case hx => omega); (case hy => omega); all_goals (intro _; try (exfalso; omega)))
    | (with_reducible apply z_le; (case ha => repeat (with_reducible first | exact zv_l _ | exact zv_r | apply zv_add | apply zv_sub | apply zv_neg | apply zv_and | apply zv_xor)); (case hb => repeat (with_reducible first | exact zv_l _ | exact zv_r | apply zv_add | apply zv_sub | apply zv_neg | apply zv_and | apply zv_xor)); (case hx => omega); (case hy => omega); all_goals (intro _; try (exfalso; omega)))
    | (with_reducible apply z_eq; (case ha => repeat (with_reducible first | exact zv_l _ | exact zv_r | apply zv_add | apply zv_sub | apply zv_neg | apply zv_and | apply zv_xor)); (case hb => repeat (with_reducible first | exact zv_l _ | exact zv_r | apply zv_add | apply zv_sub | apply zv_neg | apply zv_and | apply zv_xor)); (case hx => omega); (case hy => omega); all_goals (intro _; try (exfalso; omega))))
  · (first
    | (with_reducible apply z_nm; (case he => repeat (with_reducible first | exact zv_l _ | exact zv_r | apply zv_add | apply zv_sub | apply zv_neg | apply zv_and | apply zv_xor)))
    | (with_reducible apply z_b_ck; (case h => with_unfolding_all rfl))
    | (with_reducible apply z_b_R; (case h => first | with_unfolding_all rfl))
    | (with_reducible apply z_PU; (case he => repeat (with_reducible first | exact zv_l _ | exact zv_r | apply zv_add | apply zv_sub | apply zv_neg | apply zv_and | apply zv_xor)); (case h => with_reducible first | exact zp_50_5 _ | exact zp_50_6 _))
    | (with_reducible apply z_PZ; (case he => repeat (with_reducible first | exact zv_l _ | exact zv_r | apply zv_add | apply zv_sub | apply zv_neg | apply zv_and | apply zv_xor)); (case hb => omega); (case h => with_reducible first | exact zpz_50_9 _))
    | (with_reducible apply z_L; (case he => repeat (with_reducible first | exact zv_l _ | exact zv_r | apply zv_add | apply zv_sub | apply zv_neg | apply zv_and | apply zv_xor)); (case hn => with_reducible first | assumption | exact zl_2 | exact zl_5 | exact zl_6 | exact zl_8 | exact zl_9 | exact zl_12 | exact zl_51 | exact zl_54); (case h => omega); (case hy => first | ((simp (disch := omega) only [zU_c, zU_e, zU_k, zF_c, zF_i, zF_o, zW_o, zW_i, zC_c, zC_i, zC_o]); rfl) | rfl))
    | with_reducible refine z_bz ?_
    | with_reducible refine z_bzE ?_
    | (with_reducible apply z_bzl; (case h => omega))
    | (with_reducible apply z_7has; (case e1 => repeat (with_reducible first | exact zv_l _ | exact zv_r | apply zv_add | apply zv_sub | apply zv_neg | apply zv_and | apply zv_xor)); (case e2 => repeat (with_reducible first | exact zv_l _ | exact zv_r | apply zv_add | apply zv_sub | apply zv_neg | apply zv_and | apply zv_xor)); (case r1 => first | omega | ((simp (disch := omega) only [zU_c, zU_e, zU_k, zF_c, zF_i, zF_o, zW_o, zW_i, zC_c, zC_i, zC_o]); omega)); (case r2 => first | omega | ((simp (disch := omega) only [zU_c, zU_e, zU_k, zF_c, zF_i, zF_o, zW_o, zW_i, zC_c, zC_i, zC_o]); omega)))
    | (with_reducible apply z_7leftSet; (case r1 => first | omega | ((simp (disch := omega) only [zU_c, zU_e, zU_k, zF_c, zF_i, zF_o, zW_o, zW_i, zC_c, zC_i, zC_o]); omega)); (case a1 => assumption))
    | (with_reducible apply z_7brings; (case e1 => repeat (with_reducible first | exact zv_l _ | exact zv_r | apply zv_add | apply zv_sub | apply zv_neg | apply zv_and | apply zv_xor)); (case e2 => repeat (with_reducible first | exact zv_l _ | exact zv_r | apply zv_add | apply zv_sub | apply zv_neg | apply zv_and | apply zv_xor)); (case e3 => repeat (with_reducible first | exact zv_l _ | exact zv_r | apply zv_add | apply zv_sub | apply zv_neg | apply zv_and | apply zv_xor)); (case r1 => first | omega | ((simp (disch := omega) only [zU_c, zU_e, zU_k, zF_c, zF_i, zF_o, zW_o, zW_i, zC_c, zC_i, zC_o]); omega)); (case r2 => first | omega | ((simp (disch := omega) only [zU_c, zU_e, zU_k, zF_c, zF_i, zF_o, zW_o, zW_i, zC_c, zC_i, zC_o]); omega)); (case r3 => first | omega | ((simp (disch := omega) only [zU_c, zU_e, zU_k, zF_c, zF_i, zF_o, zW_o, zW_i, zC_c, zC_i, zC_o]); omega)); (case r4 => first | omega | ((simp (disch := omega) only [zU_c, zU_e, zU_k, zF_c, zF_i, zF_o, zW_o, zW_i, zC_c, zC_i, zC_o]); omega)); (case r5 => first | omega | ((simp (disch := omega) only [zU_c, zU_e, zU_k, zF_c, zF_i, zF_o, zW_o, zW_i, zC_c, zC_i, zC_o]); omega)); (case r6 => first | omega | ((simp (disch := omega) only [zU_c, zU_e, zU_k, zF_c, zF_i, zF_o, zW_o, zW_i, zC_c, zC_i, zC_o]); omega)))
    | (with_reducible apply z_7looks; (case a2 => assumption)))
    (first
    | (with_reducible apply z_nm; (case he => repeat (with_reducible first | exact zv_l _ | exact zv_r | apply zv_add | apply zv_sub | apply zv_neg | apply zv_and | apply zv_xor)))
    | (with_reducible apply z_b_ck; (case h => with_unfolding_all rfl))
    | (with_reducible apply z_b_R; (case h => first | with_unfolding_all rfl))
    | (with_reducible apply z_PU; (case he => repeat (with_reducible first | exact zv_l _ | exact zv_r | apply zv_add | apply zv_sub | apply zv_neg | apply zv_and | apply zv_xor)); (case h => with_reducible first | exact zp_50_5 _ | exact zp_50_6 _))
    | (with_reducible apply z_PZ; (case he => repeat (with_reducible first | exact zv_l _ | exact zv_r | apply zv_add | apply zv_sub | apply zv_neg | apply zv_and | apply zv_xor)); (case hb => omega); (case h => with_reducible first | exact zpz_50_9 _))
    | (with_reducible apply z_L; (case he => repeat (with_reducible first | exact zv_l _ | exact zv_r | apply zv_add | apply zv_sub | apply zv_neg | apply zv_and | apply zv_xor)); (case hn => with_reducible first | assumption | exact zl_2 | exact zl_5 | exact zl_6 | exact zl_8 | exact zl_9 | exact zl_12 | exact zl_51 | exact zl_54); (case h => omega); (case hy => first | ((simp (disch := omega) only [zU_c, zU_e, zU_k, zF_c, zF_i, zF_o, zW_o, zW_i, zC_c, zC_i, zC_o]); rfl) | rfl))
    | with_reducible refine z_bz ?_
    | with_reducible refine z_bzE ?_
    | (with_reducible apply z_bzl; (case h => omega))
    | (with_reducible apply z_7has; (case e1 => repeat (with_reducible first | exact zv_l _ | exact zv_r | apply zv_add | apply zv_sub | apply zv_neg | apply zv_and | apply zv_xor)); (case e2 => repeat (with_reducible first | exact zv_l _ | exact zv_r | apply zv_add | apply zv_sub | apply zv_neg | apply zv_and | apply zv_xor)); (case r1 => first | omega | ((simp (disch := omega) only [zU_c, zU_e, zU_k, zF_c, zF_i, zF_o, zW_o, zW_i, zC_c, zC_i, zC_o]); omega)); (case r2 => first | omega | ((simp (disch := omega) only [zU_c, zU_e, zU_k, zF_c, zF_i, zF_o, zW_o, zW_i, zC_c, zC_i, zC_o]); omega)))
    | (with_reducible apply z_7leftSet; (case r1 => first | omega | ((simp (disch := omega) only [zU_c, zU_e, zU_k, zF_c, zF_i, zF_o, zW_o, zW_i, zC_c, zC_i, zC_o]); omega)); (case a1 => assumption))
    | (with_reducible apply z_7brings; (case e1 => repeat (with_reducible first | exact zv_l _ | exact zv_r | apply zv_add | apply zv_sub | apply zv_neg | apply zv_and | apply zv_xor)); (case e2 => repeat (with_reducible first | exact zv_l _ | exact zv_r | apply zv_add | apply zv_sub | apply zv_neg | apply zv_and | apply zv_xor)); (case e3 => repeat (with_reducible first | exact zv_l _ | exact zv_r | apply zv_add | apply zv_sub | apply zv_neg | apply zv_and | apply zv_xor)); (case r1 => first | omega | ((simp (disch := omega) only [zU_c, zU_e, zU_k, zF_c, zF_i, zF_o, zW_o, zW_i, zC_c, zC_i, zC_o]); omega)); (case r2 => first | omega | ((simp (disch := omega) only [zU_c, zU_e, zU_k, zF_c, zF_i, zF_o, zW_o, zW_i, zC_c, zC_i, zC_o]); omega)); (case r3 => first | omega | ((simp (disch := omega) only [zU_c, zU_e, zU_k, zF_c, zF_i, zF_o, zW_o, zW_i, zC_c, zC_i, zC_o]); omega)); (case r4 => first | omega | ((simp (disch := omega) only [zU_c, zU_e, zU_k, zF_c, zF_i, zF_o, zW_o, zW_i, zC_c, zC_i, zC_o]); omega)); (case r5 => first | omega | ((simp (disch := omega) only [zU_c, zU_e, zU_k, zF_c, zF_i, zF_o, zW_o, zW_i, zC_c, zC_i, zC_o]); omega)); (case r6 => first | omega | ((simp (disch := omega) only [zU_c, zU_e, zU_k, zF_c, zF_i, zF_o, zW_o, zW_i, zC_c, zC_i, zC_o]); omega)))
    | (with_reducible apply z_7looks; (case a2 => assumption)))
    (first
    | (with_reducible apply z_nm; (case he => repeat (with_reducible first | exact zv_l _ | exact zv_r | apply zv_add | apply zv_sub | apply zv_neg | apply zv_and | apply zv_xor)))
    | (with_reducible apply z_b_ck; (case h => with_unfolding_all rfl))
    | (with_reducible apply z_b_R; (case h => first | with_unfolding_all rfl))
    | (with_reducible apply z_PU; (case he => repeat (with_reducible first | exact zv_l _ | exact zv_r | apply zv_add | apply zv_sub | apply zv_neg | apply zv_and | apply zv_xor)); (case h => with_reducible first | exact zp_50_5 _ | exact zp_50_6 _))
    | (with_reducible apply z_PZ; (case he => repeat (with_reducible first | exact zv_l _ | exact zv_r | apply zv_add | apply zv_sub | apply zv_neg | apply zv_and | apply zv_xor)); (case hb => omega); (case h => with_reducible first | exact zpz_50_9 _))
    | (with_reducible apply z_L; (case he => repeat (with_reducible first | exact zv_l _ | exact zv_r | apply zv_add | apply zv_sub | apply zv_neg | apply zv_and | apply zv_xor)); (case hn => with_reducible first | assumption | exact zl_2 | exact zl_5 | exact zl_6 | exact zl_8 | exact zl_9 | exact zl_12 | exact zl_51 | exact zl_54); (case h => omega); (case hy => first | ((simp (disch := omega) only [zU_c, zU_e, zU_k, zF_c, zF_i, zF_o, zW_o, zW_i, zC_c, zC_i, zC_o]); rfl) | rfl))
    | with_reducible refine z_bz ?_
    | with_reducible refine z_bzE ?_
    | (with_reducible apply z_bzl; (case h => omega))
    | (with_reducible apply z_7has; (case e1 => repeat (with_reducible first | exact zv_l _ | exact zv_r | apply zv_add | apply zv_sub | apply zv_neg | apply zv_and | apply zv_xor)); (case e2 => repeat (with_reducible first | exact zv_l _ | exact zv_r | apply zv_add | apply zv_sub | apply zv_neg | apply zv_and | apply zv_xor)); (case r1 => first | omega | ((simp (disch := omega) only [zU_c, zU_e, zU_k, zF_c, zF_i, zF_o, zW_o, zW_i, zC_c, zC_i, zC_o]); omega)); (case r2 => first | omega | ((simp (disch := omega) only [zU_c, zU_e, zU_k, zF_c, zF_i, zF_o, zW_o, zW_i, zC_c, zC_i, zC_o]); omega)))
    | (with_reducible apply z_7leftSet; (case r1 => first | omega | ((simp (disch := omega) only [zU_c, zU_e, zU_k, zF_c, zF_i, zF_o, zW_o, zW_i, zC_c, zC_i, zC_o]); omega)); (case a1 => assumption))
    | (with_reducible apply z_7brings; (case e1 => repeat (with_reducible first | exact zv_l _ | exact zv_r | apply zv_add | apply zv_sub | apply zv_neg | apply zv_and | apply zv_xor)); (case e2 => repeat (with_reducible first | exact zv_l _ | exact zv_r | apply zv_add | apply zv_sub | apply zv_neg | apply zv_and | apply zv_xor)); (case e3 => repeat (with_reducible first | exact zv_l _ | exact zv_r | apply zv_add | apply zv_sub | apply zv_neg | apply zv_and | apply zv_xor)); (case r1 => first | omega | ((simp (disch := omega) only [zU_c, zU_e, zU_k, zF_c, zF_i, zF_o, zW_o, zW_i, zC_c, zC_i, zC_o]); omega)); (case r2 => first | omega | ((simp (disch := omega) only [zU_c, zU_e, zU_k, zF_c, zF_i, zF_o, zW_o, zW_i, zC_c, zC_i, zC_o]); omega)); (case r3 => first | omega | ((simp (disch := omega) only [zU_c, zU_e, zU_k, zF_c, zF_i, zF_o, zW_o, zW_i, zC_c, zC_i, zC_o]); omega)); (case r4 => first | omega | ((simp (disch := omega) only [zU_c, zU_e, zU_k, zF_c, zF_i, zF_o, zW_o, zW_i, zC_c, zC_i, zC_o]); omega)); (case r5 => first | omega | ((simp (disch := omega) only [zU_c, zU_e, zU_k, zF_c, zF_i, zF_o, zW_o, zW_i, zC_c, zC_i, zC_o]); omega)); (case r6 => first | omega | ((simp (disch := omega) only [zU_c, zU_e, zU_k, zF_c, zF_i, zF_o, zW_o, zW_i, zC_c, zC_i, zC_o]); omega)))
    | (with_reducible apply z_7looks; (case a2 => assumption)))
    (first
    | (with_reducible apply z_nm; (case he => repeat (with_reducible first | exact zv_l _ | exact zv_r | apply zv_add | apply zv_sub | apply zv_neg | apply zv_and | apply zv_xor)))
    | (with_reducible apply z_b_ck; (case h => with_unfolding_all rfl))
    | (with_reducible apply z_b_R; (case h => first | with_unfolding_all rfl))
    | (with_reducible apply z_PU; (case he => repeat (with_reducible first | exact zv_l _ | exact zv_r | apply zv_add | apply zv_sub | apply zv_neg | apply zv_and | apply zv_xor)); (case h => with_reducible first | exact zp_50_5 _ | exact zp_50_6 _))
    | (with_reducible apply z_PZ; (case he => repeat (with_reducible first | exact zv_l _ | exact zv_r | apply zv_add | apply zv_sub | apply zv_neg | apply zv_and | apply zv_xor)); (case hb => omega); (case h => with_reducible first | exact zpz_50_9 _))
    | (with_reducible apply z_L; (case he => repeat (with_reducible first | exact zv_l _ | exact zv_r | apply zv_add | apply zv_sub | apply zv_neg | apply zv_and | apply zv_xor)); (case hn => with_reducible first | assumption | exact zl_2 | exact zl_5 | exact zl_6 | exact zl_8 | exact zl_9 | exact zl_12 | exact zl_51 | exact zl_54); (case h => omega); (case hy => first | ((simp (disch := omega) only [zU_c, zU_e, zU_k, zF_c, zF_i, zF_o, zW_o, zW_i, zC_c, zC_i, zC_o]); rfl) | rfl))
    | with_reducible refine z_bz ?_
    | with_reducible refine z_bzE ?_
    | (with_reducible apply z_bzl; (case h => omega))
    | (with_reducible apply z_7has; (case e1 => repeat (with_reducible first | exact zv_l _ | exact zv_r | apply zv_add | apply zv_sub | apply zv_neg | apply zv_and | apply zv_xor)); (case e2 => repeat (with_reducible first | exact zv_l _ | exact zv_r | apply zv_add | apply zv_sub | apply zv_neg | apply zv_and | apply zv_xor)); (case r1 => first | omega | ((simp (disch := omega) only [zU_c, zU_e, zU_k, zF_c, zF_i, zF_o, zW_o, zW_i, zC_c, zC_i, zC_o]); omega)); (case r2 => first | omega | ((simp (disch := omega) only [zU_c, zU_e, zU_k, zF_c, zF_i, zF_o, zW_o, zW_i, zC_c, zC_i, zC_o]); omega)))
    | (with_reducible apply z_7leftSet; (case r1 => first | omega | ((simp (disch := omega) only [zU_c, zU_e, zU_k, zF_c, zF_i, zF_o, zW_o, zW_i, zC_c, zC_i, zC_o]); omega)); (case a1 => assumption))
    | (with_reducible apply z_7brings; (case e1 => repeat (with_reducible first | exact zv_l _ | exact zv_r | apply zv_add | apply zv_sub | apply zv_neg | apply zv_and | apply zv_xor)); (case e2 => repeat (with_reducible first | exact zv_l _ | exact zv_r | apply zv_add | apply zv_sub | apply zv_neg | apply zv_and | apply zv_xor)); (case e3 => repeat (with_reducible first | exact zv_l _ | exact zv_r | apply zv_add | apply zv_sub | apply zv_neg | apply zv_and | apply zv_xor)); (case r1 => first | omega | ((simp (disch := omega) only [zU_c, zU_e, zU_k, zF_c, zF_i, zF_o, zW_o, zW_i, zC_c, zC_i, zC_o]); omega)); (case r2 => first | omega | ((simp (disch := omega) only [zU_c, zU_e, zU_k, zF_c, zF_i, zF_o, zW_o, zW_i, zC_c, zC_i, zC_o]); omega)); (case r3 => first | omega | ((simp (disch := omega) only [zU_c, zU_e, zU_k, zF_c, zF_i, zF_o, zW_o, zW_i, zC_c, zC_i, zC_o]); omega)); (case r4 => first | omega | ((simp (disch := omega) only [zU_c, zU_e, zU_k, zF_c, zF_i, zF_o, zW_o, zW_i, zC_c, zC_i, zC_o]); omega)); (case r5 => first | omega | ((simp (disch := omega) only [zU_c, zU_e, zU_k, zF_c, zF_i, zF_o, zW_o, zW_i, zC_c, zC_i, zC_o]); omega)); (case r6 => first | omega | ((simp (disch := omega) only [zU_c, zU_e, zU_k, zF_c, zF_i, zF_o, zW_o, zW_i, zC_c, zC_i, zC_o]); omega)))
    | (with_reducible apply z_7looks; (case a2 => assumption)))
    refine z_PZ (x := 0) (k' := 9) (zv_l 0) (Or.inl rfl) (zpz_50_9 0) ?_
    have hGs : zGs (zU (zU (zU m1 50 5 t) 50 6 (m1 54 t)) 50 9 0) := by
      refine ⟨zRw_X (fun j => by rw [zU_c (by omega), zU_c (by omega), zU_c (by omega)]) hR1, fun k k0 k1 => ?_, ?_, Or.inl zU_e⟩
      · rw [zU_c (by omega), zU_c (by omega), zU_c (by omega)] at k1
        rw [zU_c (by omega), zU_c (by omega), zU_c (by omega)]
        exact hA1 k k0 k1
      · rw [zU_k (by omega), zU_k (by omega), zU_k (by omega), e8]
        exact h8
    have hX3 : zX m (zU (zU (zU m1 50 5 t) 50 6 (m1 54 t)) 50 9 0) := zX_U (zX_U (zX_U (zX_t hY.1 (zPv_X hP)) (by omega)) (by omega)) (by omega)
    have hfin : ∀ M2, zGs M2 → zX m M2 → zOk ((f_X7_leftSet 50 (zM M2)).bind fun q9 => (f_X7_goes 12 50 (0 : Int32) (q9.1 &&& (zI (own : Int) ^^^ (-1 : Int32))) q9.2).bind fun q10 => (bz q10.1).bind fun _ => some (q10.1, q10.2)) (fun v m1 => (∃ p : Prop, v = zI (zE p)) ∧ zX m m1 ∧ (-1 ≤ m1 50 8 ∧ m1 50 8 < 512)) := fun M2 hG2 hX2 => by
      refine z_7leftSet hG2.1.1.2.1 hG2.2.1 ?_
      obtain ⟨b, hb, eb⟩ := zAnd_nat (x := zXor (own : Int) (-1)) (w := zLeft (zV M2) 3) (zLeft_lt (m := zV M2) (r := 3) hG2.1.1.2.1)
      rw [zAnd_comm] at eb
      have eset : zI (zLeft (zV M2) 3 : Nat) &&& (zI (own : Int) ^^^ (-1 : Int32)) = zI (b : Int) := by
        rw [← eb]
        exact zv_and rfl (zv_xor rfl rfl)
      rw [eset]
      refine z_call (s7_goes (g := 0) hG2 ⟨Int.le_refl 0, hG2.1.1.2.1.1⟩ hb) (fun v m2 hv => ?_)
      obtain ⟨⟨p, rfl⟩, hO2⟩ := hv
      (first
    | (with_reducible apply z_nm; (case he => repeat (with_reducible first | exact zv_l _ | exact zv_r | apply zv_add | apply zv_sub | apply zv_neg | apply zv_and | apply zv_xor)))
    | (with_reducible apply z_b_ck; (case h => with_unfolding_all rfl))
    | (with_reducible apply z_b_R; (case h => first | with_unfolding_all rfl))
    | (with_reducible apply z_PU; (case he => repeat (with_reducible first | exact zv_l _ | exact zv_r | apply zv_add | apply zv_sub | apply zv_neg | apply zv_and | apply zv_xor)); (case h => with_reducible first | exact zp_50_5 _ | exact zp_50_6 _))
    | (with_reducible apply z_PZ; (case he => repeat (with_reducible first | exact zv_l _ | exact zv_r | apply zv_add | apply zv_sub | apply zv_neg | apply zv_and | apply zv_xor)); (case hb => omega); (case h => with_reducible first | exact zpz_50_9 _))
    | (with_reducible apply z_L; (case he => repeat (with_reducible first | exact zv_l _ | exact zv_r | apply zv_add | apply zv_sub | apply zv_neg | apply zv_and | apply zv_xor)); (case hn => with_reducible first | assumption | exact zl_2 | exact zl_5 | exact zl_6 | exact zl_8 | exact zl_9 | exact zl_12 | exact zl_51 | exact zl_54); (case h => omega); (case hy => first | ((simp (disch := omega) only [zU_c, zU_e, zU_k, zF_c, zF_i, zF_o, zW_o, zW_i, zC_c, zC_i, zC_o]); rfl) | rfl))
    | with_reducible refine z_bz ?_
    | with_reducible refine z_bzE ?_
    | (with_reducible apply z_bzl; (case h => omega))
    | (with_reducible apply z_7has; (case e1 => repeat (with_reducible first | exact zv_l _ | exact zv_r | apply zv_add | apply zv_sub | apply zv_neg | apply zv_and | apply zv_xor)); (case e2 => repeat (with_reducible first | exact zv_l _ | exact zv_r | apply zv_add | apply zv_sub | apply zv_neg | apply zv_and | apply zv_xor)); (case r1 => first | omega | ((simp (disch := omega) only [zU_c, zU_e, zU_k, zF_c, zF_i, zF_o, zW_o, zW_i, zC_c, zC_i, zC_o]); omega)); (case r2 => first | omega | ((simp (disch := omega) only [zU_c, zU_e, zU_k, zF_c, zF_i, zF_o, zW_o, zW_i, zC_c, zC_i, zC_o]); omega)))
    | (with_reducible apply z_7leftSet; (case r1 => first | omega | ((simp (disch := omega) only [zU_c, zU_e, zU_k, zF_c, zF_i, zF_o, zW_o, zW_i, zC_c, zC_i, zC_o]); omega)); (case a1 => assumption))
    | (with_reducible apply z_7brings; (case e1 => repeat (with_reducible first | exact zv_l _ | exact zv_r | apply zv_add | apply zv_sub | apply zv_neg | apply zv_and | apply zv_xor)); (case e2 => repeat (with_reducible first | exact zv_l _ | exact zv_r | apply zv_add | apply zv_sub | apply zv_neg | apply zv_and | apply zv_xor)); (case e3 => repeat (with_reducible first | exact zv_l _ | exact zv_r | apply zv_add | apply zv_sub | apply zv_neg | apply zv_and | apply zv_xor)); (case r1 => first | omega | ((simp (disch := omega) only [zU_c, zU_e, zU_k, zF_c, zF_i, zF_o, zW_o, zW_i, zC_c, zC_i, zC_o]); omega)); (case r2 => first | omega | ((simp (disch := omega) only [zU_c, zU_e, zU_k, zF_c, zF_i, zF_o, zW_o, zW_i, zC_c, zC_i, zC_o]); omega)); (case r3 => first | omega | ((simp (disch := omega) only [zU_c, zU_e, zU_k, zF_c, zF_i, zF_o, zW_o, zW_i, zC_c, zC_i, zC_o]); omega)); (case r4 => first | omega | ((simp (disch := omega) only [zU_c, zU_e, zU_k, zF_c, zF_i, zF_o, zW_o, zW_i, zC_c, zC_i, zC_o]); omega)); (case r5 => first | omega | ((simp (disch := omega) only [zU_c, zU_e, zU_k, zF_c, zF_i, zF_o, zW_o, zW_i, zC_c, zC_i, zC_o]); omega)); (case r6 => first | omega | ((simp (disch := omega) only [zU_c, zU_e, zU_k, zF_c, zF_i, zF_o, zW_o, zW_i, zC_c, zC_i, zC_o]); omega)))
    | (with_reducible apply z_7looks; (case a2 => assumption)))
      exact ⟨_, _, rfl, ⟨p, rfl⟩, zX_t hX2 hO2.1, hO2.2.2.1⟩
    exact hfin _ hGs hX3
  · obtain ⟨g1, g2, g3, g4, g5⟩ := hg (by rw [e1]; omega)
    have hbr : ∀ res : Int, 0 ≤ res ∧ res ≤ 2 → zOk (f_X7_isEnough_67 k 50 (zI t) (zI (own : Int)) (zI (won : Int)) (zI i) (zI res) (zI i) 50 (zM m1)) (fun v m1 => (∃ p : Prop, v = zI (zE p)) ∧ zX m m1 ∧ (-1 ≤ m1 50 8 ∧ m1 50 8 < 512)) := fun res hres => by
      unfold f_X7_isEnough_67
      refine s7_bp hR1 (by rw [e1]; omega) hres (zv_l 1) (fun m2 hP2 => ?_)
      repeat' (first
    | (with_reducible apply z_nm; (case he => repeat (with_reducible first | exact zv_l _ | exact zv_r | apply zv_add | apply zv_sub | apply zv_neg | apply zv_and | apply zv_xor)))
    | (with_reducible apply z_b_ck; (case h => with_unfolding_all rfl))
    | (with_reducible apply z_b_R; (case h => first | with_unfolding_all rfl))
    | (with_reducible apply z_PU; (case he => repeat (with_reducible first | exact zv_l _ | exact zv_r | apply zv_add | apply zv_sub | apply zv_neg | apply zv_and | apply zv_xor)); (case h => with_reducible first | exact zp_50_5 _ | exact zp_50_6 _))
    | (with_reducible apply z_PZ; (case he => repeat (with_reducible first | exact zv_l _ | exact zv_r | apply zv_add | apply zv_sub | apply zv_neg | apply zv_and | apply zv_xor)); (case hb => omega); (case h => with_reducible first | exact zpz_50_9 _))
    | (with_reducible apply z_L; (case he => repeat (with_reducible first | exact zv_l _ | exact zv_r | apply zv_add | apply zv_sub | apply zv_neg | apply zv_and | apply zv_xor)); (case hn => with_reducible first | assumption | exact zl_2 | exact zl_5 | exact zl_6 | exact zl_8 | exact zl_9 | exact zl_12 | exact zl_51 | exact zl_54); (case h => omega); (case hy => first | ((simp (disch := omega) only [zU_c, zU_e, zU_k, zF_c, zF_i, zF_o, zW_o, zW_i, zC_c, zC_i, zC_o]); rfl) | rfl))
    | with_reducible refine z_bz ?_
    | with_reducible refine z_bzE ?_
    | (with_reducible apply z_bzl; (case h => omega))
    | (with_reducible apply z_7has; (case e1 => repeat (with_reducible first | exact zv_l _ | exact zv_r | apply zv_add | apply zv_sub | apply zv_neg | apply zv_and | apply zv_xor)); (case e2 => repeat (with_reducible first | exact zv_l _ | exact zv_r | apply zv_add | apply zv_sub | apply zv_neg | apply zv_and | apply zv_xor)); (case r1 => first | omega | ((simp (disch := omega) only [zU_c, zU_e, zU_k, zF_c, zF_i, zF_o, zW_o, zW_i, zC_c, zC_i, zC_o]); omega)); (case r2 => first | omega | ((simp (disch := omega) only [zU_c, zU_e, zU_k, zF_c, zF_i, zF_o, zW_o, zW_i, zC_c, zC_i, zC_o]); omega)))
    | (with_reducible apply z_7leftSet; (case r1 => first | omega | ((simp (disch := omega) only [zU_c, zU_e, zU_k, zF_c, zF_i, zF_o, zW_o, zW_i, zC_c, zC_i, zC_o]); omega)); (case a1 => assumption))
    | (with_reducible apply z_7brings; (case e1 => repeat (with_reducible first | exact zv_l _ | exact zv_r | apply zv_add | apply zv_sub | apply zv_neg | apply zv_and | apply zv_xor)); (case e2 => repeat (with_reducible first | exact zv_l _ | exact zv_r | apply zv_add | apply zv_sub | apply zv_neg | apply zv_and | apply zv_xor)); (case e3 => repeat (with_reducible first | exact zv_l _ | exact zv_r | apply zv_add | apply zv_sub | apply zv_neg | apply zv_and | apply zv_xor)); (case r1 => first | omega | ((simp (disch := omega) only [zU_c, zU_e, zU_k, zF_c, zF_i, zF_o, zW_o, zW_i, zC_c, zC_i, zC_o]); omega)); (case r2 => first | omega | ((simp (disch := omega) only [zU_c, zU_e, zU_k, zF_c, zF_i, zF_o, zW_o, zW_i, zC_c, zC_i, zC_o]); omega)); (case r3 => first | omega | ((simp (disch := omega) only [zU_c, zU_e, zU_k, zF_c, zF_i, zF_o, zW_o, zW_i, zC_c, zC_i, zC_o]); omega)); (case r4 => first | omega | ((simp (disch := omega) only [zU_c, zU_e, zU_k, zF_c, zF_i, zF_o, zW_o, zW_i, zC_c, zC_i, zC_o]); omega)); (case r5 => first | omega | ((simp (disch := omega) only [zU_c, zU_e, zU_k, zF_c, zF_i, zF_o, zW_o, zW_i, zC_c, zC_i, zC_o]); omega)); (case r6 => first | omega | ((simp (disch := omega) only [zU_c, zU_e, zU_k, zF_c, zF_i, zF_o, zW_o, zW_i, zC_c, zC_i, zC_o]); omega)))
    | (with_reducible apply z_7looks; (case a2 => assumption)))
      exact hk _ _ _ (by omega) ⟨i + 1, rfl, by omega, by omega, rfl, zPv_t hP hP2⟩
    refine z_7has rfl (i := i.toNat) (by rw [Int.toNat_of_nonneg h0]) r2 (by omega) ?_
    refine z_B (fun _ => ?_) (fun _ => ?_)
    · repeat' (first
    | (with_reducible apply z_nm; (case he => repeat (with_reducible first | exact zv_l _ | exact zv_r | apply zv_add | apply zv_sub | apply zv_neg | apply zv_and | apply zv_xor)))
    | (with_reducible apply z_b_ck; (case h => with_unfolding_all rfl))
    | (with_reducible apply z_b_R; (case h => first | with_unfolding_all rfl))
    | (with_reducible apply z_PU; (case he => repeat (with_reducible first | exact zv_l _ | exact zv_r | apply zv_add | apply zv_sub | apply zv_neg | apply zv_and | apply zv_xor)); (case h => with_reducible first | exact zp_50_5 _ | exact zp_50_6 _))
    | (with_reducible apply z_PZ; (case he => repeat (with_reducible first | exact zv_l _ | exact zv_r | apply zv_add | apply zv_sub | apply zv_neg | apply zv_and | apply zv_xor)); (case hb => omega); (case h => with_reducible first | exact zpz_50_9 _))
    | (with_reducible apply z_L; (case he => repeat (with_reducible first | exact zv_l _ | exact zv_r | apply zv_add | apply zv_sub | apply zv_neg | apply zv_and | apply zv_xor)); (case hn => with_reducible first | assumption | exact zl_2 | exact zl_5 | exact zl_6 | exact zl_8 | exact zl_9 | exact zl_12 | exact zl_51 | exact zl_54); (case h => omega); (case hy => first | ((simp (disch := omega) only [zU_c, zU_e, zU_k, zF_c, zF_i, zF_o, zW_o, zW_i, zC_c, zC_i, zC_o]); rfl) | rfl))
    | with_reducible refine z_bz ?_
    | with_reducible refine z_bzE ?_
    | (with_reducible apply z_bzl; (case h => omega))
    | (with_reducible apply z_7has; (case e1 => repeat (with_reducible first | exact zv_l _ | exact zv_r | apply zv_add | apply zv_sub | apply zv_neg | apply zv_and | apply zv_xor)); (case e2 => repeat (with_reducible first | exact zv_l _ | exact zv_r | apply zv_add | apply zv_sub | apply zv_neg | apply zv_and | apply zv_xor)); (case r1 => first | omega | ((simp (disch := omega) only [zU_c, zU_e, zU_k, zF_c, zF_i, zF_o, zW_o, zW_i, zC_c, zC_i, zC_o]); omega)); (case r2 => first | omega | ((simp (disch := omega) only [zU_c, zU_e, zU_k, zF_c, zF_i, zF_o, zW_o, zW_i, zC_c, zC_i, zC_o]); omega)))
    | (with_reducible apply z_7leftSet; (case r1 => first | omega | ((simp (disch := omega) only [zU_c, zU_e, zU_k, zF_c, zF_i, zF_o, zW_o, zW_i, zC_c, zC_i, zC_o]); omega)); (case a1 => assumption))
    | (with_reducible apply z_7brings; (case e1 => repeat (with_reducible first | exact zv_l _ | exact zv_r | apply zv_add | apply zv_sub | apply zv_neg | apply zv_and | apply zv_xor)); (case e2 => repeat (with_reducible first | exact zv_l _ | exact zv_r | apply zv_add | apply zv_sub | apply zv_neg | apply zv_and | apply zv_xor)); (case e3 => repeat (with_reducible first | exact zv_l _ | exact zv_r | apply zv_add | apply zv_sub | apply zv_neg | apply zv_and | apply zv_xor)); (case r1 => first | omega | ((simp (disch := omega) only [zU_c, zU_e, zU_k, zF_c, zF_i, zF_o, zW_o, zW_i, zC_c, zC_i, zC_o]); omega)); (case r2 => first | omega | ((simp (disch := omega) only [zU_c, zU_e, zU_k, zF_c, zF_i, zF_o, zW_o, zW_i, zC_c, zC_i, zC_o]); omega)); (case r3 => first | omega | ((simp (disch := omega) only [zU_c, zU_e, zU_k, zF_c, zF_i, zF_o, zW_o, zW_i, zC_c, zC_i, zC_o]); omega)); (case r4 => first | omega | ((simp (disch := omega) only [zU_c, zU_e, zU_k, zF_c, zF_i, zF_o, zW_o, zW_i, zC_c, zC_i, zC_o]); omega)); (case r5 => first | omega | ((simp (disch := omega) only [zU_c, zU_e, zU_k, zF_c, zF_i, zF_o, zW_o, zW_i, zC_c, zC_i, zC_o]); omega)); (case r6 => first | omega | ((simp (disch := omega) only [zU_c, zU_e, zU_k, zF_c, zF_i, zF_o, zW_o, zW_i, zC_c, zC_i, zC_o]); omega)))
    | (with_reducible apply z_7looks; (case a2 => assumption)))
      exact hk _ _ _ (by omega) ⟨i + 1, rfl, by omega, by omega, rfl, hP⟩
    · (first
    | (with_reducible apply z_nm; (case he => repeat (with_reducible first | exact zv_l _ | exact zv_r | apply zv_add | apply zv_sub | apply zv_neg | apply zv_and | apply zv_xor)))
    | (with_reducible apply z_b_ck; (case h => with_unfolding_all rfl))
    | (with_reducible apply z_b_R; (case h => first | with_unfolding_all rfl))
    | (with_reducible apply z_PU; (case he => repeat (with_reducible first | exact zv_l _ | exact zv_r | apply zv_add | apply zv_sub | apply zv_neg | apply zv_and | apply zv_xor)); (case h => with_reducible first | exact zp_50_5 _ | exact zp_50_6 _))
    | (with_reducible apply z_PZ; (case he => repeat (with_reducible first | exact zv_l _ | exact zv_r | apply zv_add | apply zv_sub | apply zv_neg | apply zv_and | apply zv_xor)); (case hb => omega); (case h => with_reducible first | exact zpz_50_9 _))
    | (with_reducible apply z_L; (case he => repeat (with_reducible first | exact zv_l _ | exact zv_r | apply zv_add | apply zv_sub | apply zv_neg | apply zv_and | apply zv_xor)); (case hn => with_reducible first | assumption | exact zl_2 | exact zl_5 | exact zl_6 | exact zl_8 | exact zl_9 | exact zl_12 | exact zl_51 | exact zl_54); (case h => omega); (case hy => first | ((simp (disch := omega) only [zU_c, zU_e, zU_k, zF_c, zF_i, zF_o, zW_o, zW_i, zC_c, zC_i, zC_o]); rfl) | rfl))
    | with_reducible refine z_bz ?_
    | with_reducible refine z_bzE ?_
    | (with_reducible apply z_bzl; (case h => omega))
    | (with_reducible apply z_7has; (case e1 => repeat (with_reducible first | exact zv_l _ | exact zv_r | apply zv_add | apply zv_sub | apply zv_neg | apply zv_and | apply zv_xor)); (case e2 => repeat (with_reducible first | exact zv_l _ | exact zv_r | apply zv_add | apply zv_sub | apply zv_neg | apply zv_and | apply zv_xor)); (case r1 => first | omega | ((simp (disch := omega) only [zU_c, zU_e, zU_k, zF_c, zF_i, zF_o, zW_o, zW_i, zC_c, zC_i, zC_o]); omega)); (case r2 => first | omega | ((simp (disch := omega) only [zU_c, zU_e, zU_k, zF_c, zF_i, zF_o, zW_o, zW_i, zC_c, zC_i, zC_o]); omega)))
    | (with_reducible apply z_7leftSet; (case r1 => first | omega | ((simp (disch := omega) only [zU_c, zU_e, zU_k, zF_c, zF_i, zF_o, zW_o, zW_i, zC_c, zC_i, zC_o]); omega)); (case a1 => assumption))
    | (with_reducible apply z_7brings; (case e1 => repeat (with_reducible first | exact zv_l _ | exact zv_r | apply zv_add | apply zv_sub | apply zv_neg | apply zv_and | apply zv_xor)); (case e2 => repeat (with_reducible first | exact zv_l _ | exact zv_r | apply zv_add | apply zv_sub | apply zv_neg | apply zv_and | apply zv_xor)); (case e3 => repeat (with_reducible first | exact zv_l _ | exact zv_r | apply zv_add | apply zv_sub | apply zv_neg | apply zv_and | apply zv_xor)); (case r1 => first | omega | ((simp (disch := omega) only [zU_c, zU_e, zU_k, zF_c, zF_i, zF_o, zW_o, zW_i, zC_c, zC_i, zC_o]); omega)); (case r2 => first | omega | ((simp (disch := omega) only [zU_c, zU_e, zU_k, zF_c, zF_i, zF_o, zW_o, zW_i, zC_c, zC_i, zC_o]); omega)); (case r3 => first | omega | ((simp (disch := omega) only [zU_c, zU_e, zU_k, zF_c, zF_i, zF_o, zW_o, zW_i, zC_c, zC_i, zC_o]); omega)); (case r4 => first | omega | ((simp (disch := omega) only [zU_c, zU_e, zU_k, zF_c, zF_i, zF_o, zW_o, zW_i, zC_c, zC_i, zC_o]); omega)); (case r5 => first | omega | ((simp (disch := omega) only [zU_c, zU_e, zU_k, zF_c, zF_i, zF_o, zW_o, zW_i, zC_c, zC_i, zC_o]); omega)); (case r6 => first | omega | ((simp (disch := omega) only [zU_c, zU_e, zU_k, zF_c, zF_i, zF_o, zW_o, zW_i, zC_c, zC_i, zC_o]); omega)))
    | (with_reducible apply z_7looks; (case a2 => assumption)))
      (first
    | (with_reducible apply z_nm; (case he => repeat (with_reducible first | exact zv_l _ | exact zv_r | apply zv_add | apply zv_sub | apply zv_neg | apply zv_and | apply zv_xor)))
    | (with_reducible apply z_b_ck; (case h => with_unfolding_all rfl))
    | (with_reducible apply z_b_R; (case h => first | with_unfolding_all rfl))
    | (with_reducible apply z_PU; (case he => repeat (with_reducible first | exact zv_l _ | exact zv_r | apply zv_add | apply zv_sub | apply zv_neg | apply zv_and | apply zv_xor)); (case h => with_reducible first | exact zp_50_5 _ | exact zp_50_6 _))
    | (with_reducible apply z_PZ; (case he => repeat (with_reducible first | exact zv_l _ | exact zv_r | apply zv_add | apply zv_sub | apply zv_neg | apply zv_and | apply zv_xor)); (case hb => omega); (case h => with_reducible first | exact zpz_50_9 _))
    | (with_reducible apply z_L; (case he => repeat (with_reducible first | exact zv_l _ | exact zv_r | apply zv_add | apply zv_sub | apply zv_neg | apply zv_and | apply zv_xor)); (case hn => with_reducible first | assumption | exact zl_2 | exact zl_5 | exact zl_6 | exact zl_8 | exact zl_9 | exact zl_12 | exact zl_51 | exact zl_54); (case h => omega); (case hy => first | ((simp (disch := omega) only [zU_c, zU_e, zU_k, zF_c, zF_i, zF_o, zW_o, zW_i, zC_c, zC_i, zC_o]); rfl) | rfl))
    | with_reducible refine z_bz ?_
    | with_reducible refine z_bzE ?_
    | (with_reducible apply z_bzl; (case h => omega))
    | (with_reducible apply z_7has; (case e1 => repeat (with_reducible first | exact zv_l _ | exact zv_r | apply zv_add | apply zv_sub | apply zv_neg | apply zv_and | apply zv_xor)); (case e2 => repeat (with_reducible first | exact zv_l _ | exact zv_r | apply zv_add | apply zv_sub | apply zv_neg | apply zv_and | apply zv_xor)); (case r1 => first | omega | ((simp (disch := omega) only [zU_c, zU_e, zU_k, zF_c, zF_i, zF_o, zW_o, zW_i, zC_c, zC_i, zC_o]); omega)); (case r2 => first | omega | ((simp (disch := omega) only [zU_c, zU_e, zU_k, zF_c, zF_i, zF_o, zW_o, zW_i, zC_c, zC_i, zC_o]); omega)))
    | (with_reducible apply z_7leftSet; (case r1 => first | omega | ((simp (disch := omega) only [zU_c, zU_e, zU_k, zF_c, zF_i, zF_o, zW_o, zW_i, zC_c, zC_i, zC_o]); omega)); (case a1 => assumption))
    | (with_reducible apply z_7brings; (case e1 => repeat (with_reducible first | exact zv_l _ | exact zv_r | apply zv_add | apply zv_sub | apply zv_neg | apply zv_and | apply zv_xor)); (case e2 => repeat (with_reducible first | exact zv_l _ | exact zv_r | apply zv_add | apply zv_sub | apply zv_neg | apply zv_and | apply zv_xor)); (case e3 => repeat (with_reducible first | exact zv_l _ | exact zv_r | apply zv_add | apply zv_sub | apply zv_neg | apply zv_and | apply zv_xor)); (case r1 => first | omega | ((simp (disch := omega) only [zU_c, zU_e, zU_k, zF_c, zF_i, zF_o, zW_o, zW_i, zC_c, zC_i, zC_o]); omega)); (case r2 => first | omega | ((simp (disch := omega) only [zU_c, zU_e, zU_k, zF_c, zF_i, zF_o, zW_o, zW_i, zC_c, zC_i, zC_o]); omega)); (case r3 => first | omega | ((simp (disch := omega) only [zU_c, zU_e, zU_k, zF_c, zF_i, zF_o, zW_o, zW_i, zC_c, zC_i, zC_o]); omega)); (case r4 => first | omega | ((simp (disch := omega) only [zU_c, zU_e, zU_k, zF_c, zF_i, zF_o, zW_o, zW_i, zC_c, zC_i, zC_o]); omega)); (case r5 => first | omega | ((simp (disch := omega) only [zU_c, zU_e, zU_k, zF_c, zF_i, zF_o, zW_o, zW_i, zC_c, zC_i, zC_o]); omega)); (case r6 => first | omega | ((simp (disch := omega) only [zU_c, zU_e, zU_k, zF_c, zF_i, zF_o, zW_o, zW_i, zC_c, zC_i, zC_o]); omega)))
    | (with_reducible apply z_7looks; (case a2 => assumption)))
      unfold f_X7_isEnough_46
      refine z_ite (fun _ => ?_) (fun _ => ?_)
      · refine z_7has rfl (i := i.toNat) (by rw [Int.toNat_of_nonneg h0]) r3 (by omega) ?_
        refine z_ite (fun _ => ?_) (fun _ => ?_)
        · exact hbr 1 (by omega)
        · exact hbr 2 (by omega)
      · refine z_7has rfl (i := i.toNat) (by rw [Int.toNat_of_nonneg h0]) r3 (by omega) ?_
        refine z_ite (fun _ => ?_) (fun _ => ?_)
        · exact hbr 1 (by omega)
        · exact hbr 2 (by omega)
theorem z_7isEnough {m : zMe} {e1 e2 e3 : Int32} {t : Int} {own won : Nat} (e4 : e1 = zI t) (e5 : e2 = zI (own : Int)) (e6 : e3 = zI (won : Int)) (r1 : 0 ≤ t ∧ t < 6) (r2 : own < 512) (r3 : won < 512) (a1 : zRw m) (r4 : -1 ≤ m 50 8 ∧ m 50 8 < 512) {α : Type} {kf : Int32 × Hp → Option (α × Hp)} {Q : α → zMe → Prop} (K : ∀ (v : Int32) (m1 : zMe), (fun v m1 => (∃ p : Prop, v = zI (zE p)) ∧ zX m m1 ∧ (-1 ≤ m1 50 8 ∧ m1 50 8 < 512)) v m1 → zOk (kf (v, zM m1)) Q) : zOk ((f_X7_isEnough 50 e1 e2 e3 (zM m)).bind kf) Q := z_call (s_7isEnough e4 e5 e6 r1 r2 r3 a1 r4) K
set_option maxRecDepth 100000 in
set_option maxHeartbeats 1000000 in
theorem s_7needs {m : zMe} {e1 e2 : Int32} {t x : Int} (e3 : e1 = zI t) (e4 : e2 = zI x) (r1 : -2147483648 ≤ t ∧ t < 2147483648) (r2 : -2147483648 ≤ x ∧ x < 2147483648) (a1 : zRw m) (r4 : -1 ≤ m 50 8 ∧ m 50 8 < 512) : zOk (f_X7_needs 50 e1 e2 (zM m)) (fun (_ : Int32) m1 => zY m m1) := by
  subst e3; subst e4
  have hT := a1.1.1
  unfold f_X7_needs
  (first
    | (with_reducible apply z_nm; (case he => repeat (with_reducible first | exact zv_l _ | exact zv_r | apply zv_add | apply zv_sub | apply zv_neg | apply zv_and | apply zv_xor)))
    | (with_reducible apply z_b_ck; (case h => with_unfolding_all rfl))
    | (with_reducible apply z_in; (case hA => first | with_reducible exact zj_l _ (by decide) | with_reducible exact zj_m1 | (with_reducible apply zj_e; repeat (with_reducible first | exact zv_l _ | exact zv_r | apply zv_add | apply zv_sub | apply zv_neg | apply zv_and | apply zv_xor))); (case hL => first | with_reducible exact zj_l _ (by decide) | with_reducible exact zj_m1 | (with_reducible apply zj_e; repeat (with_reducible first | exact zv_l _ | exact zv_r | apply zv_add | apply zv_sub | apply zv_neg | apply zv_and | apply zv_xor))); (case hH => first | with_reducible exact zj_l _ (by decide) | with_reducible exact zj_m1 | (with_reducible apply zj_e; repeat (with_reducible first | exact zv_l _ | exact zv_r | apply zv_add | apply zv_sub | apply zv_neg | apply zv_and | apply zv_xor))); (case rx => omega); (case rl => omega); (case rh => omega))
    | (with_reducible apply z_7ones; (case e1 => repeat (with_reducible first | exact zv_l _ | exact zv_r | apply zv_add | apply zv_sub | apply zv_neg | apply zv_and | apply zv_xor)); (case r1 => first | omega | ((simp (disch := omega) only [zU_c, zU_e, zU_k, zF_c, zF_i, zF_o, zW_o, zW_i, zC_c, zC_i, zC_o]); omega)))
    | (with_reducible apply z_7isTeam; (case e1 => repeat (with_reducible first | exact zv_l _ | exact zv_r | apply zv_add | apply zv_sub | apply zv_neg | apply zv_and | apply zv_xor)); (case r1 => first | omega | ((simp (disch := omega) only [zU_c, zU_e, zU_k, zF_c, zF_i, zF_o, zW_o, zW_i, zC_c, zC_i, zC_o]); omega)); (case r2 => first | omega | ((simp (disch := omega) only [zU_c, zU_e, zU_k, zF_c, zF_i, zF_o, zW_o, zW_i, zC_c, zC_i, zC_o]); omega)))
    | (with_reducible apply z_7ownLeft; (case e1 => repeat (with_reducible first | exact zv_l _ | exact zv_r | apply zv_add | apply zv_sub | apply zv_neg | apply zv_and | apply zv_xor)); (case r2 => first | omega | ((simp (disch := omega) only [zU_c, zU_e, zU_k, zF_c, zF_i, zF_o, zW_o, zW_i, zC_c, zC_i, zC_o]); omega)); (case a2 => assumption); (case a1 => assumption))
    | (with_reducible apply z_7looks; (case a2 => assumption))
    | (with_reducible apply z_7isEnough; (case e4 => repeat (with_reducible first | exact zv_l _ | exact zv_r | apply zv_add | apply zv_sub | apply zv_neg | apply zv_and | apply zv_xor)); (case e5 => repeat (with_reducible first | exact zv_l _ | exact zv_r | apply zv_add | apply zv_sub | apply zv_neg | apply zv_and | apply zv_xor)); (case e6 => repeat (with_reducible first | exact zv_l _ | exact zv_r | apply zv_add | apply zv_sub | apply zv_neg | apply zv_and | apply zv_xor)); (case r1 => first | omega | ((simp (disch := omega) only [zU_c, zU_e, zU_k, zF_c, zF_i, zF_o, zW_o, zW_i, zC_c, zC_i, zC_o]); omega)); (case r2 => first | omega | ((simp (disch := omega) only [zU_c, zU_e, zU_k, zF_c, zF_i, zF_o, zW_o, zW_i, zC_c, zC_i, zC_o]); omega)); (case r3 => first | omega | ((simp (disch := omega) only [zU_c, zU_e, zU_k, zF_c, zF_i, zF_o, zW_o, zW_i, zC_c, zC_i, zC_o]); omega)); (case a1 => assumption); (case r4 => first | omega | ((simp (disch := omega) only [zU_c, zU_e, zU_k, zF_c, zF_i, zF_o, zW_o, zW_i, zC_c, zC_i, zC_o]); omega)); intro _ _ _))
  refine z_7isTeam rfl r1 hT ?_
  (first
    | (with_reducible apply z_B; all_goals (intro _; try (exfalso; omega)))
    | (with_reducible apply z_E; all_goals intro _)
    | (with_reducible apply z_lt; (case ha => repeat (with_reducible first | exact zv_l _ | exact zv_r | apply zv_add | apply zv_sub | apply zv_neg | apply zv_and | apply zv_xor)); (case hb => repeat (with_reducible first | exact zv_l _ | exact zv_r | apply zv_add | apply zv_sub | apply zv_neg | apply zv_and | apply zv_xor)); (case hx => omega); (case hy => omega); all_goals (intro _; try (exfalso; omega)))
    | (with_reducible apply z_le; (case ha => repeat (with_reducible first | exact zv_l _ | exact zv_r | apply zv_add | apply zv_sub | apply zv_neg | apply zv_and | apply zv_xor)); (case hb => repeat (with_reducible first | exact zv_l _ | exact zv_r | apply zv_add | apply zv_sub | apply zv_neg | apply zv_and | apply zv_xor)); (case hx => omega); (case hy => omega); all_goals (intro _; try (exfalso; omega)))
    | (with_reducible apply z_eq; (case ha => repeat (with_reducible first | exact zv_l _ | exact zv_r | apply zv_add | apply zv_sub | apply zv_neg | apply zv_and | apply zv_xor)); (case hb => repeat (with_reducible first | exact zv_l _ | exact zv_r | apply zv_add | apply zv_sub | apply zv_neg | apply zv_and | apply zv_xor)); (case hx => omega); (case hy => omega); all_goals (intro _; try (exfalso; omega))))
  · exact ⟨_, _, rfl, zY_r _⟩
  · rename_i hq
    (first
    | (with_reducible apply z_nm; (case he => repeat (with_reducible first | exact zv_l _ | exact zv_r | apply zv_add | apply zv_sub | apply zv_neg | apply zv_and | apply zv_xor)))
    | (with_reducible apply z_b_ck; (case h => with_unfolding_all rfl))
    | (with_reducible apply z_in; (case hA => first | with_reducible exact zj_l _ (by decide) | with_reducible exact zj_m1 | (with_reducible apply zj_e; repeat (with_reducible first | exact zv_l _ | exact zv_r | apply zv_add | apply zv_sub | apply zv_neg | apply zv_and | apply zv_xor))); (case hL => first | with_reducible exact zj_l _ (by decide) | with_reducible exact zj_m1 | (with_reducible apply zj_e; repeat (with_reducible first | exact zv_l _ | exact zv_r | apply zv_add | apply zv_sub | apply zv_neg | apply zv_and | apply zv_xor))); (case hH => first | with_reducible exact zj_l _ (by decide) | with_reducible exact zj_m1 | (with_reducible apply zj_e; repeat (with_reducible first | exact zv_l _ | exact zv_r | apply zv_add | apply zv_sub | apply zv_neg | apply zv_and | apply zv_xor))); (case rx => omega); (case rl => omega); (case rh => omega))
    | (with_reducible apply z_7ones; (case e1 => repeat (with_reducible first | exact zv_l _ | exact zv_r | apply zv_add | apply zv_sub | apply zv_neg | apply zv_and | apply zv_xor)); (case r1 => first | omega | ((simp (disch := omega) only [zU_c, zU_e, zU_k, zF_c, zF_i, zF_o, zW_o, zW_i, zC_c, zC_i, zC_o]); omega)))
    | (with_reducible apply z_7isTeam; (case e1 => repeat (with_reducible first | exact zv_l _ | exact zv_r | apply zv_add | apply zv_sub | apply zv_neg | apply zv_and | apply zv_xor)); (case r1 => first | omega | ((simp (disch := omega) only [zU_c, zU_e, zU_k, zF_c, zF_i, zF_o, zW_o, zW_i, zC_c, zC_i, zC_o]); omega)); (case r2 => first | omega | ((simp (disch := omega) only [zU_c, zU_e, zU_k, zF_c, zF_i, zF_o, zW_o, zW_i, zC_c, zC_i, zC_o]); omega)))
    | (with_reducible apply z_7ownLeft; (case e1 => repeat (with_reducible first | exact zv_l _ | exact zv_r | apply zv_add | apply zv_sub | apply zv_neg | apply zv_and | apply zv_xor)); (case r2 => first | omega | ((simp (disch := omega) only [zU_c, zU_e, zU_k, zF_c, zF_i, zF_o, zW_o, zW_i, zC_c, zC_i, zC_o]); omega)); (case a2 => assumption); (case a1 => assumption))
    | (with_reducible apply z_7looks; (case a2 => assumption))
    | (with_reducible apply z_7isEnough; (case e4 => repeat (with_reducible first | exact zv_l _ | exact zv_r | apply zv_add | apply zv_sub | apply zv_neg | apply zv_and | apply zv_xor)); (case e5 => repeat (with_reducible first | exact zv_l _ | exact zv_r | apply zv_add | apply zv_sub | apply zv_neg | apply zv_and | apply zv_xor)); (case e6 => repeat (with_reducible first | exact zv_l _ | exact zv_r | apply zv_add | apply zv_sub | apply zv_neg | apply zv_and | apply zv_xor)); (case r1 => first | omega | ((simp (disch := omega) only [zU_c, zU_e, zU_k, zF_c, zF_i, zF_o, zW_o, zW_i, zC_c, zC_i, zC_o]); omega)); (case r2 => first | omega | ((simp (disch := omega) only [zU_c, zU_e, zU_k, zF_c, zF_i, zF_o, zW_o, zW_i, zC_c, zC_i, zC_o]); omega)); (case r3 => first | omega | ((simp (disch := omega) only [zU_c, zU_e, zU_k, zF_c, zF_i, zF_o, zW_o, zW_i, zC_c, zC_i, zC_o]); omega)); (case a1 => assumption); (case r4 => first | omega | ((simp (disch := omega) only [zU_c, zU_e, zU_k, zF_c, zF_i, zF_o, zW_o, zW_i, zC_c, zC_i, zC_o]); omega)); intro _ _ _))
    (first
    | (with_reducible apply z_B; all_goals (intro _; try (exfalso; omega)))
    | (with_reducible apply z_E; all_goals intro _)
    | (with_reducible apply z_lt; (case ha => repeat (with_reducible first | exact zv_l _ | exact zv_r | apply zv_add | apply zv_sub | apply zv_neg | apply zv_and | apply zv_xor)); (case hb => repeat (with_reducible first | exact zv_l _ | exact zv_r | apply zv_add | apply zv_sub | apply zv_neg | apply zv_and | apply zv_xor)); (case hx => omega); (case hy => omega); all_goals (intro _; try (exfalso; omega)))
    | (with_reducible apply z_le; (case ha => repeat (with_reducible first | exact zv_l _ | exact zv_r | apply zv_add | apply zv_sub | apply zv_neg | apply zv_and | apply zv_xor)); (case hb => repeat (with_reducible first | exact zv_l _ | exact zv_r | apply zv_add | apply zv_sub | apply zv_neg | apply zv_and | apply zv_xor)); (case hx => omega); (case hy => omega); all_goals (intro _; try (exfalso; omega)))
    | (with_reducible apply z_eq; (case ha => repeat (with_reducible first | exact zv_l _ | exact zv_r | apply zv_add | apply zv_sub | apply zv_neg | apply zv_and | apply zv_xor)); (case hb => repeat (with_reducible first | exact zv_l _ | exact zv_r | apply zv_add | apply zv_sub | apply zv_neg | apply zv_and | apply zv_xor)); (case hx => omega); (case hy => omega); all_goals (intro _; try (exfalso; omega))))
    · exact ⟨_, _, rfl, zY_r _⟩
    · refine s7_lk a1 (fun M hY hR hA => ?_)
      have hN := hR.1.2.1
      refine z_7ownLeft rfl r1 hR hA ?_
      have hown : zOwn (zV M) 3 t < 512 := zOwn_lt (m := zV M) (r := 3) hN
      generalize zOwn (zV M) 3 t = own at hown
      refine z_lp (fun n v m1 => ∃ (b : Int) (s : Nat), v = (50, zI t, zI x, zI (own : Int), zI b, zI (s : Int)) ∧ (b = -1 ∨ ∃ c : Nat, c < 512 ∧ b = (c : Int)) ∧ s ≤ 512 ∧ n = 512 - s ∧ zY m m1) (fun _ _ _ m1 => zY m m1) ?_ 600 512 _ _ (by omega) ⟨-1, 0, rfl, Or.inl rfl, by omega, by omega, hY⟩
      rintro n v m1 k ⟨b, s, rfl, hb, hs, rfl, hY1⟩ hk
      have hR1 := zRw_X (zX_51 hY1.1) a1
      have h8 := hY1.2 r4
      have hbr : -1 ≤ b ∧ b < 512 := by
        rcases hb with rfl | ⟨c, hc, rfl⟩ <;> omega
      have h76 : s < 512 → zOk (f_X7_needs_76 k 50 (zI t) (zI x) (zI (own : Int)) (zI b) (zI (s : Int)) (zM m1)) (fun (_ : Int32) m1 => zY m m1) := fun hs => by
        unfold f_X7_needs_76 f_X7_needs_77
        (first
    | (with_reducible apply z_B; all_goals (intro _; try (exfalso; omega)))
    | (with_reducible apply z_E; all_goals intro _)
    | (with_reducible apply z_lt; (case ha => repeat (with_reducible first | exact zv_l _ | exact zv_r | apply zv_add | apply zv_sub | apply zv_neg | apply zv_and | apply zv_xor)); (case hb => repeat (with_reducible first | exact zv_l _ | exact zv_r | apply zv_add | apply zv_sub | apply zv_neg | apply zv_and | apply zv_xor)); (case hx => omega); (case hy => omega); all_goals (intro _; try (exfalso; omega)))
    | (with_reducible apply z_le; (case ha => repeat (with_reducible first | exact zv_l _ | exact zv_r | apply zv_add | apply zv_sub | apply zv_neg | apply zv_and | apply zv_xor)); (case hb => repeat (with_reducible first | exact zv_l _ | exact zv_r | apply zv_add | apply zv_sub | apply zv_neg | apply zv_and | apply zv_xor)); (case hx => omega); (case hy => omega); all_goals (intro _; try (exfalso; omega)))
    | (with_reducible apply z_eq; (case ha => repeat (with_reducible first | exact zv_l _ | exact zv_r | apply zv_add | apply zv_sub | apply zv_neg | apply zv_and | apply zv_xor)); (case hb => repeat (with_reducible first | exact zv_l _ | exact zv_r | apply zv_add | apply zv_sub | apply zv_neg | apply zv_and | apply zv_xor)); (case hx => omega); (case hy => omega); all_goals (intro _; try (exfalso; omega))))
        repeat' (first
    | (with_reducible apply z_nm; (case he => repeat (with_reducible first | exact zv_l _ | exact zv_r | apply zv_add | apply zv_sub | apply zv_neg | apply zv_and | apply zv_xor)))
    | (with_reducible apply z_b_ck; (case h => with_unfolding_all rfl))
    | (with_reducible apply z_in; (case hA => first | with_reducible exact zj_l _ (by decide) | with_reducible exact zj_m1 | (with_reducible apply zj_e; repeat (with_reducible first | exact zv_l _ | exact zv_r | apply zv_add | apply zv_sub | apply zv_neg | apply zv_and | apply zv_xor))); (case hL => first | with_reducible exact zj_l _ (by decide) | with_reducible exact zj_m1 | (with_reducible apply zj_e; repeat (with_reducible first | exact zv_l _ | exact zv_r | apply zv_add | apply zv_sub | apply zv_neg | apply zv_and | apply zv_xor))); (case hH => first | with_reducible exact zj_l _ (by decide) | with_reducible exact zj_m1 | (with_reducible apply zj_e; repeat (with_reducible first | exact zv_l _ | exact zv_r | apply zv_add | apply zv_sub | apply zv_neg | apply zv_and | apply zv_xor))); (case rx => omega); (case rl => omega); (case rh => omega))
    | (with_reducible apply z_7ones; (case e1 => repeat (with_reducible first | exact zv_l _ | exact zv_r | apply zv_add | apply zv_sub | apply zv_neg | apply zv_and | apply zv_xor)); (case r1 => first | omega | ((simp (disch := omega) only [zU_c, zU_e, zU_k, zF_c, zF_i, zF_o, zW_o, zW_i, zC_c, zC_i, zC_o]); omega)))
    | (with_reducible apply z_7isTeam; (case e1 => repeat (with_reducible first | exact zv_l _ | exact zv_r | apply zv_add | apply zv_sub | apply zv_neg | apply zv_and | apply zv_xor)); (case r1 => first | omega | ((simp (disch := omega) only [zU_c, zU_e, zU_k, zF_c, zF_i, zF_o, zW_o, zW_i, zC_c, zC_i, zC_o]); omega)); (case r2 => first | omega | ((simp (disch := omega) only [zU_c, zU_e, zU_k, zF_c, zF_i, zF_o, zW_o, zW_i, zC_c, zC_i, zC_o]); omega)))
    | (with_reducible apply z_7ownLeft; (case e1 => repeat (with_reducible first | exact zv_l _ | exact zv_r | apply zv_add | apply zv_sub | apply zv_neg | apply zv_and | apply zv_xor)); (case r2 => first | omega | ((simp (disch := omega) only [zU_c, zU_e, zU_k, zF_c, zF_i, zF_o, zW_o, zW_i, zC_c, zC_i, zC_o]); omega)); (case a2 => assumption); (case a1 => assumption))
    | (with_reducible apply z_7looks; (case a2 => assumption))
    | (with_reducible apply z_7isEnough; (case e4 => repeat (with_reducible first | exact zv_l _ | exact zv_r | apply zv_add | apply zv_sub | apply zv_neg | apply zv_and | apply zv_xor)); (case e5 => repeat (with_reducible first | exact zv_l _ | exact zv_r | apply zv_add | apply zv_sub | apply zv_neg | apply zv_and | apply zv_xor)); (case e6 => repeat (with_reducible first | exact zv_l _ | exact zv_r | apply zv_add | apply zv_sub | apply zv_neg | apply zv_and | apply zv_xor)); (case r1 => first | omega | ((simp (disch := omega) only [zU_c, zU_e, zU_k, zF_c, zF_i, zF_o, zW_o, zW_i, zC_c, zC_i, zC_o]); omega)); (case r2 => first | omega | ((simp (disch := omega) only [zU_c, zU_e, zU_k, zF_c, zF_i, zF_o, zW_o, zW_i, zC_c, zC_i, zC_o]); omega)); (case r3 => first | omega | ((simp (disch := omega) only [zU_c, zU_e, zU_k, zF_c, zF_i, zF_o, zW_o, zW_i, zC_c, zC_i, zC_o]); omega)); (case a1 => assumption); (case r4 => first | omega | ((simp (disch := omega) only [zU_c, zU_e, zU_k, zF_c, zF_i, zF_o, zW_o, zW_i, zC_c, zC_i, zC_o]); omega)); intro _ _ _))
        exact hk _ _ _ (by omega) ⟨b, s + 1, rfl, hb, by omega, rfl, hY1⟩
      have h72 : s < 512 → zOk (f_X7_needs_72 k 50 (zI t) (zI x) (zI (own : Int)) (zI b) (zI (s : Int)) (zM m1)) (fun (_ : Int32) m1 => zY m m1) := fun hs => by
        unfold f_X7_needs_72 f_X7_needs_77
        (first
    | (with_reducible apply z_B; all_goals (intro _; try (exfalso; omega)))
    | (with_reducible apply z_E; all_goals intro _)
    | (with_reducible apply z_lt; (case ha => repeat (with_reducible first | exact zv_l _ | exact zv_r | apply zv_add | apply zv_sub | apply zv_neg | apply zv_and | apply zv_xor)); (case hb => repeat (with_reducible first | exact zv_l _ | exact zv_r | apply zv_add | apply zv_sub | apply zv_neg | apply zv_and | apply zv_xor)); (case hx => omega); (case hy => omega); all_goals (intro _; try (exfalso; omega)))
    | (with_reducible apply z_le; (case ha => repeat (with_reducible first | exact zv_l _ | exact zv_r | apply zv_add | apply zv_sub | apply zv_neg | apply zv_and | apply zv_xor)); (case hb => repeat (with_reducible first | exact zv_l _ | exact zv_r | apply zv_add | apply zv_sub | apply zv_neg | apply zv_and | apply zv_xor)); (case hx => omega); (case hy => omega); all_goals (intro _; try (exfalso; omega)))
    | (with_reducible apply z_eq; (case ha => repeat (with_reducible first | exact zv_l _ | exact zv_r | apply zv_add | apply zv_sub | apply zv_neg | apply zv_and | apply zv_xor)); (case hb => repeat (with_reducible first | exact zv_l _ | exact zv_r | apply zv_add | apply zv_sub | apply zv_neg | apply zv_and | apply zv_xor)); (case hx => omega); (case hy => omega); all_goals (intro _; try (exfalso; omega))))
        refine z_7isEnough rfl rfl rfl (by omega) hown hs hR1 h8 (fun v m2 hv => ?_)
        obtain ⟨⟨p, rfl⟩, hX2, h82⟩ := hv
        have hY2 := zY_t hY1 ⟨hX2, fun _ => h82⟩
        refine z_E (fun _ => ?_) (fun _ => ?_)
        · repeat' (first
    | (with_reducible apply z_nm; (case he => repeat (with_reducible first | exact zv_l _ | exact zv_r | apply zv_add | apply zv_sub | apply zv_neg | apply zv_and | apply zv_xor)))
    | (with_reducible apply z_b_ck; (case h => with_unfolding_all rfl))
    | (with_reducible apply z_in; (case hA => first | with_reducible exact zj_l _ (by decide) | with_reducible exact zj_m1 | (with_reducible apply zj_e; repeat (with_reducible first | exact zv_l _ | exact zv_r | apply zv_add | apply zv_sub | apply zv_neg | apply zv_and | apply zv_xor))); (case hL => first | with_reducible exact zj_l _ (by decide) | with_reducible exact zj_m1 | (with_reducible apply zj_e; repeat (with_reducible first | exact zv_l _ | exact zv_r | apply zv_add | apply zv_sub | apply zv_neg | apply zv_and | apply zv_xor))); (case hH => first | with_reducible exact zj_l _ (by decide) | with_reducible exact zj_m1 | (with_reducible apply zj_e; repeat (with_reducible first | exact zv_l _ | exact zv_r | apply zv_add | apply zv_sub | apply zv_neg | apply zv_and | apply zv_xor))); (case rx => omega); (case rl => omega); (case rh => omega))
    | (with_reducible apply z_7ones; (case e1 => repeat (with_reducible first | exact zv_l _ | exact zv_r | apply zv_add | apply zv_sub | apply zv_neg | apply zv_and | apply zv_xor)); (case r1 => first | omega | ((simp (disch := omega) only [zU_c, zU_e, zU_k, zF_c, zF_i, zF_o, zW_o, zW_i, zC_c, zC_i, zC_o]); omega)))
    | (with_reducible apply z_7isTeam; (case e1 => repeat (with_reducible first | exact zv_l _ | exact zv_r | apply zv_add | apply zv_sub | apply zv_neg | apply zv_and | apply zv_xor)); (case r1 => first | omega | ((simp (disch := omega) only [zU_c, zU_e, zU_k, zF_c, zF_i, zF_o, zW_o, zW_i, zC_c, zC_i, zC_o]); omega)); (case r2 => first | omega | ((simp (disch := omega) only [zU_c, zU_e, zU_k, zF_c, zF_i, zF_o, zW_o, zW_i, zC_c, zC_i, zC_o]); omega)))
    | (with_reducible apply z_7ownLeft; (case e1 => repeat (with_reducible first | exact zv_l _ | exact zv_r | apply zv_add | apply zv_sub | apply zv_neg | apply zv_and | apply zv_xor)); (case r2 => first | omega | ((simp (disch := omega) only [zU_c, zU_e, zU_k, zF_c, zF_i, zF_o, zW_o, zW_i, zC_c, zC_i, zC_o]); omega)); (case a2 => assumption); (case a1 => assumption))
    | (with_reducible apply z_7looks; (case a2 => assumption))
    | (with_reducible apply z_7isEnough; (case e4 => repeat (with_reducible first | exact zv_l _ | exact zv_r | apply zv_add | apply zv_sub | apply zv_neg | apply zv_and | apply zv_xor)); (case e5 => repeat (with_reducible first | exact zv_l _ | exact zv_r | apply zv_add | apply zv_sub | apply zv_neg | apply zv_and | apply zv_xor)); (case e6 => repeat (with_reducible first | exact zv_l _ | exact zv_r | apply zv_add | apply zv_sub | apply zv_neg | apply zv_and | apply zv_xor)); (case r1 => first | omega | ((simp (disch := omega) only [zU_c, zU_e, zU_k, zF_c, zF_i, zF_o, zW_o, zW_i, zC_c, zC_i, zC_o]); omega)); (case r2 => first | omega | ((simp (disch := omega) only [zU_c, zU_e, zU_k, zF_c, zF_i, zF_o, zW_o, zW_i, zC_c, zC_i, zC_o]); omega)); (case r3 => first | omega | ((simp (disch := omega) only [zU_c, zU_e, zU_k, zF_c, zF_i, zF_o, zW_o, zW_i, zC_c, zC_i, zC_o]); omega)); (case a1 => assumption); (case r4 => first | omega | ((simp (disch := omega) only [zU_c, zU_e, zU_k, zF_c, zF_i, zF_o, zW_o, zW_i, zC_c, zC_i, zC_o]); omega)); intro _ _ _))
          exact hk _ _ _ (by omega) ⟨b, s + 1, rfl, hb, by omega, rfl, hY2⟩
        · repeat' (first
    | (with_reducible apply z_nm; (case he => repeat (with_reducible first | exact zv_l _ | exact zv_r | apply zv_add | apply zv_sub | apply zv_neg | apply zv_and | apply zv_xor)))
    | (with_reducible apply z_b_ck; (case h => with_unfolding_all rfl))
    | (with_reducible apply z_in; (case hA => first | with_reducible exact zj_l _ (by decide) | with_reducible exact zj_m1 | (with_reducible apply zj_e; repeat (with_reducible first | exact zv_l _ | exact zv_r | apply zv_add | apply zv_sub | apply zv_neg | apply zv_and | apply zv_xor))); (case hL => first | with_reducible exact zj_l _ (by decide) | with_reducible exact zj_m1 | (with_reducible apply zj_e; repeat (with_reducible first | exact zv_l _ | exact zv_r | apply zv_add | apply zv_sub | apply zv_neg | apply zv_and | apply zv_xor))); (case hH => first | with_reducible exact zj_l _ (by decide) | with_reducible exact zj_m1 | (with_reducible apply zj_e; repeat (with_reducible first | exact zv_l _ | exact zv_r | apply zv_add | apply zv_sub | apply zv_neg | apply zv_and | apply zv_xor))); (case rx => omega); (case rl => omega); (case rh => omega))
    | (with_reducible apply z_7ones; (case e1 => repeat (with_reducible first | exact zv_l _ | exact zv_r | apply zv_add | apply zv_sub | apply zv_neg | apply zv_and | apply zv_xor)); (case r1 => first | omega | ((simp (disch := omega) only [zU_c, zU_e, zU_k, zF_c, zF_i, zF_o, zW_o, zW_i, zC_c, zC_i, zC_o]); omega)))
    | (with_reducible apply z_7isTeam; (case e1 => repeat (with_reducible first | exact zv_l _ | exact zv_r | apply zv_add | apply zv_sub | apply zv_neg | apply zv_and | apply zv_xor)); (case r1 => first | omega | ((simp (disch := omega) only [zU_c, zU_e, zU_k, zF_c, zF_i, zF_o, zW_o, zW_i, zC_c, zC_i, zC_o]); omega)); (case r2 => first | omega | ((simp (disch := omega) only [zU_c, zU_e, zU_k, zF_c, zF_i, zF_o, zW_o, zW_i, zC_c, zC_i, zC_o]); omega)))
    | (with_reducible apply z_7ownLeft; (case e1 => repeat (with_reducible first | exact zv_l _ | exact zv_r | apply zv_add | apply zv_sub | apply zv_neg | apply zv_and | apply zv_xor)); (case r2 => first | omega | ((simp (disch := omega) only [zU_c, zU_e, zU_k, zF_c, zF_i, zF_o, zW_o, zW_i, zC_c, zC_i, zC_o]); omega)); (case a2 => assumption); (case a1 => assumption))
    | (with_reducible apply z_7looks; (case a2 => assumption))
    | (with_reducible apply z_7isEnough; (case e4 => repeat (with_reducible first | exact zv_l _ | exact zv_r | apply zv_add | apply zv_sub | apply zv_neg | apply zv_and | apply zv_xor)); (case e5 => repeat (with_reducible first | exact zv_l _ | exact zv_r | apply zv_add | apply zv_sub | apply zv_neg | apply zv_and | apply zv_xor)); (case e6 => repeat (with_reducible first | exact zv_l _ | exact zv_r | apply zv_add | apply zv_sub | apply zv_neg | apply zv_and | apply zv_xor)); (case r1 => first | omega | ((simp (disch := omega) only [zU_c, zU_e, zU_k, zF_c, zF_i, zF_o, zW_o, zW_i, zC_c, zC_i, zC_o]); omega)); (case r2 => first | omega | ((simp (disch := omega) only [zU_c, zU_e, zU_k, zF_c, zF_i, zF_o, zW_o, zW_i, zC_c, zC_i, zC_o]); omega)); (case r3 => first | omega | ((simp (disch := omega) only [zU_c, zU_e, zU_k, zF_c, zF_i, zF_o, zW_o, zW_i, zC_c, zC_i, zC_o]); omega)); (case a1 => assumption); (case r4 => first | omega | ((simp (disch := omega) only [zU_c, zU_e, zU_k, zF_c, zF_i, zF_o, zW_o, zW_i, zC_c, zC_i, zC_o]); omega)); intro _ _ _))
          exact hk _ _ _ (by omega) ⟨(s : Int), s + 1, rfl, Or.inr ⟨s, hs, rfl⟩, by omega, rfl, hY2⟩
      unfold f_X7_needs_37
      dsimp only
      (first
    | (with_reducible apply z_B; all_goals (intro _; try (exfalso; omega)))
    | (with_reducible apply z_E; all_goals intro _)
    | (with_reducible apply z_lt; (case ha => repeat (with_reducible first | exact zv_l _ | exact zv_r | apply zv_add | apply zv_sub | apply zv_neg | apply zv_and | apply zv_xor)); (case hb => repeat (with_reducible first | exact zv_l _ | exact zv_r | apply zv_add | apply zv_sub | apply zv_neg | apply zv_and | apply zv_xor)); (case hx => omega); (case hy => omega); all_goals (intro _; try (exfalso; omega)))
    | (with_reducible apply z_le; (case ha => repeat (with_reducible first | exact zv_l _ | exact zv_r | apply zv_add | apply zv_sub | apply zv_neg | apply zv_and | apply zv_xor)); (case hb => repeat (with_reducible first | exact zv_l _ | exact zv_r | apply zv_add | apply zv_sub | apply zv_neg | apply zv_and | apply zv_xor)); (case hx => omega); (case hy => omega); all_goals (intro _; try (exfalso; omega)))
    | (with_reducible apply z_eq; (case ha => repeat (with_reducible first | exact zv_l _ | exact zv_r | apply zv_add | apply zv_sub | apply zv_neg | apply zv_and | apply zv_xor)); (case hb => repeat (with_reducible first | exact zv_l _ | exact zv_r | apply zv_add | apply zv_sub | apply zv_neg | apply zv_and | apply zv_xor)); (case hx => omega); (case hy => omega); all_goals (intro _; try (exfalso; omega))))
      · (first
    | (with_reducible apply z_B; all_goals (intro _; try (exfalso; omega)))
    | (with_reducible apply z_E; all_goals intro _)
    | (with_reducible apply z_lt; (case ha => repeat (with_reducible first | exact zv_l _ | exact zv_r | apply zv_add | apply zv_sub | apply zv_neg | apply zv_and | apply zv_xor)); (case hb => repeat (with_reducible first | exact zv_l _ | exact zv_r | apply zv_add | apply zv_sub | apply zv_neg | apply zv_and | apply zv_xor)); (case hx => omega); (case hy => omega); all_goals (intro _; try (exfalso; omega)))
    | (with_reducible apply z_le; (case ha => repeat (with_reducible first | exact zv_l _ | exact zv_r | apply zv_add | apply zv_sub | apply zv_neg | apply zv_and | apply zv_xor)); (case hb => repeat (with_reducible first | exact zv_l _ | exact zv_r | apply zv_add | apply zv_sub | apply zv_neg | apply zv_and | apply zv_xor)); (case hx => omega); (case hy => omega); all_goals (intro _; try (exfalso; omega)))
    | (with_reducible apply z_eq; (case ha => repeat (with_reducible first | exact zv_l _ | exact zv_r | apply zv_add | apply zv_sub | apply zv_neg | apply zv_and | apply zv_xor)); (case hb => repeat (with_reducible first | exact zv_l _ | exact zv_r | apply zv_add | apply zv_sub | apply zv_neg | apply zv_and | apply zv_xor)); (case hx => omega); (case hy => omega); all_goals (intro _; try (exfalso; omega))))
        · exact ⟨_, _, rfl, hY1⟩
        · refine z_le (x := 0) (y := b) rfl rfl (by omega) (by omega) (fun hb0 => ?_) (fun hb0 => ?_)
          · rcases hb with rfl | ⟨c, hc, rfl⟩
            · exfalso
              omega
            · refine z_7ones rfl hc ?_
              exact ⟨_, _, rfl, hY1⟩
          · exact ⟨_, _, rfl, hY1⟩
      · refine z_ite (fun _ => ?_) (fun _ => ?_)
        · refine z_lt (x := b) (y := 0) rfl rfl (by omega) (by omega) (fun hb0 => ?_) (fun hb0 => ?_)
          · exact h72 (by omega)
          · rcases hb with rfl | ⟨c, hc, rfl⟩
            · exfalso
              omega
            · refine z_7ones rfl (by omega) ?_
              refine z_7ones rfl hc ?_
              refine z_ite (fun _ => ?_) (fun _ => ?_)
              · exact h76 (by omega)
              · exact h72 (by omega)
        · exact h76 (by omega)
theorem z_7needs {m : zMe} {e1 e2 : Int32} {t x : Int} (e3 : e1 = zI t) (e4 : e2 = zI x) (r1 : -2147483648 ≤ t ∧ t < 2147483648) (r2 : -2147483648 ≤ x ∧ x < 2147483648) (a1 : zRw m) (r4 : -1 ≤ m 50 8 ∧ m 50 8 < 512) {α : Type} {kf : Int32 × Hp → Option (α × Hp)} {Q : α → zMe → Prop} (K : ∀ (v : Int32) (m1 : zMe), (fun (_ : Int32) m1 => zY m m1) v m1 → zOk (kf (v, zM m1)) Q) : zOk ((f_X7_needs 50 e1 e2 (zM m)).bind kf) Q := z_call (s_7needs e3 e4 r1 r2 a1 r4) K
/-- what holds of the reference's sheets -/
def zS7 (m : zMe) : Prop := ∀ s, 0 ≤ s → s < 4 → (-1 ≤ m 59 s ∧ m 59 s ≤ 1) ∧ (0 ≤ m 60 s ∧ m 60 s ≤ 40)
set_option maxRecDepth 100000 in
set_option maxHeartbeats 1000000 in
theorem s_7tells {m : zMe} {e1 e2 : Int32} {s x : Int} (e3 : e1 = zI s) (e4 : e2 = zI x) (r1 : -2147483648 ≤ s ∧ s < 2147483648) (r2 : -2147483648 ≤ x ∧ x < 2147483648) (a1 : zRw m) (a2 : zS7 m) : zOk (f_X7_tells 50 e1 e2 (zM m)) (fun (_ : Int32) m1 => zY m m1) := by
  subst e3; subst e4
  have hT := a1.1.1
  unfold f_X7_tells
  (first
    | (with_reducible apply z_nm; (case he => repeat (with_reducible first | exact zv_l _ | exact zv_r | apply zv_neg)))
    | (with_reducible apply z_b_ck; (case h => with_unfolding_all rfl))
    | (with_reducible apply z_b_R; (case h => first | with_unfolding_all rfl))
    | (with_reducible apply z_L; (case he => repeat (with_reducible first | exact zv_l _ | exact zv_r | apply zv_neg)); (case hn => with_reducible first | assumption | exact zl_2 | exact zl_8 | exact zl_51 | exact zl_59 | exact zl_60); (case h => omega); (case hy => first | ((simp (disch := omega) only [zU_c, zU_e, zU_k, zF_c, zF_i, zF_o, zW_o, zW_i, zC_c, zC_i, zC_o]); rfl) | rfl))
    | (with_reducible apply z_in; (case hA => first | with_reducible exact zj_l _ (by decide) | with_reducible exact zj_m1 | (with_reducible apply zj_e; repeat (with_reducible first | exact zv_l _ | exact zv_r | apply zv_neg))); (case hL => first | with_reducible exact zj_l _ (by decide) | with_reducible exact zj_m1 | (with_reducible apply zj_e; repeat (with_reducible first | exact zv_l _ | exact zv_r | apply zv_neg))); (case hH => first | with_reducible exact zj_l _ (by decide) | with_reducible exact zj_m1 | (with_reducible apply zj_e; repeat (with_reducible first | exact zv_l _ | exact zv_r | apply zv_neg))); (case rx => omega); (case rl => omega); (case rh => omega))
    | (with_reducible apply z_7isSheet; (case e1 => repeat (with_reducible first | exact zv_l _ | exact zv_r | apply zv_neg)); (case r1 => first | omega | ((simp (disch := omega) only [zU_c, zU_e, zU_k, zF_c, zF_i, zF_o, zW_o, zW_i, zC_c, zC_i, zC_o]); omega)))
    | (with_reducible apply z_7ones; (case e1 => repeat (with_reducible first | exact zv_l _ | exact zv_r | apply zv_neg)); (case r1 => first | omega | ((simp (disch := omega) only [zU_c, zU_e, zU_k, zF_c, zF_i, zF_o, zW_o, zW_i, zC_c, zC_i, zC_o]); omega)))
    | (with_reducible apply z_7leftSet; (case r1 => first | omega | ((simp (disch := omega) only [zU_c, zU_e, zU_k, zF_c, zF_i, zF_o, zW_o, zW_i, zC_c, zC_i, zC_o]); omega)); (case a1 => assumption))
    | (with_reducible apply z_7looks; (case a2 => assumption))
    | (with_reducible apply z_7firstTold; (case e1 => repeat (with_reducible first | exact zv_l _ | exact zv_r | apply zv_neg)); (case r1 => first | omega | ((simp (disch := omega) only [zU_c, zU_e, zU_k, zF_c, zF_i, zF_o, zW_o, zW_i, zC_c, zC_i, zC_o]); omega)); (case r2 => first | omega | ((simp (disch := omega) only [zU_c, zU_e, zU_k, zF_c, zF_i, zF_o, zW_o, zW_i, zC_c, zC_i, zC_o]); omega)); intro _ _ _))
  refine z_7isSheet rfl r1 ?_
  (first
    | (with_reducible apply z_B; all_goals (intro _; try (exfalso; omega)))
    | (with_reducible apply z_E; all_goals intro _)
    | (with_reducible apply z_lt; (case ha => repeat (with_reducible first | exact zv_l _ | exact zv_r | apply zv_neg)); (case hb => repeat (with_reducible first | exact zv_l _ | exact zv_r | apply zv_neg)); (case hx => omega); (case hy => omega); all_goals (intro _; try (exfalso; omega)))
    | (with_reducible apply z_le; (case ha => repeat (with_reducible first | exact zv_l _ | exact zv_r | apply zv_neg)); (case hb => repeat (with_reducible first | exact zv_l _ | exact zv_r | apply zv_neg)); (case hx => omega); (case hy => omega); all_goals (intro _; try (exfalso; omega)))
    | (with_reducible apply z_eq; (case ha => repeat (with_reducible first | exact zv_l _ | exact zv_r | apply zv_neg)); (case hb => repeat (with_reducible first | exact zv_l _ | exact zv_r | apply zv_neg)); (case hx => omega); (case hy => omega); all_goals (intro _; try (exfalso; omega))))
  · exact ⟨_, _, rfl, zY_r _⟩
  · rename_i hs
    have hsz := a2 s hs.1 (by omega)
    (first
    | (with_reducible apply z_nm; (case he => repeat (with_reducible first | exact zv_l _ | exact zv_r | apply zv_neg)))
    | (with_reducible apply z_b_ck; (case h => with_unfolding_all rfl))
    | (with_reducible apply z_b_R; (case h => first | with_unfolding_all rfl))
    | (with_reducible apply z_L; (case he => repeat (with_reducible first | exact zv_l _ | exact zv_r | apply zv_neg)); (case hn => with_reducible first | assumption | exact zl_2 | exact zl_8 | exact zl_51 | exact zl_59 | exact zl_60); (case h => omega); (case hy => first | ((simp (disch := omega) only [zU_c, zU_e, zU_k, zF_c, zF_i, zF_o, zW_o, zW_i, zC_c, zC_i, zC_o]); rfl) | rfl))
    | (with_reducible apply z_in; (case hA => first | with_reducible exact zj_l _ (by decide) | with_reducible exact zj_m1 | (with_reducible apply zj_e; repeat (with_reducible first | exact zv_l _ | exact zv_r | apply zv_neg))); (case hL => first | with_reducible exact zj_l _ (by decide) | with_reducible exact zj_m1 | (with_reducible apply zj_e; repeat (with_reducible first | exact zv_l _ | exact zv_r | apply zv_neg))); (case hH => first | with_reducible exact zj_l _ (by decide) | with_reducible exact zj_m1 | (with_reducible apply zj_e; repeat (with_reducible first | exact zv_l _ | exact zv_r | apply zv_neg))); (case rx => omega); (case rl => omega); (case rh => omega))
    | (with_reducible apply z_7isSheet; (case e1 => repeat (with_reducible first | exact zv_l _ | exact zv_r | apply zv_neg)); (case r1 => first | omega | ((simp (disch := omega) only [zU_c, zU_e, zU_k, zF_c, zF_i, zF_o, zW_o, zW_i, zC_c, zC_i, zC_o]); omega)))
    | (with_reducible apply z_7ones; (case e1 => repeat (with_reducible first | exact zv_l _ | exact zv_r | apply zv_neg)); (case r1 => first | omega | ((simp (disch := omega) only [zU_c, zU_e, zU_k, zF_c, zF_i, zF_o, zW_o, zW_i, zC_c, zC_i, zC_o]); omega)))
    | (with_reducible apply z_7leftSet; (case r1 => first | omega | ((simp (disch := omega) only [zU_c, zU_e, zU_k, zF_c, zF_i, zF_o, zW_o, zW_i, zC_c, zC_i, zC_o]); omega)); (case a1 => assumption))
    | (with_reducible apply z_7looks; (case a2 => assumption))
    | (with_reducible apply z_7firstTold; (case e1 => repeat (with_reducible first | exact zv_l _ | exact zv_r | apply zv_neg)); (case r1 => first | omega | ((simp (disch := omega) only [zU_c, zU_e, zU_k, zF_c, zF_i, zF_o, zW_o, zW_i, zC_c, zC_i, zC_o]); omega)); (case r2 => first | omega | ((simp (disch := omega) only [zU_c, zU_e, zU_k, zF_c, zF_i, zF_o, zW_o, zW_i, zC_c, zC_i, zC_o]); omega)); intro _ _ _))
    (first
    | (with_reducible apply z_B; all_goals (intro _; try (exfalso; omega)))
    | (with_reducible apply z_E; all_goals intro _)
    | (with_reducible apply z_lt; (case ha => repeat (with_reducible first | exact zv_l _ | exact zv_r | apply zv_neg)); (case hb => repeat (with_reducible first | exact zv_l _ | exact zv_r | apply zv_neg)); (case hx => omega); (case hy => omega); all_goals (intro _; try (exfalso; omega)))
    | (with_reducible apply z_le; (case ha => repeat (with_reducible first | exact zv_l _ | exact zv_r | apply zv_neg)); (case hb => repeat (with_reducible first | exact zv_l _ | exact zv_r | apply zv_neg)); (case hx => omega); (case hy => omega); all_goals (intro _; try (exfalso; omega)))
    | (with_reducible apply z_eq; (case ha => repeat (with_reducible first | exact zv_l _ | exact zv_r | apply zv_neg)); (case hb => repeat (with_reducible first | exact zv_l _ | exact zv_r | apply zv_neg)); (case hx => omega); (case hy => omega); all_goals (intro _; try (exfalso; omega))))
    · exact ⟨_, _, rfl, zY_r _⟩
    · (first
    | (with_reducible apply z_nm; (case he => repeat (with_reducible first | exact zv_l _ | exact zv_r | apply zv_neg)))
    | (with_reducible apply z_b_ck; (case h => with_unfolding_all rfl))
    | (with_reducible apply z_b_R; (case h => first | with_unfolding_all rfl))
    | (with_reducible apply z_L; (case he => repeat (with_reducible first | exact zv_l _ | exact zv_r | apply zv_neg)); (case hn => with_reducible first | assumption | exact zl_2 | exact zl_8 | exact zl_51 | exact zl_59 | exact zl_60); (case h => omega); (case hy => first | ((simp (disch := omega) only [zU_c, zU_e, zU_k, zF_c, zF_i, zF_o, zW_o, zW_i, zC_c, zC_i, zC_o]); rfl) | rfl))
    | (with_reducible apply z_in; (case hA => first | with_reducible exact zj_l _ (by decide) | with_reducible exact zj_m1 | (with_reducible apply zj_e; repeat (with_reducible first | exact zv_l _ | exact zv_r | apply zv_neg))); (case hL => first | with_reducible exact zj_l _ (by decide) | with_reducible exact zj_m1 | (with_reducible apply zj_e; repeat (with_reducible first | exact zv_l _ | exact zv_r | apply zv_neg))); (case hH => first | with_reducible exact zj_l _ (by decide) | with_reducible exact zj_m1 | (with_reducible apply zj_e; repeat (with_reducible first | exact zv_l _ | exact zv_r | apply zv_neg))); (case rx => omega); (case rl => omega); (case rh => omega))
    | (with_reducible apply z_7isSheet; (case e1 => repeat (with_reducible first | exact zv_l _ | exact zv_r | apply zv_neg)); (case r1 => first | omega | ((simp (disch := omega) only [zU_c, zU_e, zU_k, zF_c, zF_i, zF_o, zW_o, zW_i, zC_c, zC_i, zC_o]); omega)))
    | (with_reducible apply z_7ones; (case e1 => repeat (with_reducible first | exact zv_l _ | exact zv_r | apply zv_neg)); (case r1 => first | omega | ((simp (disch := omega) only [zU_c, zU_e, zU_k, zF_c, zF_i, zF_o, zW_o, zW_i, zC_c, zC_i, zC_o]); omega)))
    | (with_reducible apply z_7leftSet; (case r1 => first | omega | ((simp (disch := omega) only [zU_c, zU_e, zU_k, zF_c, zF_i, zF_o, zW_o, zW_i, zC_c, zC_i, zC_o]); omega)); (case a1 => assumption))
    | (with_reducible apply z_7looks; (case a2 => assumption))
    | (with_reducible apply z_7firstTold; (case e1 => repeat (with_reducible first | exact zv_l _ | exact zv_r | apply zv_neg)); (case r1 => first | omega | ((simp (disch := omega) only [zU_c, zU_e, zU_k, zF_c, zF_i, zF_o, zW_o, zW_i, zC_c, zC_i, zC_o]); omega)); (case r2 => first | omega | ((simp (disch := omega) only [zU_c, zU_e, zU_k, zF_c, zF_i, zF_o, zW_o, zW_i, zC_c, zC_i, zC_o]); omega)); intro _ _ _))
      (first
    | (with_reducible apply z_nm; (case he => repeat (with_reducible first | exact zv_l _ | exact zv_r | apply zv_neg)))
    | (with_reducible apply z_b_ck; (case h => with_unfolding_all rfl))
    | (with_reducible apply z_b_R; (case h => first | with_unfolding_all rfl))
    | (with_reducible apply z_L; (case he => repeat (with_reducible first | exact zv_l _ | exact zv_r | apply zv_neg)); (case hn => with_reducible first | assumption | exact zl_2 | exact zl_8 | exact zl_51 | exact zl_59 | exact zl_60); (case h => omega); (case hy => first | ((simp (disch := omega) only [zU_c, zU_e, zU_k, zF_c, zF_i, zF_o, zW_o, zW_i, zC_c, zC_i, zC_o]); rfl) | rfl))
    | (with_reducible apply z_in; (case hA => first | with_reducible exact zj_l _ (by decide) | with_reducible exact zj_m1 | (with_reducible apply zj_e; repeat (with_reducible first | exact zv_l _ | exact zv_r | apply zv_neg))); (case hL => first | with_reducible exact zj_l _ (by decide) | with_reducible exact zj_m1 | (with_reducible apply zj_e; repeat (with_reducible first | exact zv_l _ | exact zv_r | apply zv_neg))); (case hH => first | with_reducible exact zj_l _ (by decide) | with_reducible exact zj_m1 | (with_reducible apply zj_e; repeat (with_reducible first | exact zv_l _ | exact zv_r | apply zv_neg))); (case rx => omega); (case rl => omega); (case rh => omega))
    | (with_reducible apply z_7isSheet; (case e1 => repeat (with_reducible first | exact zv_l _ | exact zv_r | apply zv_neg)); (case r1 => first | omega | ((simp (disch := omega) only [zU_c, zU_e, zU_k, zF_c, zF_i, zF_o, zW_o, zW_i, zC_c, zC_i, zC_o]); omega)))
    | (with_reducible apply z_7ones; (case e1 => repeat (with_reducible first | exact zv_l _ | exact zv_r | apply zv_neg)); (case r1 => first | omega | ((simp (disch := omega) only [zU_c, zU_e, zU_k, zF_c, zF_i, zF_o, zW_o, zW_i, zC_c, zC_i, zC_o]); omega)))
    | (with_reducible apply z_7leftSet; (case r1 => first | omega | ((simp (disch := omega) only [zU_c, zU_e, zU_k, zF_c, zF_i, zF_o, zW_o, zW_i, zC_c, zC_i, zC_o]); omega)); (case a1 => assumption))
    | (with_reducible apply z_7looks; (case a2 => assumption))
    | (with_reducible apply z_7firstTold; (case e1 => repeat (with_reducible first | exact zv_l _ | exact zv_r | apply zv_neg)); (case r1 => first | omega | ((simp (disch := omega) only [zU_c, zU_e, zU_k, zF_c, zF_i, zF_o, zW_o, zW_i, zC_c, zC_i, zC_o]); omega)); (case r2 => first | omega | ((simp (disch := omega) only [zU_c, zU_e, zU_k, zF_c, zF_i, zF_o, zW_o, zW_i, zC_c, zC_i, zC_o]); omega)); intro _ _ _))
      (first
    | (with_reducible apply z_B; all_goals (intro _; try (exfalso; omega)))
    | (with_reducible apply z_E; all_goals intro _)
    | (with_reducible apply z_lt; (case ha => repeat (with_reducible first | exact zv_l _ | exact zv_r | apply zv_neg)); (case hb => repeat (with_reducible first | exact zv_l _ | exact zv_r | apply zv_neg)); (case hx => omega); (case hy => omega); all_goals (intro _; try (exfalso; omega)))
    | (with_reducible apply z_le; (case ha => repeat (with_reducible first | exact zv_l _ | exact zv_r | apply zv_neg)); (case hb => repeat (with_reducible first | exact zv_l _ | exact zv_r | apply zv_neg)); (case hx => omega); (case hy => omega); all_goals (intro _; try (exfalso; omega)))
    | (with_reducible apply z_eq; (case ha => repeat (with_reducible first | exact zv_l _ | exact zv_r | apply zv_neg)); (case hb => repeat (with_reducible first | exact zv_l _ | exact zv_r | apply zv_neg)); (case hx => omega); (case hy => omega); all_goals (intro _; try (exfalso; omega))))
      · (first
    | (with_reducible apply z_nm; (case he => repeat (with_reducible first | exact zv_l _ | exact zv_r | apply zv_neg)))
    | (with_reducible apply z_b_ck; (case h => with_unfolding_all rfl))
    | (with_reducible apply z_b_R; (case h => first | with_unfolding_all rfl))
    | (with_reducible apply z_L; (case he => repeat (with_reducible first | exact zv_l _ | exact zv_r | apply zv_neg)); (case hn => with_reducible first | assumption | exact zl_2 | exact zl_8 | exact zl_51 | exact zl_59 | exact zl_60); (case h => omega); (case hy => first | ((simp (disch := omega) only [zU_c, zU_e, zU_k, zF_c, zF_i, zF_o, zW_o, zW_i, zC_c, zC_i, zC_o]); rfl) | rfl))
    | (with_reducible apply z_in; (case hA => first | with_reducible exact zj_l _ (by decide) | with_reducible exact zj_m1 | (with_reducible apply zj_e; repeat (with_reducible first | exact zv_l _ | exact zv_r | apply zv_neg))); (case hL => first | with_reducible exact zj_l _ (by decide) | with_reducible exact zj_m1 | (with_reducible apply zj_e; repeat (with_reducible first | exact zv_l _ | exact zv_r | apply zv_neg))); (case hH => first | with_reducible exact zj_l _ (by decide) | with_reducible exact zj_m1 | (with_reducible apply zj_e; repeat (with_reducible first | exact zv_l _ | exact zv_r | apply zv_neg))); (case rx => omega); (case rl => omega); (case rh => omega))
    | (with_reducible apply z_7isSheet; (case e1 => repeat (with_reducible first | exact zv_l _ | exact zv_r | apply zv_neg)); (case r1 => first | omega | ((simp (disch := omega) only [zU_c, zU_e, zU_k, zF_c, zF_i, zF_o, zW_o, zW_i, zC_c, zC_i, zC_o]); omega)))
    | (with_reducible apply z_7ones; (case e1 => repeat (with_reducible first | exact zv_l _ | exact zv_r | apply zv_neg)); (case r1 => first | omega | ((simp (disch := omega) only [zU_c, zU_e, zU_k, zF_c, zF_i, zF_o, zW_o, zW_i, zC_c, zC_i, zC_o]); omega)))
    | (with_reducible apply z_7leftSet; (case r1 => first | omega | ((simp (disch := omega) only [zU_c, zU_e, zU_k, zF_c, zF_i, zF_o, zW_o, zW_i, zC_c, zC_i, zC_o]); omega)); (case a1 => assumption))
    | (with_reducible apply z_7looks; (case a2 => assumption))
    | (with_reducible apply z_7firstTold; (case e1 => repeat (with_reducible first | exact zv_l _ | exact zv_r | apply zv_neg)); (case r1 => first | omega | ((simp (disch := omega) only [zU_c, zU_e, zU_k, zF_c, zF_i, zF_o, zW_o, zW_i, zC_c, zC_i, zC_o]); omega)); (case r2 => first | omega | ((simp (disch := omega) only [zU_c, zU_e, zU_k, zF_c, zF_i, zF_o, zW_o, zW_i, zC_c, zC_i, zC_o]); omega)); intro _ _ _))
        (first
    | (with_reducible apply z_nm; (case he => repeat (with_reducible first | exact zv_l _ | exact zv_r | apply zv_neg)))
    | (with_reducible apply z_b_ck; (case h => with_unfolding_all rfl))
    | (with_reducible apply z_b_R; (case h => first | with_unfolding_all rfl))
    | (with_reducible apply z_L; (case he => repeat (with_reducible first | exact zv_l _ | exact zv_r | apply zv_neg)); (case hn => with_reducible first | assumption | exact zl_2 | exact zl_8 | exact zl_51 | exact zl_59 | exact zl_60); (case h => omega); (case hy => first | ((simp (disch := omega) only [zU_c, zU_e, zU_k, zF_c, zF_i, zF_o, zW_o, zW_i, zC_c, zC_i, zC_o]); rfl) | rfl))
    | (with_reducible apply z_in; (case hA => first | with_reducible exact zj_l _ (by decide) | with_reducible exact zj_m1 | (with_reducible apply zj_e; repeat (with_reducible first | exact zv_l _ | exact zv_r | apply zv_neg))); (case hL => first | with_reducible exact zj_l _ (by decide) | with_reducible exact zj_m1 | (with_reducible apply zj_e; repeat (with_reducible first | exact zv_l _ | exact zv_r | apply zv_neg))); (case hH => first | with_reducible exact zj_l _ (by decide) | with_reducible exact zj_m1 | (with_reducible apply zj_e; repeat (with_reducible first | exact zv_l _ | exact zv_r | apply zv_neg))); (case rx => omega); (case rl => omega); (case rh => omega))
    | (with_reducible apply z_7isSheet; (case e1 => repeat (with_reducible first | exact zv_l _ | exact zv_r | apply zv_neg)); (case r1 => first | omega | ((simp (disch := omega) only [zU_c, zU_e, zU_k, zF_c, zF_i, zF_o, zW_o, zW_i, zC_c, zC_i, zC_o]); omega)))
    | (with_reducible apply z_7ones; (case e1 => repeat (with_reducible first | exact zv_l _ | exact zv_r | apply zv_neg)); (case r1 => first | omega | ((simp (disch := omega) only [zU_c, zU_e, zU_k, zF_c, zF_i, zF_o, zW_o, zW_i, zC_c, zC_i, zC_o]); omega)))
    | (with_reducible apply z_7leftSet; (case r1 => first | omega | ((simp (disch := omega) only [zU_c, zU_e, zU_k, zF_c, zF_i, zF_o, zW_o, zW_i, zC_c, zC_i, zC_o]); omega)); (case a1 => assumption))
    | (with_reducible apply z_7looks; (case a2 => assumption))
    | (with_reducible apply z_7firstTold; (case e1 => repeat (with_reducible first | exact zv_l _ | exact zv_r | apply zv_neg)); (case r1 => first | omega | ((simp (disch := omega) only [zU_c, zU_e, zU_k, zF_c, zF_i, zF_o, zW_o, zW_i, zC_c, zC_i, zC_o]); omega)); (case r2 => first | omega | ((simp (disch := omega) only [zU_c, zU_e, zU_k, zF_c, zF_i, zF_o, zW_o, zW_i, zC_c, zC_i, zC_o]); omega)); intro _ _ _))
        (first
    | (with_reducible apply z_nm; (case he => repeat (with_reducible first | exact zv_l _ | exact zv_r | apply zv_neg)))
    | (with_reducible apply z_b_ck; (case h => with_unfolding_all rfl))
    | (with_reducible apply z_b_R; (case h => first | with_unfolding_all rfl))
    | (with_reducible apply z_L; (case he => repeat (with_reducible first | exact zv_l _ | exact zv_r | apply zv_neg)); (case hn => with_reducible first | assumption | exact zl_2 | exact zl_8 | exact zl_51 | exact zl_59 | exact zl_60); (case h => omega); (case hy => first | ((simp (disch := omega) only [zU_c, zU_e, zU_k, zF_c, zF_i, zF_o, zW_o, zW_i, zC_c, zC_i, zC_o]); rfl) | rfl))
    | (with_reducible apply z_in; (case hA => first | with_reducible exact zj_l _ (by decide) | with_reducible exact zj_m1 | (with_reducible apply zj_e; repeat (with_reducible first | exact zv_l _ | exact zv_r | apply zv_neg))); (case hL => first | with_reducible exact zj_l _ (by decide) | with_reducible exact zj_m1 | (with_reducible apply zj_e; repeat (with_reducible first | exact zv_l _ | exact zv_r | apply zv_neg))); (case hH => first | with_reducible exact zj_l _ (by decide) | with_reducible exact zj_m1 | (with_reducible apply zj_e; repeat (with_reducible first | exact zv_l _ | exact zv_r | apply zv_neg))); (case rx => omega); (case rl => omega); (case rh => omega))
    | (with_reducible apply z_7isSheet; (case e1 => repeat (with_reducible first | exact zv_l _ | exact zv_r | apply zv_neg)); (case r1 => first | omega | ((simp (disch := omega) only [zU_c, zU_e, zU_k, zF_c, zF_i, zF_o, zW_o, zW_i, zC_c, zC_i, zC_o]); omega)))
    | (with_reducible apply z_7ones; (case e1 => repeat (with_reducible first | exact zv_l _ | exact zv_r | apply zv_neg)); (case r1 => first | omega | ((simp (disch := omega) only [zU_c, zU_e, zU_k, zF_c, zF_i, zF_o, zW_o, zW_i, zC_c, zC_i, zC_o]); omega)))
    | (with_reducible apply z_7leftSet; (case r1 => first | omega | ((simp (disch := omega) only [zU_c, zU_e, zU_k, zF_c, zF_i, zF_o, zW_o, zW_i, zC_c, zC_i, zC_o]); omega)); (case a1 => assumption))
    | (with_reducible apply z_7looks; (case a2 => assumption))
    | (with_reducible apply z_7firstTold; (case e1 => repeat (with_reducible first | exact zv_l _ | exact zv_r | apply zv_neg)); (case r1 => first | omega | ((simp (disch := omega) only [zU_c, zU_e, zU_k, zF_c, zF_i, zF_o, zW_o, zW_i, zC_c, zC_i, zC_o]); omega)); (case r2 => first | omega | ((simp (disch := omega) only [zU_c, zU_e, zU_k, zF_c, zF_i, zF_o, zW_o, zW_i, zC_c, zC_i, zC_o]); omega)); intro _ _ _))
        (first
    | (with_reducible apply z_nm; (case he => repeat (with_reducible first | exact zv_l _ | exact zv_r | apply zv_neg)))
    | (with_reducible apply z_b_ck; (case h => with_unfolding_all rfl))
    | (with_reducible apply z_b_R; (case h => first | with_unfolding_all rfl))
    | (with_reducible apply z_L; (case he => repeat (with_reducible first | exact zv_l _ | exact zv_r | apply zv_neg)); (case hn => with_reducible first | assumption | exact zl_2 | exact zl_8 | exact zl_51 | exact zl_59 | exact zl_60); (case h => omega); (case hy => first | ((simp (disch := omega) only [zU_c, zU_e, zU_k, zF_c, zF_i, zF_o, zW_o, zW_i, zC_c, zC_i, zC_o]); rfl) | rfl))
    | (with_reducible apply z_in; (case hA => first | with_reducible exact zj_l _ (by decide) | with_reducible exact zj_m1 | (with_reducible apply zj_e; repeat (with_reducible first | exact zv_l _ | exact zv_r | apply zv_neg))); (case hL => first | with_reducible exact zj_l _ (by decide) | with_reducible exact zj_m1 | (with_reducible apply zj_e; repeat (with_reducible first | exact zv_l _ | exact zv_r | apply zv_neg))); (case hH => first | with_reducible exact zj_l _ (by decide) | with_reducible exact zj_m1 | (with_reducible apply zj_e; repeat (with_reducible first | exact zv_l _ | exact zv_r | apply zv_neg))); (case rx => omega); (case rl => omega); (case rh => omega))
    | (with_reducible apply z_7isSheet; (case e1 => repeat (with_reducible first | exact zv_l _ | exact zv_r | apply zv_neg)); (case r1 => first | omega | ((simp (disch := omega) only [zU_c, zU_e, zU_k, zF_c, zF_i, zF_o, zW_o, zW_i, zC_c, zC_i, zC_o]); omega)))
    | (with_reducible apply z_7ones; (case e1 => repeat (with_reducible first | exact zv_l _ | exact zv_r | apply zv_neg)); (case r1 => first | omega | ((simp (disch := omega) only [zU_c, zU_e, zU_k, zF_c, zF_i, zF_o, zW_o, zW_i, zC_c, zC_i, zC_o]); omega)))
    | (with_reducible apply z_7leftSet; (case r1 => first | omega | ((simp (disch := omega) only [zU_c, zU_e, zU_k, zF_c, zF_i, zF_o, zW_o, zW_i, zC_c, zC_i, zC_o]); omega)); (case a1 => assumption))
    | (with_reducible apply z_7looks; (case a2 => assumption))
    | (with_reducible apply z_7firstTold; (case e1 => repeat (with_reducible first | exact zv_l _ | exact zv_r | apply zv_neg)); (case r1 => first | omega | ((simp (disch := omega) only [zU_c, zU_e, zU_k, zF_c, zF_i, zF_o, zW_o, zW_i, zC_c, zC_i, zC_o]); omega)); (case r2 => first | omega | ((simp (disch := omega) only [zU_c, zU_e, zU_k, zF_c, zF_i, zF_o, zW_o, zW_i, zC_c, zC_i, zC_o]); omega)); intro _ _ _))
        refine z_le (x := m 60 s) (y := m 51 0) rfl rfl (by omega) (by omega) (fun hle => ?_) (fun hle => ?_)
        · (first
    | (with_reducible apply z_B; all_goals (intro _; try (exfalso; omega)))
    | (with_reducible apply z_E; all_goals intro _)
    | (with_reducible apply z_lt; (case ha => repeat (with_reducible first | exact zv_l _ | exact zv_r | apply zv_neg)); (case hb => repeat (with_reducible first | exact zv_l _ | exact zv_r | apply zv_neg)); (case hx => omega); (case hy => omega); all_goals (intro _; try (exfalso; omega)))
    | (with_reducible apply z_le; (case ha => repeat (with_reducible first | exact zv_l _ | exact zv_r | apply zv_neg)); (case hb => repeat (with_reducible first | exact zv_l _ | exact zv_r | apply zv_neg)); (case hx => omega); (case hy => omega); all_goals (intro _; try (exfalso; omega)))
    | (with_reducible apply z_eq; (case ha => repeat (with_reducible first | exact zv_l _ | exact zv_r | apply zv_neg)); (case hb => repeat (with_reducible first | exact zv_l _ | exact zv_r | apply zv_neg)); (case hx => omega); (case hy => omega); all_goals (intro _; try (exfalso; omega))))
          · refine z_7firstTold rfl (by omega) (by omega) (fun v m2 hm => ?_)
            have hm : m2 = m := hm
            subst hm
            exact ⟨_, _, rfl, zY_r _⟩
          · refine s7_lk a1 (fun M hY hR hA => ?_)
            have hN := hR.1.2.1
            refine z_7leftSet hN hA ?_
            refine z_7ones rfl (zLeft_lt (m := zV M) (r := 3) hN) ?_
            refine z_ite (fun _ => ?_) (fun _ => ?_)
            · have e60 : M 60 s = m 60 s := hY.1 60 s (by unfold zSr; omega)
              have e51 : M 51 0 = m 51 0 := zX_51 hY.1 0
              refine z_call (s7_runsSo (g := 0) (by omega) hR hA (by omega) ⟨Int.le_refl 0, hN.1⟩) (fun v m2 hP => ?_)
              exact ⟨_, _, rfl, zY_t hY (zY_8 (zPv_X hP) (hP 50 (by omega) 8))⟩
            · exact ⟨_, _, rfl, hY⟩
        · exact ⟨_, _, rfl, zY_r _⟩
      · exact ⟨_, _, rfl, zY_r _⟩
theorem z_7tells {m : zMe} {e1 e2 : Int32} {s x : Int} (e3 : e1 = zI s) (e4 : e2 = zI x) (r1 : -2147483648 ≤ s ∧ s < 2147483648) (r2 : -2147483648 ≤ x ∧ x < 2147483648) (a1 : zRw m) (a2 : zS7 m) {α : Type} {kf : Int32 × Hp → Option (α × Hp)} {Q : α → zMe → Prop} (K : ∀ (v : Int32) (m1 : zMe), (fun (_ : Int32) m1 => zY m m1) v m1 → zOk (kf (v, zM m1)) Q) : zOk ((f_X7_tells 50 e1 e2 (zM m)).bind kf) Q := z_call (s_7tells e3 e4 r1 r2 a1 a2) K
set_option maxRecDepth 100000 in
set_option maxHeartbeats 1000000 in
theorem s_7system {m : zMe} {e : Int32} {k : Int} (e1 : e = zI k) (r1 : -2147483648 ≤ k ∧ k < 2147483648) : f_X7_system 50 e (zM m) = some (zI (if 0 ≤ k ∧ k ≤ 2 then m 51 2 else -2), zM (if 0 ≤ k ∧ k ≤ 2 then zU m 51 2 k else m)) := by
  subst e1
  refine zOk.eq ?_
  unfold f_X7_system
  repeat' (first
    | (with_reducible apply z_nm; (case he => repeat (with_reducible first | exact zv_l _ | exact zv_r | apply zv_neg)))
    | (with_reducible apply z_b_ck; (case h => with_unfolding_all rfl))
    | (with_reducible apply z_b_R; (case h => first | with_unfolding_all rfl))
    | (with_reducible apply z_L; (case he => repeat (with_reducible first | exact zv_l _ | exact zv_r | apply zv_neg)); (case hn => with_reducible first | assumption | exact zl_2 | exact zl_51); (case h => omega); (case hy => first | ((simp (disch := omega) only [zU_c, zU_e, zU_k, zF_c, zF_i, zF_o, zW_o, zW_i, zC_c, zC_i, zC_o]); rfl) | rfl))
    | (with_reducible apply z_S; (case he => repeat (with_reducible first | exact zv_l _ | exact zv_r | apply zv_neg)); (case hg => repeat (with_reducible first | exact zv_l _ | exact zv_r | apply zv_neg)); (case hn => with_reducible first | assumption | exact zl_2 | exact zl_51); (case h => omega))
    | (with_reducible apply z_in; (case hA => first | with_reducible exact zj_l _ (by decide) | with_reducible exact zj_m1 | (with_reducible apply zj_e; repeat (with_reducible first | exact zv_l _ | exact zv_r | apply zv_neg))); (case hL => first | with_reducible exact zj_l _ (by decide) | with_reducible exact zj_m1 | (with_reducible apply zj_e; repeat (with_reducible first | exact zv_l _ | exact zv_r | apply zv_neg))); (case hH => first | with_reducible exact zj_l _ (by decide) | with_reducible exact zj_m1 | (with_reducible apply zj_e; repeat (with_reducible first | exact zv_l _ | exact zv_r | apply zv_neg))); (case rx => omega); (case rl => omega); (case rh => omega)))
  (first
    | (with_reducible apply z_B; all_goals (intro _; try (exfalso; omega)))
    | (with_reducible apply z_E; all_goals intro _)
    | (with_reducible apply z_lt; (case ha => repeat (with_reducible first | exact zv_l _ | exact zv_r | apply zv_neg)); (case hb => repeat (with_reducible first | exact zv_l _ | exact zv_r | apply zv_neg)); (case hx => omega); (case hy => omega); all_goals (intro _; try (exfalso; omega)))
    | (with_reducible apply z_le; (case ha => repeat (with_reducible first | exact zv_l _ | exact zv_r | apply zv_neg)); (case hb => repeat (with_reducible first | exact zv_l _ | exact zv_r | apply zv_neg)); (case hx => omega); (case hy => omega); all_goals (intro _; try (exfalso; omega)))
    | (with_reducible apply z_eq; (case ha => repeat (with_reducible first | exact zv_l _ | exact zv_r | apply zv_neg)); (case hb => repeat (with_reducible first | exact zv_l _ | exact zv_r | apply zv_neg)); (case hx => omega); (case hy => omega); all_goals (intro _; try (exfalso; omega))))
  · rename_i hq
    rw [if_neg hq, if_neg hq]
    exact ⟨_, _, rfl, rfl, rfl⟩
  · rename_i hq
    rw [if_pos hq, if_pos hq]
    repeat' (first
    | (with_reducible apply z_nm; (case he => repeat (with_reducible first | exact zv_l _ | exact zv_r | apply zv_neg)))
    | (with_reducible apply z_b_ck; (case h => with_unfolding_all rfl))
    | (with_reducible apply z_b_R; (case h => first | with_unfolding_all rfl))
    | (with_reducible apply z_L; (case he => repeat (with_reducible first | exact zv_l _ | exact zv_r | apply zv_neg)); (case hn => with_reducible first | assumption | exact zl_2 | exact zl_51); (case h => omega); (case hy => first | ((simp (disch := omega) only [zU_c, zU_e, zU_k, zF_c, zF_i, zF_o, zW_o, zW_i, zC_c, zC_i, zC_o]); rfl) | rfl))
    | (with_reducible apply z_S; (case he => repeat (with_reducible first | exact zv_l _ | exact zv_r | apply zv_neg)); (case hg => repeat (with_reducible first | exact zv_l _ | exact zv_r | apply zv_neg)); (case hn => with_reducible first | assumption | exact zl_2 | exact zl_51); (case h => omega))
    | (with_reducible apply z_in; (case hA => first | with_reducible exact zj_l _ (by decide) | with_reducible exact zj_m1 | (with_reducible apply zj_e; repeat (with_reducible first | exact zv_l _ | exact zv_r | apply zv_neg))); (case hL => first | with_reducible exact zj_l _ (by decide) | with_reducible exact zj_m1 | (with_reducible apply zj_e; repeat (with_reducible first | exact zv_l _ | exact zv_r | apply zv_neg))); (case hH => first | with_reducible exact zj_l _ (by decide) | with_reducible exact zj_m1 | (with_reducible apply zj_e; repeat (with_reducible first | exact zv_l _ | exact zv_r | apply zv_neg))); (case rx => omega); (case rl => omega); (case rh => omega)))
    exact ⟨_, _, rfl, rfl, rfl⟩
theorem z_7system {m : zMe} {e : Int32} {k : Int} (e1 : e = zI k) (r1 : -2147483648 ≤ k ∧ k < 2147483648) {α : Type} {kf : Int32 × Hp → Option (α × Hp)} {Q : α → zMe → Prop} (K : zOk (kf (zI (if 0 ≤ k ∧ k ≤ 2 then m 51 2 else -2), zM (if 0 ≤ k ∧ k ≤ 2 then zU m 51 2 k else m))) Q) : zOk ((f_X7_system 50 e (zM m)).bind kf) Q := z_b (s_7system e1 r1) K
set_option maxRecDepth 100000 in
set_option maxHeartbeats 1000000 in
theorem s_7play {m : zMe} {e1 e2 : Int32} {g x : Int} (e3 : e1 = zI g) (e4 : e2 = zI x) (r1 : -2147483648 ≤ g ∧ g < 2147483648) (r2 : -2147483648 ≤ x ∧ x < 2147483648) (a1 : zRw m) : f_X7_play 50 e1 e2 (zM m) = some (zI (if (0 ≤ g ∧ g < m 51 1) ∧ (0 ≤ x ∧ x ≤ 2) then (if m 51 (78 + g) = -1 then 1 else -3) else -2), zM (if ((0 ≤ g ∧ g < m 51 1) ∧ (0 ≤ x ∧ x ≤ 2)) ∧ m 51 (78 + g) = -1 then zU m 51 (78 + g) x else m)) := by
  subst e3; subst e4
  have hN := a1.1.2.1
  refine zOk.eq ?_
  unfold f_X7_play
  (first
    | (with_reducible apply z_nm; (case he => repeat (with_reducible first | exact zv_l _ | exact zv_r | apply zv_add | apply zv_neg)))
    | (with_reducible apply z_b_ck; (case h => with_unfolding_all rfl))
    | (with_reducible apply z_b_R; (case h => first | with_unfolding_all rfl))
    | (with_reducible apply z_L; (case he => repeat (with_reducible first | exact zv_l _ | exact zv_r | apply zv_add | apply zv_neg)); (case hn => with_reducible first | assumption | exact zl_2 | exact zl_51); (case h => omega); (case hy => first | ((simp (disch := omega) only [zU_c, zU_e, zU_k, zF_c, zF_i, zF_o, zW_o, zW_i, zC_c, zC_i, zC_o]); rfl) | rfl))
    | (with_reducible apply z_S; (case he => repeat (with_reducible first | exact zv_l _ | exact zv_r | apply zv_add | apply zv_neg)); (case hg => repeat (with_reducible first | exact zv_l _ | exact zv_r | apply zv_add | apply zv_neg)); (case hn => with_reducible first | assumption | exact zl_2 | exact zl_51); (case h => omega))
    | (with_reducible apply z_in; (case hA => first | with_reducible exact zj_l _ (by decide) | with_reducible exact zj_m1 | (with_reducible apply zj_e; repeat (with_reducible first | exact zv_l _ | exact zv_r | apply zv_add | apply zv_neg))); (case hL => first | with_reducible exact zj_l _ (by decide) | with_reducible exact zj_m1 | (with_reducible apply zj_e; repeat (with_reducible first | exact zv_l _ | exact zv_r | apply zv_add | apply zv_neg))); (case hH => first | with_reducible exact zj_l _ (by decide) | with_reducible exact zj_m1 | (with_reducible apply zj_e; repeat (with_reducible first | exact zv_l _ | exact zv_r | apply zv_add | apply zv_neg))); (case rx => omega); (case rl => omega); (case rh => omega))
    | (with_reducible apply z_7isGame; (case e1 => repeat (with_reducible first | exact zv_l _ | exact zv_r | apply zv_add | apply zv_neg)); (case r1 => first | omega | ((simp (disch := omega) only [zU_c, zU_e, zU_k, zF_c, zF_i, zF_o, zW_o, zW_i, zC_c, zC_i, zC_o]); omega)); (case r2 => first | omega | ((simp (disch := omega) only [zU_c, zU_e, zU_k, zF_c, zF_i, zF_o, zW_o, zW_i, zC_c, zC_i, zC_o]); omega))))
  refine z_7isGame rfl r1 hN ?_
  (first
    | (with_reducible apply z_B; all_goals (intro _; try (exfalso; omega)))
    | (with_reducible apply z_E; all_goals intro _)
    | (with_reducible apply z_lt; (case ha => repeat (with_reducible first | exact zv_l _ | exact zv_r | apply zv_add | apply zv_neg)); (case hb => repeat (with_reducible first | exact zv_l _ | exact zv_r | apply zv_add | apply zv_neg)); (case hx => omega); (case hy => omega); all_goals (intro _; try (exfalso; omega)))
    | (with_reducible apply z_le; (case ha => repeat (with_reducible first | exact zv_l _ | exact zv_r | apply zv_add | apply zv_neg)); (case hb => repeat (with_reducible first | exact zv_l _ | exact zv_r | apply zv_add | apply zv_neg)); (case hx => omega); (case hy => omega); all_goals (intro _; try (exfalso; omega)))
    | (with_reducible apply z_eq; (case ha => repeat (with_reducible first | exact zv_l _ | exact zv_r | apply zv_add | apply zv_neg)); (case hb => repeat (with_reducible first | exact zv_l _ | exact zv_r | apply zv_add | apply zv_neg)); (case hx => omega); (case hy => omega); all_goals (intro _; try (exfalso; omega))))
  · rename_i hq
    rw [if_neg (fun q => hq q.1), if_neg (fun q => hq q.1.1)]
    exact ⟨_, _, rfl, rfl, rfl⟩
  · rename_i hq
    have hg := (a1.2.2 g hq.1 hq.2).1
    (first
    | (with_reducible apply z_nm; (case he => repeat (with_reducible first | exact zv_l _ | exact zv_r | apply zv_add | apply zv_neg)))
    | (with_reducible apply z_b_ck; (case h => with_unfolding_all rfl))
    | (with_reducible apply z_b_R; (case h => first | with_unfolding_all rfl))
    | (with_reducible apply z_L; (case he => repeat (with_reducible first | exact zv_l _ | exact zv_r | apply zv_add | apply zv_neg)); (case hn => with_reducible first | assumption | exact zl_2 | exact zl_51); (case h => omega); (case hy => first | ((simp (disch := omega) only [zU_c, zU_e, zU_k, zF_c, zF_i, zF_o, zW_o, zW_i, zC_c, zC_i, zC_o]); rfl) | rfl))
    | (with_reducible apply z_S; (case he => repeat (with_reducible first | exact zv_l _ | exact zv_r | apply zv_add | apply zv_neg)); (case hg => repeat (with_reducible first | exact zv_l _ | exact zv_r | apply zv_add | apply zv_neg)); (case hn => with_reducible first | assumption | exact zl_2 | exact zl_51); (case h => omega))
    | (with_reducible apply z_in; (case hA => first | with_reducible exact zj_l _ (by decide) | with_reducible exact zj_m1 | (with_reducible apply zj_e; repeat (with_reducible first | exact zv_l _ | exact zv_r | apply zv_add | apply zv_neg))); (case hL => first | with_reducible exact zj_l _ (by decide) | with_reducible exact zj_m1 | (with_reducible apply zj_e; repeat (with_reducible first | exact zv_l _ | exact zv_r | apply zv_add | apply zv_neg))); (case hH => first | with_reducible exact zj_l _ (by decide) | with_reducible exact zj_m1 | (with_reducible apply zj_e; repeat (with_reducible first | exact zv_l _ | exact zv_r | apply zv_add | apply zv_neg))); (case rx => omega); (case rl => omega); (case rh => omega))
    | (with_reducible apply z_7isGame; (case e1 => repeat (with_reducible first | exact zv_l _ | exact zv_r | apply zv_add | apply zv_neg)); (case r1 => first | omega | ((simp (disch := omega) only [zU_c, zU_e, zU_k, zF_c, zF_i, zF_o, zW_o, zW_i, zC_c, zC_i, zC_o]); omega)); (case r2 => first | omega | ((simp (disch := omega) only [zU_c, zU_e, zU_k, zF_c, zF_i, zF_o, zW_o, zW_i, zC_c, zC_i, zC_o]); omega))))
    (first
    | (with_reducible apply z_B; all_goals (intro _; try (exfalso; omega)))
    | (with_reducible apply z_E; all_goals intro _)
    | (with_reducible apply z_lt; (case ha => repeat (with_reducible first | exact zv_l _ | exact zv_r | apply zv_add | apply zv_neg)); (case hb => repeat (with_reducible first | exact zv_l _ | exact zv_r | apply zv_add | apply zv_neg)); (case hx => omega); (case hy => omega); all_goals (intro _; try (exfalso; omega)))
    | (with_reducible apply z_le; (case ha => repeat (with_reducible first | exact zv_l _ | exact zv_r | apply zv_add | apply zv_neg)); (case hb => repeat (with_reducible first | exact zv_l _ | exact zv_r | apply zv_add | apply zv_neg)); (case hx => omega); (case hy => omega); all_goals (intro _; try (exfalso; omega)))
    | (with_reducible apply z_eq; (case ha => repeat (with_reducible first | exact zv_l _ | exact zv_r | apply zv_add | apply zv_neg)); (case hb => repeat (with_reducible first | exact zv_l _ | exact zv_r | apply zv_add | apply zv_neg)); (case hx => omega); (case hy => omega); all_goals (intro _; try (exfalso; omega))))
    · rename_i hx
      rw [if_neg (fun q => hx q.2), if_neg (fun q => hx q.1.2)]
      exact ⟨_, _, rfl, rfl, rfl⟩
    · rename_i hx
      rw [if_pos ⟨hq, hx⟩]
      (first
    | (with_reducible apply z_nm; (case he => repeat (with_reducible first | exact zv_l _ | exact zv_r | apply zv_add | apply zv_neg)))
    | (with_reducible apply z_b_ck; (case h => with_unfolding_all rfl))
    | (with_reducible apply z_b_R; (case h => first | with_unfolding_all rfl))
    | (with_reducible apply z_L; (case he => repeat (with_reducible first | exact zv_l _ | exact zv_r | apply zv_add | apply zv_neg)); (case hn => with_reducible first | assumption | exact zl_2 | exact zl_51); (case h => omega); (case hy => first | ((simp (disch := omega) only [zU_c, zU_e, zU_k, zF_c, zF_i, zF_o, zW_o, zW_i, zC_c, zC_i, zC_o]); rfl) | rfl))
    | (with_reducible apply z_S; (case he => repeat (with_reducible first | exact zv_l _ | exact zv_r | apply zv_add | apply zv_neg)); (case hg => repeat (with_reducible first | exact zv_l _ | exact zv_r | apply zv_add | apply zv_neg)); (case hn => with_reducible first | assumption | exact zl_2 | exact zl_51); (case h => omega))
    | (with_reducible apply z_in; (case hA => first | with_reducible exact zj_l _ (by decide) | with_reducible exact zj_m1 | (with_reducible apply zj_e; repeat (with_reducible first | exact zv_l _ | exact zv_r | apply zv_add | apply zv_neg))); (case hL => first | with_reducible exact zj_l _ (by decide) | with_reducible exact zj_m1 | (with_reducible apply zj_e; repeat (with_reducible first | exact zv_l _ | exact zv_r | apply zv_add | apply zv_neg))); (case hH => first | with_reducible exact zj_l _ (by decide) | with_reducible exact zj_m1 | (with_reducible apply zj_e; repeat (with_reducible first | exact zv_l _ | exact zv_r | apply zv_add | apply zv_neg))); (case rx => omega); (case rl => omega); (case rh => omega))
    | (with_reducible apply z_7isGame; (case e1 => repeat (with_reducible first | exact zv_l _ | exact zv_r | apply zv_add | apply zv_neg)); (case r1 => first | omega | ((simp (disch := omega) only [zU_c, zU_e, zU_k, zF_c, zF_i, zF_o, zW_o, zW_i, zC_c, zC_i, zC_o]); omega)); (case r2 => first | omega | ((simp (disch := omega) only [zU_c, zU_e, zU_k, zF_c, zF_i, zF_o, zW_o, zW_i, zC_c, zC_i, zC_o]); omega))))
      (first
    | (with_reducible apply z_nm; (case he => repeat (with_reducible first | exact zv_l _ | exact zv_r | apply zv_add | apply zv_neg)))
    | (with_reducible apply z_b_ck; (case h => with_unfolding_all rfl))
    | (with_reducible apply z_b_R; (case h => first | with_unfolding_all rfl))
    | (with_reducible apply z_L; (case he => repeat (with_reducible first | exact zv_l _ | exact zv_r | apply zv_add | apply zv_neg)); (case hn => with_reducible first | assumption | exact zl_2 | exact zl_51); (case h => omega); (case hy => first | ((simp (disch := omega) only [zU_c, zU_e, zU_k, zF_c, zF_i, zF_o, zW_o, zW_i, zC_c, zC_i, zC_o]); rfl) | rfl))
    | (with_reducible apply z_S; (case he => repeat (with_reducible first | exact zv_l _ | exact zv_r | apply zv_add | apply zv_neg)); (case hg => repeat (with_reducible first | exact zv_l _ | exact zv_r | apply zv_add | apply zv_neg)); (case hn => with_reducible first | assumption | exact zl_2 | exact zl_51); (case h => omega))
    | (with_reducible apply z_in; (case hA => first | with_reducible exact zj_l _ (by decide) | with_reducible exact zj_m1 | (with_reducible apply zj_e; repeat (with_reducible first | exact zv_l _ | exact zv_r | apply zv_add | apply zv_neg))); (case hL => first | with_reducible exact zj_l _ (by decide) | with_reducible exact zj_m1 | (with_reducible apply zj_e; repeat (with_reducible first | exact zv_l _ | exact zv_r | apply zv_add | apply zv_neg))); (case hH => first | with_reducible exact zj_l _ (by decide) | with_reducible exact zj_m1 | (with_reducible apply zj_e; repeat (with_reducible first | exact zv_l _ | exact zv_r | apply zv_add | apply zv_neg))); (case rx => omega); (case rl => omega); (case rh => omega))
    | (with_reducible apply z_7isGame; (case e1 => repeat (with_reducible first | exact zv_l _ | exact zv_r | apply zv_add | apply zv_neg)); (case r1 => first | omega | ((simp (disch := omega) only [zU_c, zU_e, zU_k, zF_c, zF_i, zF_o, zW_o, zW_i, zC_c, zC_i, zC_o]); omega)); (case r2 => first | omega | ((simp (disch := omega) only [zU_c, zU_e, zU_k, zF_c, zF_i, zF_o, zW_o, zW_i, zC_c, zC_i, zC_o]); omega))))
      (first
    | (with_reducible apply z_B; all_goals (intro _; try (exfalso; omega)))
    | (with_reducible apply z_E; all_goals intro _)
    | (with_reducible apply z_lt; (case ha => repeat (with_reducible first | exact zv_l _ | exact zv_r | apply zv_add | apply zv_neg)); (case hb => repeat (with_reducible first | exact zv_l _ | exact zv_r | apply zv_add | apply zv_neg)); (case hx => omega); (case hy => omega); all_goals (intro _; try (exfalso; omega)))
    | (with_reducible apply z_le; (case ha => repeat (with_reducible first | exact zv_l _ | exact zv_r | apply zv_add | apply zv_neg)); (case hb => repeat (with_reducible first | exact zv_l _ | exact zv_r | apply zv_add | apply zv_neg)); (case hx => omega); (case hy => omega); all_goals (intro _; try (exfalso; omega)))
    | (with_reducible apply z_eq; (case ha => repeat (with_reducible first | exact zv_l _ | exact zv_r | apply zv_add | apply zv_neg)); (case hb => repeat (with_reducible first | exact zv_l _ | exact zv_r | apply zv_add | apply zv_neg)); (case hx => omega); (case hy => omega); all_goals (intro _; try (exfalso; omega))))
      · rename_i hl
        rw [if_pos hl, if_pos ⟨⟨hq, hx⟩, hl⟩]
        repeat' (first
    | (with_reducible apply z_nm; (case he => repeat (with_reducible first | exact zv_l _ | exact zv_r | apply zv_add | apply zv_neg)))
    | (with_reducible apply z_b_ck; (case h => with_unfolding_all rfl))
    | (with_reducible apply z_b_R; (case h => first | with_unfolding_all rfl))
    | (with_reducible apply z_L; (case he => repeat (with_reducible first | exact zv_l _ | exact zv_r | apply zv_add | apply zv_neg)); (case hn => with_reducible first | assumption | exact zl_2 | exact zl_51); (case h => omega); (case hy => first | ((simp (disch := omega) only [zU_c, zU_e, zU_k, zF_c, zF_i, zF_o, zW_o, zW_i, zC_c, zC_i, zC_o]); rfl) | rfl))
    | (with_reducible apply z_S; (case he => repeat (with_reducible first | exact zv_l _ | exact zv_r | apply zv_add | apply zv_neg)); (case hg => repeat (with_reducible first | exact zv_l _ | exact zv_r | apply zv_add | apply zv_neg)); (case hn => with_reducible first | assumption | exact zl_2 | exact zl_51); (case h => omega))
    | (with_reducible apply z_in; (case hA => first | with_reducible exact zj_l _ (by decide) | with_reducible exact zj_m1 | (with_reducible apply zj_e; repeat (with_reducible first | exact zv_l _ | exact zv_r | apply zv_add | apply zv_neg))); (case hL => first | with_reducible exact zj_l _ (by decide) | with_reducible exact zj_m1 | (with_reducible apply zj_e; repeat (with_reducible first | exact zv_l _ | exact zv_r | apply zv_add | apply zv_neg))); (case hH => first | with_reducible exact zj_l _ (by decide) | with_reducible exact zj_m1 | (with_reducible apply zj_e; repeat (with_reducible first | exact zv_l _ | exact zv_r | apply zv_add | apply zv_neg))); (case rx => omega); (case rl => omega); (case rh => omega))
    | (with_reducible apply z_7isGame; (case e1 => repeat (with_reducible first | exact zv_l _ | exact zv_r | apply zv_add | apply zv_neg)); (case r1 => first | omega | ((simp (disch := omega) only [zU_c, zU_e, zU_k, zF_c, zF_i, zF_o, zW_o, zW_i, zC_c, zC_i, zC_o]); omega)); (case r2 => first | omega | ((simp (disch := omega) only [zU_c, zU_e, zU_k, zF_c, zF_i, zF_o, zW_o, zW_i, zC_c, zC_i, zC_o]); omega))))
        exact ⟨_, _, rfl, rfl, rfl⟩
      · rename_i hl
        rw [if_neg hl, if_neg (fun q => hl q.2)]
        exact ⟨_, _, rfl, rfl, rfl⟩
theorem z_7play {m : zMe} {e1 e2 : Int32} {g x : Int} (e3 : e1 = zI g) (e4 : e2 = zI x) (r1 : -2147483648 ≤ g ∧ g < 2147483648) (r2 : -2147483648 ≤ x ∧ x < 2147483648) (a1 : zRw m) {α : Type} {kf : Int32 × Hp → Option (α × Hp)} {Q : α → zMe → Prop} (K : zOk (kf (zI (if (0 ≤ g ∧ g < m 51 1) ∧ (0 ≤ x ∧ x ≤ 2) then (if m 51 (78 + g) = -1 then 1 else -3) else -2), zM (if ((0 ≤ g ∧ g < m 51 1) ∧ (0 ≤ x ∧ x ≤ 2)) ∧ m 51 (78 + g) = -1 then zU m 51 (78 + g) x else m))) Q) : zOk ((f_X7_play 50 e1 e2 (zM m)).bind kf) Q := z_b (s_7play e3 e4 r1 r2 a1) K
set_option maxRecDepth 100000 in
set_option maxHeartbeats 1000000 in
theorem s_7unplay {m : zMe} {e : Int32} {g : Int} (e1 : e = zI g) (r1 : -2147483648 ≤ g ∧ g < 2147483648) (a1 : zRw m) : f_X7_unplay 50 e (zM m) = some (zI (if 0 ≤ g ∧ g < m 51 1 then (if m 51 (78 + g) = -1 then -3 else m 51 (78 + g)) else -2), zM (if (0 ≤ g ∧ g < m 51 1) ∧ ¬ m 51 (78 + g) = -1 then zU m 51 (78 + g) (-1) else m)) := by
  subst e1
  have hN := a1.1.2.1
  refine zOk.eq ?_
  unfold f_X7_unplay
  (first
    | (with_reducible apply z_nm; (case he => repeat (with_reducible first | exact zv_l _ | exact zv_r | apply zv_add | apply zv_neg)))
    | (with_reducible apply z_b_ck; (case h => with_unfolding_all rfl))
    | (with_reducible apply z_b_R; (case h => first | with_unfolding_all rfl))
    | (with_reducible apply z_L; (case he => repeat (with_reducible first | exact zv_l _ | exact zv_r | apply zv_add | apply zv_neg)); (case hn => with_reducible first | assumption | exact zl_2 | exact zl_51); (case h => omega); (case hy => first | ((simp (disch := omega) only [zU_c, zU_e, zU_k, zF_c, zF_i, zF_o, zW_o, zW_i, zC_c, zC_i, zC_o]); rfl) | rfl))
    | (with_reducible apply z_S; (case he => repeat (with_reducible first | exact zv_l _ | exact zv_r | apply zv_add | apply zv_neg)); (case hg => repeat (with_reducible first | exact zv_l _ | exact zv_r | apply zv_add | apply zv_neg)); (case hn => with_reducible first | assumption | exact zl_2 | exact zl_51); (case h => omega))
    | (with_reducible apply z_7isGame; (case e1 => repeat (with_reducible first | exact zv_l _ | exact zv_r | apply zv_add | apply zv_neg)); (case r1 => first | omega | ((simp (disch := omega) only [zU_c, zU_e, zU_k, zF_c, zF_i, zF_o, zW_o, zW_i, zC_c, zC_i, zC_o]); omega)); (case r2 => first | omega | ((simp (disch := omega) only [zU_c, zU_e, zU_k, zF_c, zF_i, zF_o, zW_o, zW_i, zC_c, zC_i, zC_o]); omega))))
  refine z_7isGame rfl r1 hN ?_
  (first
    | (with_reducible apply z_B; all_goals (intro _; try (exfalso; omega)))
    | (with_reducible apply z_E; all_goals intro _)
    | (with_reducible apply z_lt; (case ha => repeat (with_reducible first | exact zv_l _ | exact zv_r | apply zv_add | apply zv_neg)); (case hb => repeat (with_reducible first | exact zv_l _ | exact zv_r | apply zv_add | apply zv_neg)); (case hx => omega); (case hy => omega); all_goals (intro _; try (exfalso; omega)))
    | (with_reducible apply z_le; (case ha => repeat (with_reducible first | exact zv_l _ | exact zv_r | apply zv_add | apply zv_neg)); (case hb => repeat (with_reducible first | exact zv_l _ | exact zv_r | apply zv_add | apply zv_neg)); (case hx => omega); (case hy => omega); all_goals (intro _; try (exfalso; omega)))
    | (with_reducible apply z_eq; (case ha => repeat (with_reducible first | exact zv_l _ | exact zv_r | apply zv_add | apply zv_neg)); (case hb => repeat (with_reducible first | exact zv_l _ | exact zv_r | apply zv_add | apply zv_neg)); (case hx => omega); (case hy => omega); all_goals (intro _; try (exfalso; omega))))
  · rename_i hq
    rw [if_neg hq, if_neg (fun q => hq q.1)]
    exact ⟨_, _, rfl, rfl, rfl⟩
  · rename_i hq
    have hg := (a1.2.2 g hq.1 hq.2).1
    rw [if_pos hq]
    (first
    | (with_reducible apply z_nm; (case he => repeat (with_reducible first | exact zv_l _ | exact zv_r | apply zv_add | apply zv_neg)))
    | (with_reducible apply z_b_ck; (case h => with_unfolding_all rfl))
    | (with_reducible apply z_b_R; (case h => first | with_unfolding_all rfl))
    | (with_reducible apply z_L; (case he => repeat (with_reducible first | exact zv_l _ | exact zv_r | apply zv_add | apply zv_neg)); (case hn => with_reducible first | assumption | exact zl_2 | exact zl_51); (case h => omega); (case hy => first | ((simp (disch := omega) only [zU_c, zU_e, zU_k, zF_c, zF_i, zF_o, zW_o, zW_i, zC_c, zC_i, zC_o]); rfl) | rfl))
    | (with_reducible apply z_S; (case he => repeat (with_reducible first | exact zv_l _ | exact zv_r | apply zv_add | apply zv_neg)); (case hg => repeat (with_reducible first | exact zv_l _ | exact zv_r | apply zv_add | apply zv_neg)); (case hn => with_reducible first | assumption | exact zl_2 | exact zl_51); (case h => omega))
    | (with_reducible apply z_7isGame; (case e1 => repeat (with_reducible first | exact zv_l _ | exact zv_r | apply zv_add | apply zv_neg)); (case r1 => first | omega | ((simp (disch := omega) only [zU_c, zU_e, zU_k, zF_c, zF_i, zF_o, zW_o, zW_i, zC_c, zC_i, zC_o]); omega)); (case r2 => first | omega | ((simp (disch := omega) only [zU_c, zU_e, zU_k, zF_c, zF_i, zF_o, zW_o, zW_i, zC_c, zC_i, zC_o]); omega))))
    (first
    | (with_reducible apply z_nm; (case he => repeat (with_reducible first | exact zv_l _ | exact zv_r | apply zv_add | apply zv_neg)))
    | (with_reducible apply z_b_ck; (case h => with_unfolding_all rfl))
    | (with_reducible apply z_b_R; (case h => first | with_unfolding_all rfl))
    | (with_reducible apply z_L; (case he => repeat (with_reducible first | exact zv_l _ | exact zv_r | apply zv_add | apply zv_neg)); (case hn => with_reducible first | assumption | exact zl_2 | exact zl_51); (case h => omega); (case hy => first | ((simp (disch := omega) only [zU_c, zU_e, zU_k, zF_c, zF_i, zF_o, zW_o, zW_i, zC_c, zC_i, zC_o]); rfl) | rfl))
    | (with_reducible apply z_S; (case he => repeat (with_reducible first | exact zv_l _ | exact zv_r | apply zv_add | apply zv_neg)); (case hg => repeat (with_reducible first | exact zv_l _ | exact zv_r | apply zv_add | apply zv_neg)); (case hn => with_reducible first | assumption | exact zl_2 | exact zl_51); (case h => omega))
    | (with_reducible apply z_7isGame; (case e1 => repeat (with_reducible first | exact zv_l _ | exact zv_r | apply zv_add | apply zv_neg)); (case r1 => first | omega | ((simp (disch := omega) only [zU_c, zU_e, zU_k, zF_c, zF_i, zF_o, zW_o, zW_i, zC_c, zC_i, zC_o]); omega)); (case r2 => first | omega | ((simp (disch := omega) only [zU_c, zU_e, zU_k, zF_c, zF_i, zF_o, zW_o, zW_i, zC_c, zC_i, zC_o]); omega))))
    (first
    | (with_reducible apply z_B; all_goals (intro _; try (exfalso; omega)))
    | (with_reducible apply z_E; all_goals intro _)
    | (with_reducible apply z_lt; (case ha => repeat (with_reducible first | exact zv_l _ | exact zv_r | apply zv_add | apply zv_neg)); (case hb => repeat (with_reducible first | exact zv_l _ | exact zv_r | apply zv_add | apply zv_neg)); (case hx => omega); (case hy => omega); all_goals (intro _; try (exfalso; omega)))
    | (with_reducible apply z_le; (case ha => repeat (with_reducible first | exact zv_l _ | exact zv_r | apply zv_add | apply zv_neg)); (case hb => repeat (with_reducible first | exact zv_l _ | exact zv_r | apply zv_add | apply zv_neg)); (case hx => omega); (case hy => omega); all_goals (intro _; try (exfalso; omega)))
    | (with_reducible apply z_eq; (case ha => repeat (with_reducible first | exact zv_l _ | exact zv_r | apply zv_add | apply zv_neg)); (case hb => repeat (with_reducible first | exact zv_l _ | exact zv_r | apply zv_add | apply zv_neg)); (case hx => omega); (case hy => omega); all_goals (intro _; try (exfalso; omega))))
    · rename_i hl
      rw [if_pos hl, if_neg (fun q => q.2 hl)]
      exact ⟨_, _, rfl, rfl, rfl⟩
    · rename_i hl
      rw [if_neg hl, if_pos ⟨hq, hl⟩]
      repeat' (first
    | (with_reducible apply z_nm; (case he => repeat (with_reducible first | exact zv_l _ | exact zv_r | apply zv_add | apply zv_neg)))
    | (with_reducible apply z_b_ck; (case h => with_unfolding_all rfl))
    | (with_reducible apply z_b_R; (case h => first | with_unfolding_all rfl))
    | (with_reducible apply z_L; (case he => repeat (with_reducible first | exact zv_l _ | exact zv_r | apply zv_add | apply zv_neg)); (case hn => with_reducible first | assumption | exact zl_2 | exact zl_51); (case h => omega); (case hy => first | ((simp (disch := omega) only [zU_c, zU_e, zU_k, zF_c, zF_i, zF_o, zW_o, zW_i, zC_c, zC_i, zC_o]); rfl) | rfl))
    | (with_reducible apply z_S; (case he => repeat (with_reducible first | exact zv_l _ | exact zv_r | apply zv_add | apply zv_neg)); (case hg => repeat (with_reducible first | exact zv_l _ | exact zv_r | apply zv_add | apply zv_neg)); (case hn => with_reducible first | assumption | exact zl_2 | exact zl_51); (case h => omega))
    | (with_reducible apply z_7isGame; (case e1 => repeat (with_reducible first | exact zv_l _ | exact zv_r | apply zv_add | apply zv_neg)); (case r1 => first | omega | ((simp (disch := omega) only [zU_c, zU_e, zU_k, zF_c, zF_i, zF_o, zW_o, zW_i, zC_c, zC_i, zC_o]); omega)); (case r2 => first | omega | ((simp (disch := omega) only [zU_c, zU_e, zU_k, zF_c, zF_i, zF_o, zW_o, zW_i, zC_c, zC_i, zC_o]); omega))))
      exact ⟨_, _, rfl, rfl, rfl⟩
theorem z_7unplay {m : zMe} {e : Int32} {g : Int} (e1 : e = zI g) (r1 : -2147483648 ≤ g ∧ g < 2147483648) (a1 : zRw m) {α : Type} {kf : Int32 × Hp → Option (α × Hp)} {Q : α → zMe → Prop} (K : zOk (kf (zI (if 0 ≤ g ∧ g < m 51 1 then (if m 51 (78 + g) = -1 then -3 else m 51 (78 + g)) else -2), zM (if (0 ≤ g ∧ g < m 51 1) ∧ ¬ m 51 (78 + g) = -1 then zU m 51 (78 + g) (-1) else m))) Q) : zOk ((f_X7_unplay 50 e (zM m)).bind kf) Q := z_b (s_7unplay e1 r1 a1) K
set_option maxRecDepth 100000 in
set_option maxHeartbeats 1000000 in
theorem s_7game {m : zMe} {e1 e2 : Int32} {g w : Int} (e3 : e1 = zI g) (e4 : e2 = zI w) (r1 : -2147483648 ≤ g ∧ g < 2147483648) (r2 : -2147483648 ≤ w ∧ w < 2147483648) (a1 : zRw m) : f_X7_game 50 e1 e2 (zM m) = some (zI (if 0 ≤ g ∧ g < m 51 1 then (if w = 0 then m 51 (51 + g) else if w = 1 then m 51 (60 + g) else if w = 2 then m 51 (69 + g) else if w = 3 then m 51 (78 + g) else -2) else -2), zM (m)) := by
  subst e3; subst e4
  have hN := a1.1.2.1
  refine zOk.eq ?_
  unfold f_X7_game
  (first
    | (with_reducible apply z_nm; (case he => repeat (with_reducible first | exact zv_l _ | exact zv_r | apply zv_add | apply zv_mul | apply zv_neg)))
    | (with_reducible apply z_b_ck; (case h => with_unfolding_all rfl))
    | (with_reducible apply z_b_R; (case h => first | with_unfolding_all rfl))
    | (with_reducible apply z_L; (case he => repeat (with_reducible first | exact zv_l _ | exact zv_r | apply zv_add | apply zv_mul | apply zv_neg)); (case hn => with_reducible first | assumption | exact zl_2 | exact zl_9 | exact zl_51 | exact zl_60); (case h => omega); (case hy => first | ((simp (disch := omega) only [zU_c, zU_e, zU_k, zF_c, zF_i, zF_o, zW_o, zW_i, zC_c, zC_i, zC_o]); rfl) | rfl))
    | (with_reducible apply z_in; (case hA => first | with_reducible exact zj_l _ (by decide) | with_reducible exact zj_m1 | (with_reducible apply zj_e; repeat (with_reducible first | exact zv_l _ | exact zv_r | apply zv_add | apply zv_mul | apply zv_neg))); (case hL => first | with_reducible exact zj_l _ (by decide) | with_reducible exact zj_m1 | (with_reducible apply zj_e; repeat (with_reducible first | exact zv_l _ | exact zv_r | apply zv_add | apply zv_mul | apply zv_neg))); (case hH => first | with_reducible exact zj_l _ (by decide) | with_reducible exact zj_m1 | (with_reducible apply zj_e; repeat (with_reducible first | exact zv_l _ | exact zv_r | apply zv_add | apply zv_mul | apply zv_neg))); (case rx => omega); (case rl => omega); (case rh => omega))
    | (with_reducible apply z_7isGame; (case e1 => repeat (with_reducible first | exact zv_l _ | exact zv_r | apply zv_add | apply zv_mul | apply zv_neg)); (case r1 => first | omega | ((simp (disch := omega) only [zU_c, zU_e, zU_k, zF_c, zF_i, zF_o, zW_o, zW_i, zC_c, zC_i, zC_o]); omega)); (case r2 => first | omega | ((simp (disch := omega) only [zU_c, zU_e, zU_k, zF_c, zF_i, zF_o, zW_o, zW_i, zC_c, zC_i, zC_o]); omega))))
  refine z_7isGame rfl r1 hN ?_
  (first
    | (with_reducible apply z_B; all_goals (intro _; try (exfalso; omega)))
    | (with_reducible apply z_E; all_goals intro _)
    | (with_reducible apply z_lt; (case ha => repeat (with_reducible first | exact zv_l _ | exact zv_r | apply zv_add | apply zv_mul | apply zv_neg)); (case hb => repeat (with_reducible first | exact zv_l _ | exact zv_r | apply zv_add | apply zv_mul | apply zv_neg)); (case hx => omega); (case hy => omega); all_goals (intro _; try (exfalso; omega)))
    | (with_reducible apply z_le; (case ha => repeat (with_reducible first | exact zv_l _ | exact zv_r | apply zv_add | apply zv_mul | apply zv_neg)); (case hb => repeat (with_reducible first | exact zv_l _ | exact zv_r | apply zv_add | apply zv_mul | apply zv_neg)); (case hx => omega); (case hy => omega); all_goals (intro _; try (exfalso; omega)))
    | (with_reducible apply z_eq; (case ha => repeat (with_reducible first | exact zv_l _ | exact zv_r | apply zv_add | apply zv_mul | apply zv_neg)); (case hb => repeat (with_reducible first | exact zv_l _ | exact zv_r | apply zv_add | apply zv_mul | apply zv_neg)); (case hx => omega); (case hy => omega); all_goals (intro _; try (exfalso; omega))))
  · rename_i hq
    rw [if_neg hq]
    exact ⟨_, _, rfl, rfl, rfl⟩
  · rename_i hq
    rw [if_pos hq]
    (first
    | (with_reducible apply z_nm; (case he => repeat (with_reducible first | exact zv_l _ | exact zv_r | apply zv_add | apply zv_mul | apply zv_neg)))
    | (with_reducible apply z_b_ck; (case h => with_unfolding_all rfl))
    | (with_reducible apply z_b_R; (case h => first | with_unfolding_all rfl))
    | (with_reducible apply z_L; (case he => repeat (with_reducible first | exact zv_l _ | exact zv_r | apply zv_add | apply zv_mul | apply zv_neg)); (case hn => with_reducible first | assumption | exact zl_2 | exact zl_9 | exact zl_51 | exact zl_60); (case h => omega); (case hy => first | ((simp (disch := omega) only [zU_c, zU_e, zU_k, zF_c, zF_i, zF_o, zW_o, zW_i, zC_c, zC_i, zC_o]); rfl) | rfl))
    | (with_reducible apply z_in; (case hA => first | with_reducible exact zj_l _ (by decide) | with_reducible exact zj_m1 | (with_reducible apply zj_e; repeat (with_reducible first | exact zv_l _ | exact zv_r | apply zv_add | apply zv_mul | apply zv_neg))); (case hL => first | with_reducible exact zj_l _ (by decide) | with_reducible exact zj_m1 | (with_reducible apply zj_e; repeat (with_reducible first | exact zv_l _ | exact zv_r | apply zv_add | apply zv_mul | apply zv_neg))); (case hH => first | with_reducible exact zj_l _ (by decide) | with_reducible exact zj_m1 | (with_reducible apply zj_e; repeat (with_reducible first | exact zv_l _ | exact zv_r | apply zv_add | apply zv_mul | apply zv_neg))); (case rx => omega); (case rl => omega); (case rh => omega))
    | (with_reducible apply z_7isGame; (case e1 => repeat (with_reducible first | exact zv_l _ | exact zv_r | apply zv_add | apply zv_mul | apply zv_neg)); (case r1 => first | omega | ((simp (disch := omega) only [zU_c, zU_e, zU_k, zF_c, zF_i, zF_o, zW_o, zW_i, zC_c, zC_i, zC_o]); omega)); (case r2 => first | omega | ((simp (disch := omega) only [zU_c, zU_e, zU_k, zF_c, zF_i, zF_o, zW_o, zW_i, zC_c, zC_i, zC_o]); omega))))
    (first
    | (with_reducible apply z_B; all_goals (intro _; try (exfalso; omega)))
    | (with_reducible apply z_E; all_goals intro _)
    | (with_reducible apply z_lt; (case ha => repeat (with_reducible first | exact zv_l _ | exact zv_r | apply zv_add | apply zv_mul | apply zv_neg)); (case hb => repeat (with_reducible first | exact zv_l _ | exact zv_r | apply zv_add | apply zv_mul | apply zv_neg)); (case hx => omega); (case hy => omega); all_goals (intro _; try (exfalso; omega)))
    | (with_reducible apply z_le; (case ha => repeat (with_reducible first | exact zv_l _ | exact zv_r | apply zv_add | apply zv_mul | apply zv_neg)); (case hb => repeat (with_reducible first | exact zv_l _ | exact zv_r | apply zv_add | apply zv_mul | apply zv_neg)); (case hx => omega); (case hy => omega); all_goals (intro _; try (exfalso; omega)))
    | (with_reducible apply z_eq; (case ha => repeat (with_reducible first | exact zv_l _ | exact zv_r | apply zv_add | apply zv_mul | apply zv_neg)); (case hb => repeat (with_reducible first | exact zv_l _ | exact zv_r | apply zv_add | apply zv_mul | apply zv_neg)); (case hx => omega); (case hy => omega); all_goals (intro _; try (exfalso; omega))))
    · rw [if_neg (by omega), if_neg (by omega), if_neg (by omega), if_neg (by omega)]
      exact ⟨_, _, rfl, rfl, rfl⟩
    · rename_i hw
      have hw4 : w = 0 ∨ w = 1 ∨ w = 2 ∨ w = 3 := by omega
      (first
    | (with_reducible apply z_nm; (case he => repeat (with_reducible first | exact zv_l _ | exact zv_r | apply zv_add | apply zv_mul | apply zv_neg)))
    | (with_reducible apply z_b_ck; (case h => with_unfolding_all rfl))
    | (with_reducible apply z_b_R; (case h => first | with_unfolding_all rfl))
    | (with_reducible apply z_L; (case he => repeat (with_reducible first | exact zv_l _ | exact zv_r | apply zv_add | apply zv_mul | apply zv_neg)); (case hn => with_reducible first | assumption | exact zl_2 | exact zl_9 | exact zl_51 | exact zl_60); (case h => omega); (case hy => first | ((simp (disch := omega) only [zU_c, zU_e, zU_k, zF_c, zF_i, zF_o, zW_o, zW_i, zC_c, zC_i, zC_o]); rfl) | rfl))
    | (with_reducible apply z_in; (case hA => first | with_reducible exact zj_l _ (by decide) | with_reducible exact zj_m1 | (with_reducible apply zj_e; repeat (with_reducible first | exact zv_l _ | exact zv_r | apply zv_add | apply zv_mul | apply zv_neg))); (case hL => first | with_reducible exact zj_l _ (by decide) | with_reducible exact zj_m1 | (with_reducible apply zj_e; repeat (with_reducible first | exact zv_l _ | exact zv_r | apply zv_add | apply zv_mul | apply zv_neg))); (case hH => first | with_reducible exact zj_l _ (by decide) | with_reducible exact zj_m1 | (with_reducible apply zj_e; repeat (with_reducible first | exact zv_l _ | exact zv_r | apply zv_add | apply zv_mul | apply zv_neg))); (case rx => omega); (case rl => omega); (case rh => omega))
    | (with_reducible apply z_7isGame; (case e1 => repeat (with_reducible first | exact zv_l _ | exact zv_r | apply zv_add | apply zv_mul | apply zv_neg)); (case r1 => first | omega | ((simp (disch := omega) only [zU_c, zU_e, zU_k, zF_c, zF_i, zF_o, zW_o, zW_i, zC_c, zC_i, zC_o]); omega)); (case r2 => first | omega | ((simp (disch := omega) only [zU_c, zU_e, zU_k, zF_c, zF_i, zF_o, zW_o, zW_i, zC_c, zC_i, zC_o]); omega))))
      refine z_L (x := 51 + 9 * w + g) (y := m 51 (51 + 9 * w + g)) (zv_add (zv_add (zv_l 51) (zv_mul (zv_l 9) rfl)) rfl) zl_51 (by omega) rfl ?_
      refine ⟨_, _, rfl, ?_, rfl⟩
      rcases hw4 with rfl | rfl | rfl | rfl
      · rfl
      · rfl
      · rfl
      · rfl
theorem z_7game {m : zMe} {e1 e2 : Int32} {g w : Int} (e3 : e1 = zI g) (e4 : e2 = zI w) (r1 : -2147483648 ≤ g ∧ g < 2147483648) (r2 : -2147483648 ≤ w ∧ w < 2147483648) (a1 : zRw m) {α : Type} {kf : Int32 × Hp → Option (α × Hp)} {Q : α → zMe → Prop} (K : zOk (kf (zI (if 0 ≤ g ∧ g < m 51 1 then (if w = 0 then m 51 (51 + g) else if w = 1 then m 51 (60 + g) else if w = 2 then m 51 (69 + g) else if w = 3 then m 51 (78 + g) else -2) else -2), zM (m))) Q) : zOk ((f_X7_game 50 e1 e2 (zM m)).bind kf) Q := z_b (s_7game e3 e4 r1 r2 a1) K
set_option maxRecDepth 100000 in
set_option maxHeartbeats 1000000 in
theorem s_7taken {m : zMe} {e : Int32} {k : Int} (e1 : e = zI k) (r1 : -2147483648 ≤ k ∧ k < 2147483648) (a1 : zRw m) : f_X7_taken 50 e (zM m) = some (zI (if 0 ≤ k ∧ k ≤ 2 then (if k ≤ m 51 2 then m 51 2 + 1 else -13) else -2), zM (m)) := by
  subst e1
  have hK := a1.1.2.2
  refine zOk.eq ?_
  unfold f_X7_taken
  repeat' (first
    | (with_reducible apply z_nm; (case he => repeat (with_reducible first | exact zv_l _ | exact zv_r | apply zv_add | apply zv_neg)))
    | (with_reducible apply z_b_ck; (case h => with_unfolding_all rfl))
    | (with_reducible apply z_b_R; (case h => first | with_unfolding_all rfl))
    | (with_reducible apply z_L; (case he => repeat (with_reducible first | exact zv_l _ | exact zv_r | apply zv_add | apply zv_neg)); (case hn => with_reducible first | assumption | exact zl_2 | exact zl_13 | exact zl_51); (case h => omega); (case hy => first | ((simp (disch := omega) only [zU_c, zU_e, zU_k, zF_c, zF_i, zF_o, zW_o, zW_i, zC_c, zC_i, zC_o]); rfl) | rfl))
    | (with_reducible apply z_in; (case hA => first | with_reducible exact zj_l _ (by decide) | with_reducible exact zj_m1 | (with_reducible apply zj_e; repeat (with_reducible first | exact zv_l _ | exact zv_r | apply zv_add | apply zv_neg))); (case hL => first | with_reducible exact zj_l _ (by decide) | with_reducible exact zj_m1 | (with_reducible apply zj_e; repeat (with_reducible first | exact zv_l _ | exact zv_r | apply zv_add | apply zv_neg))); (case hH => first | with_reducible exact zj_l _ (by decide) | with_reducible exact zj_m1 | (with_reducible apply zj_e; repeat (with_reducible first | exact zv_l _ | exact zv_r | apply zv_add | apply zv_neg))); (case rx => omega); (case rl => omega); (case rh => omega))
    | (with_reducible apply z_7wonBrings; (case r1 => first | omega | ((simp (disch := omega) only [zU_c, zU_e, zU_k, zF_c, zF_i, zF_o, zW_o, zW_i, zC_c, zC_i, zC_o]); omega))))
  (first
    | (with_reducible apply z_B; all_goals (intro _; try (exfalso; omega)))
    | (with_reducible apply z_E; all_goals intro _)
    | (with_reducible apply z_lt; (case ha => repeat (with_reducible first | exact zv_l _ | exact zv_r | apply zv_add | apply zv_neg)); (case hb => repeat (with_reducible first | exact zv_l _ | exact zv_r | apply zv_add | apply zv_neg)); (case hx => omega); (case hy => omega); all_goals (intro _; try (exfalso; omega)))
    | (with_reducible apply z_le; (case ha => repeat (with_reducible first | exact zv_l _ | exact zv_r | apply zv_add | apply zv_neg)); (case hb => repeat (with_reducible first | exact zv_l _ | exact zv_r | apply zv_add | apply zv_neg)); (case hx => omega); (case hy => omega); all_goals (intro _; try (exfalso; omega)))
    | (with_reducible apply z_eq; (case ha => repeat (with_reducible first | exact zv_l _ | exact zv_r | apply zv_add | apply zv_neg)); (case hb => repeat (with_reducible first | exact zv_l _ | exact zv_r | apply zv_add | apply zv_neg)); (case hx => omega); (case hy => omega); all_goals (intro _; try (exfalso; omega))))
  · rename_i hq
    rw [if_neg hq]
    exact ⟨_, _, rfl, rfl, rfl⟩
  · rename_i hq
    rw [if_pos hq]
    repeat' (first
    | (with_reducible apply z_nm; (case he => repeat (with_reducible first | exact zv_l _ | exact zv_r | apply zv_add | apply zv_neg)))
    | (with_reducible apply z_b_ck; (case h => with_unfolding_all rfl))
    | (with_reducible apply z_b_R; (case h => first | with_unfolding_all rfl))
    | (with_reducible apply z_L; (case he => repeat (with_reducible first | exact zv_l _ | exact zv_r | apply zv_add | apply zv_neg)); (case hn => with_reducible first | assumption | exact zl_2 | exact zl_13 | exact zl_51); (case h => omega); (case hy => first | ((simp (disch := omega) only [zU_c, zU_e, zU_k, zF_c, zF_i, zF_o, zW_o, zW_i, zC_c, zC_i, zC_o]); rfl) | rfl))
    | (with_reducible apply z_in; (case hA => first | with_reducible exact zj_l _ (by decide) | with_reducible exact zj_m1 | (with_reducible apply zj_e; repeat (with_reducible first | exact zv_l _ | exact zv_r | apply zv_add | apply zv_neg))); (case hL => first | with_reducible exact zj_l _ (by decide) | with_reducible exact zj_m1 | (with_reducible apply zj_e; repeat (with_reducible first | exact zv_l _ | exact zv_r | apply zv_add | apply zv_neg))); (case hH => first | with_reducible exact zj_l _ (by decide) | with_reducible exact zj_m1 | (with_reducible apply zj_e; repeat (with_reducible first | exact zv_l _ | exact zv_r | apply zv_add | apply zv_neg))); (case rx => omega); (case rl => omega); (case rh => omega))
    | (with_reducible apply z_7wonBrings; (case r1 => first | omega | ((simp (disch := omega) only [zU_c, zU_e, zU_k, zF_c, zF_i, zF_o, zW_o, zW_i, zC_c, zC_i, zC_o]); omega))))
    (first
    | (with_reducible apply z_B; all_goals (intro _; try (exfalso; omega)))
    | (with_reducible apply z_E; all_goals intro _)
    | (with_reducible apply z_lt; (case ha => repeat (with_reducible first | exact zv_l _ | exact zv_r | apply zv_add | apply zv_neg)); (case hb => repeat (with_reducible first | exact zv_l _ | exact zv_r | apply zv_add | apply zv_neg)); (case hx => omega); (case hy => omega); all_goals (intro _; try (exfalso; omega)))
    | (with_reducible apply z_le; (case ha => repeat (with_reducible first | exact zv_l _ | exact zv_r | apply zv_add | apply zv_neg)); (case hb => repeat (with_reducible first | exact zv_l _ | exact zv_r | apply zv_add | apply zv_neg)); (case hx => omega); (case hy => omega); all_goals (intro _; try (exfalso; omega)))
    | (with_reducible apply z_eq; (case ha => repeat (with_reducible first | exact zv_l _ | exact zv_r | apply zv_add | apply zv_neg)); (case hb => repeat (with_reducible first | exact zv_l _ | exact zv_r | apply zv_add | apply zv_neg)); (case hx => omega); (case hy => omega); all_goals (intro _; try (exfalso; omega))))
    · rw [if_neg (by omega)]
      exact ⟨_, _, rfl, rfl, rfl⟩
    · rw [if_pos (by omega)]
      refine z_7wonBrings hK ?_
      exact ⟨_, _, rfl, rfl, rfl⟩
theorem z_7taken {m : zMe} {e : Int32} {k : Int} (e1 : e = zI k) (r1 : -2147483648 ≤ k ∧ k < 2147483648) (a1 : zRw m) {α : Type} {kf : Int32 × Hp → Option (α × Hp)} {Q : α → zMe → Prop} (K : zOk (kf (zI (if 0 ≤ k ∧ k ≤ 2 then (if k ≤ m 51 2 then m 51 2 + 1 else -13) else -2), zM (m))) Q) : zOk ((f_X7_taken 50 e (zM m)).bind kf) Q := z_b (s_7taken e1 r1 a1) K
