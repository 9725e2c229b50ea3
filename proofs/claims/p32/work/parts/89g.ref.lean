/-! the reference's calls that think, weak -/
theorem s7_lk {m : zMe} (hR : zRw m) {α : Type} {f : Unit × Hp → Option (α × Hp)} {Q : α → zMe → Prop} (K : ∀ M, zY m M → zRw M → zAs M → zOk (f ((), zM M)) Q) : zOk ((f_X7_looks 50 (zM m)).bind f) Q := by
  refine z_7looks hR ?_
  exact K _ zL7_Y (zRw_X (zX_51 zL7_X) hR) (zL7_As (fun k k0 k1 => by have := (hR.2.2 k k0 k1).1; unfold zRs; omega))
set_option maxRecDepth 100000 in
set_option maxHeartbeats 1000000 in
theorem s_7isIn {m : zMe} {e : Int32} {t : Int} (e1 : e = zI t) (r1 : -2147483648 ≤ t ∧ t < 2147483648) (a1 : zRw m) : zOk (f_X7_isIn 50 e (zM m)) (fun (_ : Int32) m1 => zY m m1) := by
  subst e1
  have hT := a1.1.1
  unfold f_X7_isIn
  (first
    | (with_reducible apply z_nm; (case he => repeat (with_reducible first | exact zv_l _ | exact zv_r | apply zv_neg)))
    | (with_reducible apply z_b_ck; (case h => with_unfolding_all rfl))
    | (with_reducible apply z_7isTeam; (case e1 => repeat (with_reducible first | exact zv_l _ | exact zv_r | apply zv_neg)); (case r1 => first | omega | ((simp (disch := omega) only [zU_c, zU_e, zU_k, zF_c, zF_i, zF_o, zW_o, zW_i, zC_c, zC_i, zC_o]); omega)); (case r2 => first | omega | ((simp (disch := omega) only [zU_c, zU_e, zU_k, zF_c, zF_i, zF_o, zW_o, zW_i, zC_c, zC_i, zC_o]); omega)))
    | (with_reducible apply z_7looks; (case a2 => assumption))
    | (with_reducible apply z_7isInNow; (case e3 => repeat (with_reducible first | exact zv_l _ | exact zv_r | apply zv_neg)); (case e4 => repeat (with_reducible first | exact zv_l _ | exact zv_r | apply zv_neg)); (case r1 => first | omega | ((simp (disch := omega) only [zU_c, zU_e, zU_k, zF_c, zF_i, zF_o, zW_o, zW_i, zC_c, zC_i, zC_o]); omega)); (case r2 => first | omega | ((simp (disch := omega) only [zU_c, zU_e, zU_k, zF_c, zF_i, zF_o, zW_o, zW_i, zC_c, zC_i, zC_o]); omega)); (case a1 => assumption); (case a2 => assumption); intro _ _ _))
  refine z_7isTeam rfl r1 hT ?_
  (first
    | (with_reducible apply z_B; all_goals (intro _; try (exfalso; omega)))
    | (with_reducible apply z_E; all_goals intro _)
    | (with_reducible apply z_lt; (case ha => repeat (with_reducible first | exact zv_l _ | exact zv_r | apply zv_neg)); (case hb => repeat (with_reducible first | exact zv_l _ | exact zv_r | apply zv_neg)); (case hx => omega); (case hy => omega); all_goals (intro _; try (exfalso; omega)))
    | (with_reducible apply z_le; (case ha => repeat (with_reducible first | exact zv_l _ | exact zv_r | apply zv_neg)); (case hb => repeat (with_reducible first | exact zv_l _ | exact zv_r | apply zv_neg)); (case hx => omega); (case hy => omega); all_goals (intro _; try (exfalso; omega)))
    | (with_reducible apply z_eq; (case ha => repeat (with_reducible first | exact zv_l _ | exact zv_r | apply zv_neg)); (case hb => repeat (with_reducible first | exact zv_l _ | exact zv_r | apply zv_neg)); (case hx => omega); (case hy => omega); all_goals (intro _; try (exfalso; omega))))
  · exact ⟨_, _, rfl, zY_r _⟩
  · refine s7_lk a1 (fun M hY hR hA => ?_)
    refine z_7isInNow (a := 0) rfl (zv_l 0) (by omega) (Or.inl rfl) hR hA (fun v m2 hv => ?_)
    obtain ⟨⟨p, rfl⟩, hX2, -, h8⟩ := hv
    refine z_E (fun _ => ?_) (fun _ => ?_)
    · exact ⟨_, _, rfl, zY_t hY ⟨hX2, fun _ => h8⟩⟩
    · exact ⟨_, _, rfl, zY_t hY ⟨hX2, fun _ => h8⟩⟩
theorem z_7isIn {m : zMe} {e : Int32} {t : Int} (e1 : e = zI t) (r1 : -2147483648 ≤ t ∧ t < 2147483648) (a1 : zRw m) {α : Type} {kf : Int32 × Hp → Option (α × Hp)} {Q : α → zMe → Prop} (K : ∀ (v : Int32) (m1 : zMe), (fun (_ : Int32) m1 => zY m m1) v m1 → zOk (kf (v, zM m1)) Q) : zOk ((f_X7_isIn 50 e (zM m)).bind kf) Q := z_call (s_7isIn e1 r1 a1) K
set_option maxRecDepth 100000 in
set_option maxHeartbeats 1000000 in
theorem s_7all {m : zMe} (a1 : zRw m) : zOk (f_X7_all 50 (zM m)) (fun (_ : Int32) m1 => zY m m1) := by
  unfold f_X7_all
  (first
    | (with_reducible apply z_b_ck; (case h => with_unfolding_all rfl))
    | (with_reducible apply z_7looks; (case a2 => assumption))
    | (with_reducible apply z_7inSet; (case a1 => assumption); (case a2 => assumption); intro _ _ _))
  refine s7_lk a1 (fun M hY hR hA => ?_)
  refine z_7inSet hR hA (fun v m2 hv => ?_)
  exact ⟨_, _, rfl, zY_t hY hv⟩
theorem z_7all {m : zMe} (a1 : zRw m) {α : Type} {kf : Int32 × Hp → Option (α × Hp)} {Q : α → zMe → Prop} (K : ∀ (v : Int32) (m1 : zMe), (fun (_ : Int32) m1 => zY m m1) v m1 → zOk (kf (v, zM m1)) Q) : zOk ((f_X7_all 50 (zM m)).bind kf) Q := z_call (s_7all a1) K
set_option maxRecDepth 100000 in
set_option maxHeartbeats 1000000 in
theorem s_7aboveOf {m : zMe} {e g : Int32} {s : Nat} {t : Int} (e1 : e = zI (s : Int)) (e2 : g = zI t) (r1 : s < 512) (r2 : 0 ≤ t ∧ t < 6) (a1 : zRw m) (a2 : zAs m) : zOk (f_X7_aboveOf 50 e g (zM m)) (fun (_ : Int32) m1 => m1 = m) := by
  subst e1; subst e2
  have hT := a1.1.1
  have hN := a1.1.2.1
  unfold f_X7_aboveOf
  (first
    | (with_reducible apply z_nm; (case he => repeat (with_reducible first | exact zv_l _ | exact zv_r | apply zv_add | apply zv_sub | apply zv_mul | apply zv_neg)))
    | (with_reducible apply z_b_ck; (case h => with_unfolding_all rfl))
    | (with_reducible apply z_b_R; (case h => first | with_unfolding_all rfl))
    | (with_reducible apply z_L; (case he => repeat (with_reducible first | exact zv_l _ | exact zv_r | apply zv_add | apply zv_sub | apply zv_mul | apply zv_neg)); (case hn => with_reducible first | assumption | exact zl_2 | exact zl_6 | exact zl_51 | exact zl_53 | exact zl_54 | exact zl_60); (case h => omega); (case hy => first | ((simp (disch := omega) only [zU_c, zU_e, zU_k, zF_c, zF_i, zF_o, zW_o, zW_i, zC_c, zC_i, zC_o]); rfl) | rfl))
    | (with_reducible apply z_7has; (case e1 => repeat (with_reducible first | exact zv_l _ | exact zv_r | apply zv_add | apply zv_sub | apply zv_mul | apply zv_neg)); (case e2 => repeat (with_reducible first | exact zv_l _ | exact zv_r | apply zv_add | apply zv_sub | apply zv_mul | apply zv_neg)); (case r1 => first | omega | ((simp (disch := omega) only [zU_c, zU_e, zU_k, zF_c, zF_i, zF_o, zW_o, zW_i, zC_c, zC_i, zC_o]); omega)); (case r2 => first | omega | ((simp (disch := omega) only [zU_c, zU_e, zU_k, zF_c, zF_i, zF_o, zW_o, zW_i, zC_c, zC_i, zC_o]); omega)))
    | (with_reducible apply z_7ones; (case e1 => repeat (with_reducible first | exact zv_l _ | exact zv_r | apply zv_add | apply zv_sub | apply zv_mul | apply zv_neg)); (case r1 => first | omega | ((simp (disch := omega) only [zU_c, zU_e, zU_k, zF_c, zF_i, zF_o, zW_o, zW_i, zC_c, zC_i, zC_o]); omega)))
    | (with_reducible apply z_7reach; (case e1 => repeat (with_reducible first | exact zv_l _ | exact zv_r | apply zv_add | apply zv_sub | apply zv_mul | apply zv_neg)); (case r1 => first | omega | ((simp (disch := omega) only [zU_c, zU_e, zU_k, zF_c, zF_i, zF_o, zW_o, zW_i, zC_c, zC_i, zC_o]); omega)); (case a2 => assumption); (case a1 => assumption)))
  refine z_7reach rfl r2 a1 a2 ?_
  refine z_7ones rfl r1 ?_
  refine z_b rfl ?_
  refine z_lp (fun n v m1 => ∃ (c : Int32) (i : Int), v = (50, zI (s : Int), c, zI i) ∧ 0 ≤ i ∧ i ≤ m 51 0 ∧ n = (m 51 0 - i).toNat ∧ m1 = m) (fun _ _ _ m1 => m1 = m) ?_ 600 (m 51 0).toNat _ _ (by omega) ⟨_, 0, rfl, by omega, by omega, by omega, rfl⟩
  rintro n v m1 k ⟨c, i, rfl, h0, h1, rfl, rfl⟩ hk
  have hlast : ∀ gv : Int32, zOk (f_X7_aboveOf_69 50 (zI (s : Int)) c gv (zM m1)) (fun (_ : Int32) m2 => m2 = m1) := fun gv => by
    unfold f_X7_aboveOf_69
    refine z_lp (fun n v m2 => ∃ (c : Int32) (i : Int), v = (50, zI (s : Int), c, gv, zI i) ∧ 0 ≤ i ∧ i ≤ m1 51 1 ∧ n = (m1 51 1 - i).toNat ∧ m2 = m1) (fun _ _ _ m2 => m2 = m1) ?_ 600 (m1 51 1).toNat _ _ (by omega) ⟨_, 0, rfl, by omega, by omega, by omega, rfl⟩
    rintro n v m2 k2 ⟨c, i, rfl, h0, h1, rfl, rfl⟩ hk2
    have hg := a1.2.2 i h0
    have hno : i < m2 51 1 → zOk (f_X7_aboveOf_136 k2 50 (zI (s : Int)) gv (zI i) c (zM m2)) (fun (_ : Int32) m3 => m3 = m2) := fun hl => by
      unfold f_X7_aboveOf_136
      refine z_b rfl ?_
      repeat' (first
    | (with_reducible apply z_nm; (case he => repeat (with_reducible first | exact zv_l _ | exact zv_r | apply zv_add | apply zv_sub | apply zv_mul | apply zv_neg)))
    | (with_reducible apply z_b_ck; (case h => with_unfolding_all rfl))
    | (with_reducible apply z_b_R; (case h => first | with_unfolding_all rfl))
    | (with_reducible apply z_L; (case he => repeat (with_reducible first | exact zv_l _ | exact zv_r | apply zv_add | apply zv_sub | apply zv_mul | apply zv_neg)); (case hn => with_reducible first | assumption | exact zl_2 | exact zl_6 | exact zl_51 | exact zl_53 | exact zl_54 | exact zl_60); (case h => omega); (case hy => first | ((simp (disch := omega) only [zU_c, zU_e, zU_k, zF_c, zF_i, zF_o, zW_o, zW_i, zC_c, zC_i, zC_o]); rfl) | rfl))
    | (with_reducible apply z_7has; (case e1 => repeat (with_reducible first | exact zv_l _ | exact zv_r | apply zv_add | apply zv_sub | apply zv_mul | apply zv_neg)); (case e2 => repeat (with_reducible first | exact zv_l _ | exact zv_r | apply zv_add | apply zv_sub | apply zv_mul | apply zv_neg)); (case r1 => first | omega | ((simp (disch := omega) only [zU_c, zU_e, zU_k, zF_c, zF_i, zF_o, zW_o, zW_i, zC_c, zC_i, zC_o]); omega)); (case r2 => first | omega | ((simp (disch := omega) only [zU_c, zU_e, zU_k, zF_c, zF_i, zF_o, zW_o, zW_i, zC_c, zC_i, zC_o]); omega)))
    | (with_reducible apply z_7ones; (case e1 => repeat (with_reducible first | exact zv_l _ | exact zv_r | apply zv_add | apply zv_sub | apply zv_mul | apply zv_neg)); (case r1 => first | omega | ((simp (disch := omega) only [zU_c, zU_e, zU_k, zF_c, zF_i, zF_o, zW_o, zW_i, zC_c, zC_i, zC_o]); omega)))
    | (with_reducible apply z_7reach; (case e1 => repeat (with_reducible first | exact zv_l _ | exact zv_r | apply zv_add | apply zv_sub | apply zv_mul | apply zv_neg)); (case r1 => first | omega | ((simp (disch := omega) only [zU_c, zU_e, zU_k, zF_c, zF_i, zF_o, zW_o, zW_i, zC_c, zC_i, zC_o]); omega)); (case a2 => assumption); (case a1 => assumption)))
      exact hk2 _ _ _ (by omega) ⟨_, i + 1, rfl, by omega, by omega, rfl, rfl⟩
    unfold f_X7_aboveOf_74
    dsimp only
    (first
    | (with_reducible apply z_nm; (case he => repeat (with_reducible first | exact zv_l _ | exact zv_r | apply zv_add | apply zv_sub | apply zv_mul | apply zv_neg)))
    | (with_reducible apply z_b_ck; (case h => with_unfolding_all rfl))
    | (with_reducible apply z_b_R; (case h => first | with_unfolding_all rfl))
    | (with_reducible apply z_L; (case he => repeat (with_reducible first | exact zv_l _ | exact zv_r | apply zv_add | apply zv_sub | apply zv_mul | apply zv_neg)); (case hn => with_reducible first | assumption | exact zl_2 | exact zl_6 | exact zl_51 | exact zl_53 | exact zl_54 | exact zl_60); (case h => omega); (case hy => first | ((simp (disch := omega) only [zU_c, zU_e, zU_k, zF_c, zF_i, zF_o, zW_o, zW_i, zC_c, zC_i, zC_o]); rfl) | rfl))
    | (with_reducible apply z_7has; (case e1 => repeat (with_reducible first | exact zv_l _ | exact zv_r | apply zv_add | apply zv_sub | apply zv_mul | apply zv_neg)); (case e2 => repeat (with_reducible first | exact zv_l _ | exact zv_r | apply zv_add | apply zv_sub | apply zv_mul | apply zv_neg)); (case r1 => first | omega | ((simp (disch := omega) only [zU_c, zU_e, zU_k, zF_c, zF_i, zF_o, zW_o, zW_i, zC_c, zC_i, zC_o]); omega)); (case r2 => first | omega | ((simp (disch := omega) only [zU_c, zU_e, zU_k, zF_c, zF_i, zF_o, zW_o, zW_i, zC_c, zC_i, zC_o]); omega)))
    | (with_reducible apply z_7ones; (case e1 => repeat (with_reducible first | exact zv_l _ | exact zv_r | apply zv_add | apply zv_sub | apply zv_mul | apply zv_neg)); (case r1 => first | omega | ((simp (disch := omega) only [zU_c, zU_e, zU_k, zF_c, zF_i, zF_o, zW_o, zW_i, zC_c, zC_i, zC_o]); omega)))
    | (with_reducible apply z_7reach; (case e1 => repeat (with_reducible first | exact zv_l _ | exact zv_r | apply zv_add | apply zv_sub | apply zv_mul | apply zv_neg)); (case r1 => first | omega | ((simp (disch := omega) only [zU_c, zU_e, zU_k, zF_c, zF_i, zF_o, zW_o, zW_i, zC_c, zC_i, zC_o]); omega)); (case a2 => assumption); (case a1 => assumption)))
    (first
    | (with_reducible apply z_nm; (case he => repeat (with_reducible first | exact zv_l _ | exact zv_r | apply zv_add | apply zv_sub | apply zv_mul | apply zv_neg)))
    | (with_reducible apply z_b_ck; (case h => with_unfolding_all rfl))
    | (with_reducible apply z_b_R; (case h => first | with_unfolding_all rfl))
    | (with_reducible apply z_L; (case he => repeat (with_reducible first | exact zv_l _ | exact zv_r | apply zv_add | apply zv_sub | apply zv_mul | apply zv_neg)); (case hn => with_reducible first | assumption | exact zl_2 | exact zl_6 | exact zl_51 | exact zl_53 | exact zl_54 | exact zl_60); (case h => omega); (case hy => first | ((simp (disch := omega) only [zU_c, zU_e, zU_k, zF_c, zF_i, zF_o, zW_o, zW_i, zC_c, zC_i, zC_o]); rfl) | rfl))
    | (with_reducible apply z_7has; (case e1 => repeat (with_reducible first | exact zv_l _ | exact zv_r | apply zv_add | apply zv_sub | apply zv_mul | apply zv_neg)); (case e2 => repeat (with_reducible first | exact zv_l _ | exact zv_r | apply zv_add | apply zv_sub | apply zv_mul | apply zv_neg)); (case r1 => first | omega | ((simp (disch := omega) only [zU_c, zU_e, zU_k, zF_c, zF_i, zF_o, zW_o, zW_i, zC_c, zC_i, zC_o]); omega)); (case r2 => first | omega | ((simp (disch := omega) only [zU_c, zU_e, zU_k, zF_c, zF_i, zF_o, zW_o, zW_i, zC_c, zC_i, zC_o]); omega)))
    | (with_reducible apply z_7ones; (case e1 => repeat (with_reducible first | exact zv_l _ | exact zv_r | apply zv_add | apply zv_sub | apply zv_mul | apply zv_neg)); (case r1 => first | omega | ((simp (disch := omega) only [zU_c, zU_e, zU_k, zF_c, zF_i, zF_o, zW_o, zW_i, zC_c, zC_i, zC_o]); omega)))
    | (with_reducible apply z_7reach; (case e1 => repeat (with_reducible first | exact zv_l _ | exact zv_r | apply zv_add | apply zv_sub | apply zv_mul | apply zv_neg)); (case r1 => first | omega | ((simp (disch := omega) only [zU_c, zU_e, zU_k, zF_c, zF_i, zF_o, zW_o, zW_i, zC_c, zC_i, zC_o]); omega)); (case a2 => assumption); (case a1 => assumption)))
    (first
    | (with_reducible apply z_B; all_goals (intro _; try (exfalso; omega)))
    | (with_reducible apply z_E; all_goals intro _)
    | (with_reducible apply z_lt; (case ha => repeat (with_reducible first | exact zv_l _ | exact zv_r | apply zv_add | apply zv_sub | apply zv_mul | apply zv_neg)); (case hb => repeat (with_reducible first | exact zv_l _ | exact zv_r | apply zv_add | apply zv_sub | apply zv_mul | apply zv_neg)); (case hx => omega); (case hy => omega); all_goals (intro _; try (exfalso; omega)))
    | (with_reducible apply z_le; (case ha => repeat (with_reducible first | exact zv_l _ | exact zv_r | apply zv_add | apply zv_sub | apply zv_mul | apply zv_neg)); (case hb => repeat (with_reducible first | exact zv_l _ | exact zv_r | apply zv_add | apply zv_sub | apply zv_mul | apply zv_neg)); (case hx => omega); (case hy => omega); all_goals (intro _; try (exfalso; omega)))
    | (with_reducible apply z_eq; (case ha => repeat (with_reducible first | exact zv_l _ | exact zv_r | apply zv_add | apply zv_sub | apply zv_mul | apply zv_neg)); (case hb => repeat (with_reducible first | exact zv_l _ | exact zv_r | apply zv_add | apply zv_sub | apply zv_mul | apply zv_neg)); (case hx => omega); (case hy => omega); all_goals (intro _; try (exfalso; omega))))
    · exact ⟨_, _, rfl, rfl⟩
    · obtain ⟨g1, g2, g3, g4, g5⟩ := hg (by omega)
      (first
    | (with_reducible apply z_nm; (case he => repeat (with_reducible first | exact zv_l _ | exact zv_r | apply zv_add | apply zv_sub | apply zv_mul | apply zv_neg)))
    | (with_reducible apply z_b_ck; (case h => with_unfolding_all rfl))
    | (with_reducible apply z_b_R; (case h => first | with_unfolding_all rfl))
    | (with_reducible apply z_L; (case he => repeat (with_reducible first | exact zv_l _ | exact zv_r | apply zv_add | apply zv_sub | apply zv_mul | apply zv_neg)); (case hn => with_reducible first | assumption | exact zl_2 | exact zl_6 | exact zl_51 | exact zl_53 | exact zl_54 | exact zl_60); (case h => omega); (case hy => first | ((simp (disch := omega) only [zU_c, zU_e, zU_k, zF_c, zF_i, zF_o, zW_o, zW_i, zC_c, zC_i, zC_o]); rfl) | rfl))
    | (with_reducible apply z_7has; (case e1 => repeat (with_reducible first | exact zv_l _ | exact zv_r | apply zv_add | apply zv_sub | apply zv_mul | apply zv_neg)); (case e2 => repeat (with_reducible first | exact zv_l _ | exact zv_r | apply zv_add | apply zv_sub | apply zv_mul | apply zv_neg)); (case r1 => first | omega | ((simp (disch := omega) only [zU_c, zU_e, zU_k, zF_c, zF_i, zF_o, zW_o, zW_i, zC_c, zC_i, zC_o]); omega)); (case r2 => first | omega | ((simp (disch := omega) only [zU_c, zU_e, zU_k, zF_c, zF_i, zF_o, zW_o, zW_i, zC_c, zC_i, zC_o]); omega)))
    | (with_reducible apply z_7ones; (case e1 => repeat (with_reducible first | exact zv_l _ | exact zv_r | apply zv_add | apply zv_sub | apply zv_mul | apply zv_neg)); (case r1 => first | omega | ((simp (disch := omega) only [zU_c, zU_e, zU_k, zF_c, zF_i, zF_o, zW_o, zW_i, zC_c, zC_i, zC_o]); omega)))
    | (with_reducible apply z_7reach; (case e1 => repeat (with_reducible first | exact zv_l _ | exact zv_r | apply zv_add | apply zv_sub | apply zv_mul | apply zv_neg)); (case r1 => first | omega | ((simp (disch := omega) only [zU_c, zU_e, zU_k, zF_c, zF_i, zF_o, zW_o, zW_i, zC_c, zC_i, zC_o]); omega)); (case a2 => assumption); (case a1 => assumption)))
      (first
    | (with_reducible apply z_nm; (case he => repeat (with_reducible first | exact zv_l _ | exact zv_r | apply zv_add | apply zv_sub | apply zv_mul | apply zv_neg)))
    | (with_reducible apply z_b_ck; (case h => with_unfolding_all rfl))
    | (with_reducible apply z_b_R; (case h => first | with_unfolding_all rfl))
    | (with_reducible apply z_L; (case he => repeat (with_reducible first | exact zv_l _ | exact zv_r | apply zv_add | apply zv_sub | apply zv_mul | apply zv_neg)); (case hn => with_reducible first | assumption | exact zl_2 | exact zl_6 | exact zl_51 | exact zl_53 | exact zl_54 | exact zl_60); (case h => omega); (case hy => first | ((simp (disch := omega) only [zU_c, zU_e, zU_k, zF_c, zF_i, zF_o, zW_o, zW_i, zC_c, zC_i, zC_o]); rfl) | rfl))
    | (with_reducible apply z_7has; (case e1 => repeat (with_reducible first | exact zv_l _ | exact zv_r | apply zv_add | apply zv_sub | apply zv_mul | apply zv_neg)); (case e2 => repeat (with_reducible first | exact zv_l _ | exact zv_r | apply zv_add | apply zv_sub | apply zv_mul | apply zv_neg)); (case r1 => first | omega | ((simp (disch := omega) only [zU_c, zU_e, zU_k, zF_c, zF_i, zF_o, zW_o, zW_i, zC_c, zC_i, zC_o]); omega)); (case r2 => first | omega | ((simp (disch := omega) only [zU_c, zU_e, zU_k, zF_c, zF_i, zF_o, zW_o, zW_i, zC_c, zC_i, zC_o]); omega)))
    | (with_reducible apply z_7ones; (case e1 => repeat (with_reducible first | exact zv_l _ | exact zv_r | apply zv_add | apply zv_sub | apply zv_mul | apply zv_neg)); (case r1 => first | omega | ((simp (disch := omega) only [zU_c, zU_e, zU_k, zF_c, zF_i, zF_o, zW_o, zW_i, zC_c, zC_i, zC_o]); omega)))
    | (with_reducible apply z_7reach; (case e1 => repeat (with_reducible first | exact zv_l _ | exact zv_r | apply zv_add | apply zv_sub | apply zv_mul | apply zv_neg)); (case r1 => first | omega | ((simp (disch := omega) only [zU_c, zU_e, zU_k, zF_c, zF_i, zF_o, zW_o, zW_i, zC_c, zC_i, zC_o]); omega)); (case a2 => assumption); (case a1 => assumption)))
      refine z_ite (fun _ => ?_) (fun _ => ?_)
      · (first
    | (with_reducible apply z_nm; (case he => repeat (with_reducible first | exact zv_l _ | exact zv_r | apply zv_add | apply zv_sub | apply zv_mul | apply zv_neg)))
    | (with_reducible apply z_b_ck; (case h => with_unfolding_all rfl))
    | (with_reducible apply z_b_R; (case h => first | with_unfolding_all rfl))
    | (with_reducible apply z_L; (case he => repeat (with_reducible first | exact zv_l _ | exact zv_r | apply zv_add | apply zv_sub | apply zv_mul | apply zv_neg)); (case hn => with_reducible first | assumption | exact zl_2 | exact zl_6 | exact zl_51 | exact zl_53 | exact zl_54 | exact zl_60); (case h => omega); (case hy => first | ((simp (disch := omega) only [zU_c, zU_e, zU_k, zF_c, zF_i, zF_o, zW_o, zW_i, zC_c, zC_i, zC_o]); rfl) | rfl))
    | (with_reducible apply z_7has; (case e1 => repeat (with_reducible first | exact zv_l _ | exact zv_r | apply zv_add | apply zv_sub | apply zv_mul | apply zv_neg)); (case e2 => repeat (with_reducible first | exact zv_l _ | exact zv_r | apply zv_add | apply zv_sub | apply zv_mul | apply zv_neg)); (case r1 => first | omega | ((simp (disch := omega) only [zU_c, zU_e, zU_k, zF_c, zF_i, zF_o, zW_o, zW_i, zC_c, zC_i, zC_o]); omega)); (case r2 => first | omega | ((simp (disch := omega) only [zU_c, zU_e, zU_k, zF_c, zF_i, zF_o, zW_o, zW_i, zC_c, zC_i, zC_o]); omega)))
    | (with_reducible apply z_7ones; (case e1 => repeat (with_reducible first | exact zv_l _ | exact zv_r | apply zv_add | apply zv_sub | apply zv_mul | apply zv_neg)); (case r1 => first | omega | ((simp (disch := omega) only [zU_c, zU_e, zU_k, zF_c, zF_i, zF_o, zW_o, zW_i, zC_c, zC_i, zC_o]); omega)))
    | (with_reducible apply z_7reach; (case e1 => repeat (with_reducible first | exact zv_l _ | exact zv_r | apply zv_add | apply zv_sub | apply zv_mul | apply zv_neg)); (case r1 => first | omega | ((simp (disch := omega) only [zU_c, zU_e, zU_k, zF_c, zF_i, zF_o, zW_o, zW_i, zC_c, zC_i, zC_o]); omega)); (case a2 => assumption); (case a1 => assumption)))
        (first
    | (with_reducible apply z_nm; (case he => repeat (with_reducible first | exact zv_l _ | exact zv_r | apply zv_add | apply zv_sub | apply zv_mul | apply zv_neg)))
    | (with_reducible apply z_b_ck; (case h => with_unfolding_all rfl))
    | (with_reducible apply z_b_R; (case h => first | with_unfolding_all rfl))
    | (with_reducible apply z_L; (case he => repeat (with_reducible first | exact zv_l _ | exact zv_r | apply zv_add | apply zv_sub | apply zv_mul | apply zv_neg)); (case hn => with_reducible first | assumption | exact zl_2 | exact zl_6 | exact zl_51 | exact zl_53 | exact zl_54 | exact zl_60); (case h => omega); (case hy => first | ((simp (disch := omega) only [zU_c, zU_e, zU_k, zF_c, zF_i, zF_o, zW_o, zW_i, zC_c, zC_i, zC_o]); rfl) | rfl))
    | (with_reducible apply z_7has; (case e1 => repeat (with_reducible first | exact zv_l _ | exact zv_r | apply zv_add | apply zv_sub | apply zv_mul | apply zv_neg)); (case e2 => repeat (with_reducible first | exact zv_l _ | exact zv_r | apply zv_add | apply zv_sub | apply zv_mul | apply zv_neg)); (case r1 => first | omega | ((simp (disch := omega) only [zU_c, zU_e, zU_k, zF_c, zF_i, zF_o, zW_o, zW_i, zC_c, zC_i, zC_o]); omega)); (case r2 => first | omega | ((simp (disch := omega) only [zU_c, zU_e, zU_k, zF_c, zF_i, zF_o, zW_o, zW_i, zC_c, zC_i, zC_o]); omega)))
    | (with_reducible apply z_7ones; (case e1 => repeat (with_reducible first | exact zv_l _ | exact zv_r | apply zv_add | apply zv_sub | apply zv_mul | apply zv_neg)); (case r1 => first | omega | ((simp (disch := omega) only [zU_c, zU_e, zU_k, zF_c, zF_i, zF_o, zW_o, zW_i, zC_c, zC_i, zC_o]); omega)))
    | (with_reducible apply z_7reach; (case e1 => repeat (with_reducible first | exact zv_l _ | exact zv_r | apply zv_add | apply zv_sub | apply zv_mul | apply zv_neg)); (case r1 => first | omega | ((simp (disch := omega) only [zU_c, zU_e, zU_k, zF_c, zF_i, zF_o, zW_o, zW_i, zC_c, zC_i, zC_o]); omega)); (case a2 => assumption); (case a1 => assumption)))
        refine z_7has rfl (i := (m2 51 (51 + i)).toNat) (by rw [Int.toNat_of_nonneg (by omega)]) r1 (by omega) ?_
        refine z_B (fun _ => ?_) (fun _ => ?_)
        · exact hno (by omega)
        · (first
    | (with_reducible apply z_nm; (case he => repeat (with_reducible first | exact zv_l _ | exact zv_r | apply zv_add | apply zv_sub | apply zv_mul | apply zv_neg)))
    | (with_reducible apply z_b_ck; (case h => with_unfolding_all rfl))
    | (with_reducible apply z_b_R; (case h => first | with_unfolding_all rfl))
    | (with_reducible apply z_L; (case he => repeat (with_reducible first | exact zv_l _ | exact zv_r | apply zv_add | apply zv_sub | apply zv_mul | apply zv_neg)); (case hn => with_reducible first | assumption | exact zl_2 | exact zl_6 | exact zl_51 | exact zl_53 | exact zl_54 | exact zl_60); (case h => omega); (case hy => first | ((simp (disch := omega) only [zU_c, zU_e, zU_k, zF_c, zF_i, zF_o, zW_o, zW_i, zC_c, zC_i, zC_o]); rfl) | rfl))
    | (with_reducible apply z_7has; (case e1 => repeat (with_reducible first | exact zv_l _ | exact zv_r | apply zv_add | apply zv_sub | apply zv_mul | apply zv_neg)); (case e2 => repeat (with_reducible first | exact zv_l _ | exact zv_r | apply zv_add | apply zv_sub | apply zv_mul | apply zv_neg)); (case r1 => first | omega | ((simp (disch := omega) only [zU_c, zU_e, zU_k, zF_c, zF_i, zF_o, zW_o, zW_i, zC_c, zC_i, zC_o]); omega)); (case r2 => first | omega | ((simp (disch := omega) only [zU_c, zU_e, zU_k, zF_c, zF_i, zF_o, zW_o, zW_i, zC_c, zC_i, zC_o]); omega)))
    | (with_reducible apply z_7ones; (case e1 => repeat (with_reducible first | exact zv_l _ | exact zv_r | apply zv_add | apply zv_sub | apply zv_mul | apply zv_neg)); (case r1 => first | omega | ((simp (disch := omega) only [zU_c, zU_e, zU_k, zF_c, zF_i, zF_o, zW_o, zW_i, zC_c, zC_i, zC_o]); omega)))
    | (with_reducible apply z_7reach; (case e1 => repeat (with_reducible first | exact zv_l _ | exact zv_r | apply zv_add | apply zv_sub | apply zv_mul | apply zv_neg)); (case r1 => first | omega | ((simp (disch := omega) only [zU_c, zU_e, zU_k, zF_c, zF_i, zF_o, zW_o, zW_i, zC_c, zC_i, zC_o]); omega)); (case a2 => assumption); (case a1 => assumption)))
          (first
    | (with_reducible apply z_nm; (case he => repeat (with_reducible first | exact zv_l _ | exact zv_r | apply zv_add | apply zv_sub | apply zv_mul | apply zv_neg)))
    | (with_reducible apply z_b_ck; (case h => with_unfolding_all rfl))
    | (with_reducible apply z_b_R; (case h => first | with_unfolding_all rfl))
    | (with_reducible apply z_L; (case he => repeat (with_reducible first | exact zv_l _ | exact zv_r | apply zv_add | apply zv_sub | apply zv_mul | apply zv_neg)); (case hn => with_reducible first | assumption | exact zl_2 | exact zl_6 | exact zl_51 | exact zl_53 | exact zl_54 | exact zl_60); (case h => omega); (case hy => first | ((simp (disch := omega) only [zU_c, zU_e, zU_k, zF_c, zF_i, zF_o, zW_o, zW_i, zC_c, zC_i, zC_o]); rfl) | rfl))
    | (with_reducible apply z_7has; (case e1 => repeat (with_reducible first | exact zv_l _ | exact zv_r | apply zv_add | apply zv_sub | apply zv_mul | apply zv_neg)); (case e2 => repeat (with_reducible first | exact zv_l _ | exact zv_r | apply zv_add | apply zv_sub | apply zv_mul | apply zv_neg)); (case r1 => first | omega | ((simp (disch := omega) only [zU_c, zU_e, zU_k, zF_c, zF_i, zF_o, zW_o, zW_i, zC_c, zC_i, zC_o]); omega)); (case r2 => first | omega | ((simp (disch := omega) only [zU_c, zU_e, zU_k, zF_c, zF_i, zF_o, zW_o, zW_i, zC_c, zC_i, zC_o]); omega)))
    | (with_reducible apply z_7ones; (case e1 => repeat (with_reducible first | exact zv_l _ | exact zv_r | apply zv_add | apply zv_sub | apply zv_mul | apply zv_neg)); (case r1 => first | omega | ((simp (disch := omega) only [zU_c, zU_e, zU_k, zF_c, zF_i, zF_o, zW_o, zW_i, zC_c, zC_i, zC_o]); omega)))
    | (with_reducible apply z_7reach; (case e1 => repeat (with_reducible first | exact zv_l _ | exact zv_r | apply zv_add | apply zv_sub | apply zv_mul | apply zv_neg)); (case r1 => first | omega | ((simp (disch := omega) only [zU_c, zU_e, zU_k, zF_c, zF_i, zF_o, zW_o, zW_i, zC_c, zC_i, zC_o]); omega)); (case a2 => assumption); (case a1 => assumption)))
          refine z_7has rfl (i := (m2 51 (60 + i)).toNat) (by rw [Int.toNat_of_nonneg (by omega)]) r1 (by omega) ?_
          refine z_B (fun _ => ?_) (fun _ => ?_)
          · exact hno (by omega)
          · refine z_b rfl ?_
            repeat' (first
    | (with_reducible apply z_nm; (case he => repeat (with_reducible first | exact zv_l _ | exact zv_r | apply zv_add | apply zv_sub | apply zv_mul | apply zv_neg)))
    | (with_reducible apply z_b_ck; (case h => with_unfolding_all rfl))
    | (with_reducible apply z_b_R; (case h => first | with_unfolding_all rfl))
    | (with_reducible apply z_L; (case he => repeat (with_reducible first | exact zv_l _ | exact zv_r | apply zv_add | apply zv_sub | apply zv_mul | apply zv_neg)); (case hn => with_reducible first | assumption | exact zl_2 | exact zl_6 | exact zl_51 | exact zl_53 | exact zl_54 | exact zl_60); (case h => omega); (case hy => first | ((simp (disch := omega) only [zU_c, zU_e, zU_k, zF_c, zF_i, zF_o, zW_o, zW_i, zC_c, zC_i, zC_o]); rfl) | rfl))
    | (with_reducible apply z_7has; (case e1 => repeat (with_reducible first | exact zv_l _ | exact zv_r | apply zv_add | apply zv_sub | apply zv_mul | apply zv_neg)); (case e2 => repeat (with_reducible first | exact zv_l _ | exact zv_r | apply zv_add | apply zv_sub | apply zv_mul | apply zv_neg)); (case r1 => first | omega | ((simp (disch := omega) only [zU_c, zU_e, zU_k, zF_c, zF_i, zF_o, zW_o, zW_i, zC_c, zC_i, zC_o]); omega)); (case r2 => first | omega | ((simp (disch := omega) only [zU_c, zU_e, zU_k, zF_c, zF_i, zF_o, zW_o, zW_i, zC_c, zC_i, zC_o]); omega)))
    | (with_reducible apply z_7ones; (case e1 => repeat (with_reducible first | exact zv_l _ | exact zv_r | apply zv_add | apply zv_sub | apply zv_mul | apply zv_neg)); (case r1 => first | omega | ((simp (disch := omega) only [zU_c, zU_e, zU_k, zF_c, zF_i, zF_o, zW_o, zW_i, zC_c, zC_i, zC_o]); omega)))
    | (with_reducible apply z_7reach; (case e1 => repeat (with_reducible first | exact zv_l _ | exact zv_r | apply zv_add | apply zv_sub | apply zv_mul | apply zv_neg)); (case r1 => first | omega | ((simp (disch := omega) only [zU_c, zU_e, zU_k, zF_c, zF_i, zF_o, zW_o, zW_i, zC_c, zC_i, zC_o]); omega)); (case a2 => assumption); (case a1 => assumption)))
            exact hk2 _ _ _ (by omega) ⟨_, i + 1, rfl, by omega, by omega, rfl, rfl⟩
      · exact hno (by omega)
  unfold f_X7_aboveOf_15
  dsimp only
  (first
    | (with_reducible apply z_nm; (case he => repeat (with_reducible first | exact zv_l _ | exact zv_r | apply zv_add | apply zv_sub | apply zv_mul | apply zv_neg)))
    | (with_reducible apply z_b_ck; (case h => with_unfolding_all rfl))
    | (with_reducible apply z_b_R; (case h => first | with_unfolding_all rfl))
    | (with_reducible apply z_L; (case he => repeat (with_reducible first | exact zv_l _ | exact zv_r | apply zv_add | apply zv_sub | apply zv_mul | apply zv_neg)); (case hn => with_reducible first | assumption | exact zl_2 | exact zl_6 | exact zl_51 | exact zl_53 | exact zl_54 | exact zl_60); (case h => omega); (case hy => first | ((simp (disch := omega) only [zU_c, zU_e, zU_k, zF_c, zF_i, zF_o, zW_o, zW_i, zC_c, zC_i, zC_o]); rfl) | rfl))
    | (with_reducible apply z_7has; (case e1 => repeat (with_reducible first | exact zv_l _ | exact zv_r | apply zv_add | apply zv_sub | apply zv_mul | apply zv_neg)); (case e2 => repeat (with_reducible first | exact zv_l _ | exact zv_r | apply zv_add | apply zv_sub | apply zv_mul | apply zv_neg)); (case r1 => first | omega | ((simp (disch := omega) only [zU_c, zU_e, zU_k, zF_c, zF_i, zF_o, zW_o, zW_i, zC_c, zC_i, zC_o]); omega)); (case r2 => first | omega | ((simp (disch := omega) only [zU_c, zU_e, zU_k, zF_c, zF_i, zF_o, zW_o, zW_i, zC_c, zC_i, zC_o]); omega)))
    | (with_reducible apply z_7ones; (case e1 => repeat (with_reducible first | exact zv_l _ | exact zv_r | apply zv_add | apply zv_sub | apply zv_mul | apply zv_neg)); (case r1 => first | omega | ((simp (disch := omega) only [zU_c, zU_e, zU_k, zF_c, zF_i, zF_o, zW_o, zW_i, zC_c, zC_i, zC_o]); omega)))
    | (with_reducible apply z_7reach; (case e1 => repeat (with_reducible first | exact zv_l _ | exact zv_r | apply zv_add | apply zv_sub | apply zv_mul | apply zv_neg)); (case r1 => first | omega | ((simp (disch := omega) only [zU_c, zU_e, zU_k, zF_c, zF_i, zF_o, zW_o, zW_i, zC_c, zC_i, zC_o]); omega)); (case a2 => assumption); (case a1 => assumption)))
  (first
    | (with_reducible apply z_nm; (case he => repeat (with_reducible first | exact zv_l _ | exact zv_r | apply zv_add | apply zv_sub | apply zv_mul | apply zv_neg)))
    | (with_reducible apply z_b_ck; (case h => with_unfolding_all rfl))
    | (with_reducible apply z_b_R; (case h => first | with_unfolding_all rfl))
    | (with_reducible apply z_L; (case he => repeat (with_reducible first | exact zv_l _ | exact zv_r | apply zv_add | apply zv_sub | apply zv_mul | apply zv_neg)); (case hn => with_reducible first | assumption | exact zl_2 | exact zl_6 | exact zl_51 | exact zl_53 | exact zl_54 | exact zl_60); (case h => omega); (case hy => first | ((simp (disch := omega) only [zU_c, zU_e, zU_k, zF_c, zF_i, zF_o, zW_o, zW_i, zC_c, zC_i, zC_o]); rfl) | rfl))
    | (with_reducible apply z_7has; (case e1 => repeat (with_reducible first | exact zv_l _ | exact zv_r | apply zv_add | apply zv_sub | apply zv_mul | apply zv_neg)); (case e2 => repeat (with_reducible first | exact zv_l _ | exact zv_r | apply zv_add | apply zv_sub | apply zv_mul | apply zv_neg)); (case r1 => first | omega | ((simp (disch := omega) only [zU_c, zU_e, zU_k, zF_c, zF_i, zF_o, zW_o, zW_i, zC_c, zC_i, zC_o]); omega)); (case r2 => first | omega | ((simp (disch := omega) only [zU_c, zU_e, zU_k, zF_c, zF_i, zF_o, zW_o, zW_i, zC_c, zC_i, zC_o]); omega)))
    | (with_reducible apply z_7ones; (case e1 => repeat (with_reducible first | exact zv_l _ | exact zv_r | apply zv_add | apply zv_sub | apply zv_mul | apply zv_neg)); (case r1 => first | omega | ((simp (disch := omega) only [zU_c, zU_e, zU_k, zF_c, zF_i, zF_o, zW_o, zW_i, zC_c, zC_i, zC_o]); omega)))
    | (with_reducible apply z_7reach; (case e1 => repeat (with_reducible first | exact zv_l _ | exact zv_r | apply zv_add | apply zv_sub | apply zv_mul | apply zv_neg)); (case r1 => first | omega | ((simp (disch := omega) only [zU_c, zU_e, zU_k, zF_c, zF_i, zF_o, zW_o, zW_i, zC_c, zC_i, zC_o]); omega)); (case a2 => assumption); (case a1 => assumption)))
  (first
    | (with_reducible apply z_B; all_goals (intro _; try (exfalso; omega)))
    | (with_reducible apply z_E; all_goals intro _)
    | (with_reducible apply z_lt; (case ha => repeat (with_reducible first | exact zv_l _ | exact zv_r | apply zv_add | apply zv_sub | apply zv_mul | apply zv_neg)); (case hb => repeat (with_reducible first | exact zv_l _ | exact zv_r | apply zv_add | apply zv_sub | apply zv_mul | apply zv_neg)); (case hx => omega); (case hy => omega); all_goals (intro _; try (exfalso; omega)))
    | (with_reducible apply z_le; (case ha => repeat (with_reducible first | exact zv_l _ | exact zv_r | apply zv_add | apply zv_sub | apply zv_mul | apply zv_neg)); (case hb => repeat (with_reducible first | exact zv_l _ | exact zv_r | apply zv_add | apply zv_sub | apply zv_mul | apply zv_neg)); (case hx => omega); (case hy => omega); all_goals (intro _; try (exfalso; omega)))
    | (with_reducible apply z_eq; (case ha => repeat (with_reducible first | exact zv_l _ | exact zv_r | apply zv_add | apply zv_sub | apply zv_mul | apply zv_neg)); (case hb => repeat (with_reducible first | exact zv_l _ | exact zv_r | apply zv_add | apply zv_sub | apply zv_mul | apply zv_neg)); (case hx => omega); (case hy => omega); all_goals (intro _; try (exfalso; omega))))
  · (first
    | (with_reducible apply z_nm; (case he => repeat (with_reducible first | exact zv_l _ | exact zv_r | apply zv_add | apply zv_sub | apply zv_mul | apply zv_neg)))
    | (with_reducible apply z_b_ck; (case h => with_unfolding_all rfl))
    | (with_reducible apply z_b_R; (case h => first | with_unfolding_all rfl))
    | (with_reducible apply z_L; (case he => repeat (with_reducible first | exact zv_l _ | exact zv_r | apply zv_add | apply zv_sub | apply zv_mul | apply zv_neg)); (case hn => with_reducible first | assumption | exact zl_2 | exact zl_6 | exact zl_51 | exact zl_53 | exact zl_54 | exact zl_60); (case h => omega); (case hy => first | ((simp (disch := omega) only [zU_c, zU_e, zU_k, zF_c, zF_i, zF_o, zW_o, zW_i, zC_c, zC_i, zC_o]); rfl) | rfl))
    | (with_reducible apply z_7has; (case e1 => repeat (with_reducible first | exact zv_l _ | exact zv_r | apply zv_add | apply zv_sub | apply zv_mul | apply zv_neg)); (case e2 => repeat (with_reducible first | exact zv_l _ | exact zv_r | apply zv_add | apply zv_sub | apply zv_mul | apply zv_neg)); (case r1 => first | omega | ((simp (disch := omega) only [zU_c, zU_e, zU_k, zF_c, zF_i, zF_o, zW_o, zW_i, zC_c, zC_i, zC_o]); omega)); (case r2 => first | omega | ((simp (disch := omega) only [zU_c, zU_e, zU_k, zF_c, zF_i, zF_o, zW_o, zW_i, zC_c, zC_i, zC_o]); omega)))
    | (with_reducible apply z_7ones; (case e1 => repeat (with_reducible first | exact zv_l _ | exact zv_r | apply zv_add | apply zv_sub | apply zv_mul | apply zv_neg)); (case r1 => first | omega | ((simp (disch := omega) only [zU_c, zU_e, zU_k, zF_c, zF_i, zF_o, zW_o, zW_i, zC_c, zC_i, zC_o]); omega)))
    | (with_reducible apply z_7reach; (case e1 => repeat (with_reducible first | exact zv_l _ | exact zv_r | apply zv_add | apply zv_sub | apply zv_mul | apply zv_neg)); (case r1 => first | omega | ((simp (disch := omega) only [zU_c, zU_e, zU_k, zF_c, zF_i, zF_o, zW_o, zW_i, zC_c, zC_i, zC_o]); omega)); (case a2 => assumption); (case a1 => assumption)))
    (first
    | (with_reducible apply z_nm; (case he => repeat (with_reducible first | exact zv_l _ | exact zv_r | apply zv_add | apply zv_sub | apply zv_mul | apply zv_neg)))
    | (with_reducible apply z_b_ck; (case h => with_unfolding_all rfl))
    | (with_reducible apply z_b_R; (case h => first | with_unfolding_all rfl))
    | (with_reducible apply z_L; (case he => repeat (with_reducible first | exact zv_l _ | exact zv_r | apply zv_add | apply zv_sub | apply zv_mul | apply zv_neg)); (case hn => with_reducible first | assumption | exact zl_2 | exact zl_6 | exact zl_51 | exact zl_53 | exact zl_54 | exact zl_60); (case h => omega); (case hy => first | ((simp (disch := omega) only [zU_c, zU_e, zU_k, zF_c, zF_i, zF_o, zW_o, zW_i, zC_c, zC_i, zC_o]); rfl) | rfl))
    | (with_reducible apply z_7has; (case e1 => repeat (with_reducible first | exact zv_l _ | exact zv_r | apply zv_add | apply zv_sub | apply zv_mul | apply zv_neg)); (case e2 => repeat (with_reducible first | exact zv_l _ | exact zv_r | apply zv_add | apply zv_sub | apply zv_mul | apply zv_neg)); (case r1 => first | omega | ((simp (disch := omega) only [zU_c, zU_e, zU_k, zF_c, zF_i, zF_o, zW_o, zW_i, zC_c, zC_i, zC_o]); omega)); (case r2 => first | omega | ((simp (disch := omega) only [zU_c, zU_e, zU_k, zF_c, zF_i, zF_o, zW_o, zW_i, zC_c, zC_i, zC_o]); omega)))
    | (with_reducible apply z_7ones; (case e1 => repeat (with_reducible first | exact zv_l _ | exact zv_r | apply zv_add | apply zv_sub | apply zv_mul | apply zv_neg)); (case r1 => first | omega | ((simp (disch := omega) only [zU_c, zU_e, zU_k, zF_c, zF_i, zF_o, zW_o, zW_i, zC_c, zC_i, zC_o]); omega)))
    | (with_reducible apply z_7reach; (case e1 => repeat (with_reducible first | exact zv_l _ | exact zv_r | apply zv_add | apply zv_sub | apply zv_mul | apply zv_neg)); (case r1 => first | omega | ((simp (disch := omega) only [zU_c, zU_e, zU_k, zF_c, zF_i, zF_o, zW_o, zW_i, zC_c, zC_i, zC_o]); omega)); (case a2 => assumption); (case a1 => assumption)))
    refine z_ite (fun _ => ?_) (fun _ => ?_)
    · exact hlast _
    · exact hlast _
  · refine z_7has rfl (i := i.toNat) (by rw [Int.toNat_of_nonneg h0]) r1 (by omega) ?_
    refine z_B (fun _ => ?_) (fun _ => ?_)
    · refine z_b rfl ?_
      repeat' (first
    | (with_reducible apply z_nm; (case he => repeat (with_reducible first | exact zv_l _ | exact zv_r | apply zv_add | apply zv_sub | apply zv_mul | apply zv_neg)))
    | (with_reducible apply z_b_ck; (case h => with_unfolding_all rfl))
    | (with_reducible apply z_b_R; (case h => first | with_unfolding_all rfl))
    | (with_reducible apply z_L; (case he => repeat (with_reducible first | exact zv_l _ | exact zv_r | apply zv_add | apply zv_sub | apply zv_mul | apply zv_neg)); (case hn => with_reducible first | assumption | exact zl_2 | exact zl_6 | exact zl_51 | exact zl_53 | exact zl_54 | exact zl_60); (case h => omega); (case hy => first | ((simp (disch := omega) only [zU_c, zU_e, zU_k, zF_c, zF_i, zF_o, zW_o, zW_i, zC_c, zC_i, zC_o]); rfl) | rfl))
    | (with_reducible apply z_7has; (case e1 => repeat (with_reducible first | exact zv_l _ | exact zv_r | apply zv_add | apply zv_sub | apply zv_mul | apply zv_neg)); (case e2 => repeat (with_reducible first | exact zv_l _ | exact zv_r | apply zv_add | apply zv_sub | apply zv_mul | apply zv_neg)); (case r1 => first | omega | ((simp (disch := omega) only [zU_c, zU_e, zU_k, zF_c, zF_i, zF_o, zW_o, zW_i, zC_c, zC_i, zC_o]); omega)); (case r2 => first | omega | ((simp (disch := omega) only [zU_c, zU_e, zU_k, zF_c, zF_i, zF_o, zW_o, zW_i, zC_c, zC_i, zC_o]); omega)))
    | (with_reducible apply z_7ones; (case e1 => repeat (with_reducible first | exact zv_l _ | exact zv_r | apply zv_add | apply zv_sub | apply zv_mul | apply zv_neg)); (case r1 => first | omega | ((simp (disch := omega) only [zU_c, zU_e, zU_k, zF_c, zF_i, zF_o, zW_o, zW_i, zC_c, zC_i, zC_o]); omega)))
    | (with_reducible apply z_7reach; (case e1 => repeat (with_reducible first | exact zv_l _ | exact zv_r | apply zv_add | apply zv_sub | apply zv_mul | apply zv_neg)); (case r1 => first | omega | ((simp (disch := omega) only [zU_c, zU_e, zU_k, zF_c, zF_i, zF_o, zW_o, zW_i, zC_c, zC_i, zC_o]); omega)); (case a2 => assumption); (case a1 => assumption)))
      exact hk _ _ _ (by omega) ⟨_, i + 1, rfl, by omega, by omega, rfl, rfl⟩
    · (first
    | (with_reducible apply z_nm; (case he => repeat (with_reducible first | exact zv_l _ | exact zv_r | apply zv_add | apply zv_sub | apply zv_mul | apply zv_neg)))
    | (with_reducible apply z_b_ck; (case h => with_unfolding_all rfl))
    | (with_reducible apply z_b_R; (case h => first | with_unfolding_all rfl))
    | (with_reducible apply z_L; (case he => repeat (with_reducible first | exact zv_l _ | exact zv_r | apply zv_add | apply zv_sub | apply zv_mul | apply zv_neg)); (case hn => with_reducible first | assumption | exact zl_2 | exact zl_6 | exact zl_51 | exact zl_53 | exact zl_54 | exact zl_60); (case h => omega); (case hy => first | ((simp (disch := omega) only [zU_c, zU_e, zU_k, zF_c, zF_i, zF_o, zW_o, zW_i, zC_c, zC_i, zC_o]); rfl) | rfl))
    | (with_reducible apply z_7has; (case e1 => repeat (with_reducible first | exact zv_l _ | exact zv_r | apply zv_add | apply zv_sub | apply zv_mul | apply zv_neg)); (case e2 => repeat (with_reducible first | exact zv_l _ | exact zv_r | apply zv_add | apply zv_sub | apply zv_mul | apply zv_neg)); (case r1 => first | omega | ((simp (disch := omega) only [zU_c, zU_e, zU_k, zF_c, zF_i, zF_o, zW_o, zW_i, zC_c, zC_i, zC_o]); omega)); (case r2 => first | omega | ((simp (disch := omega) only [zU_c, zU_e, zU_k, zF_c, zF_i, zF_o, zW_o, zW_i, zC_c, zC_i, zC_o]); omega)))
    | (with_reducible apply z_7ones; (case e1 => repeat (with_reducible first | exact zv_l _ | exact zv_r | apply zv_add | apply zv_sub | apply zv_mul | apply zv_neg)); (case r1 => first | omega | ((simp (disch := omega) only [zU_c, zU_e, zU_k, zF_c, zF_i, zF_o, zW_o, zW_i, zC_c, zC_i, zC_o]); omega)))
    | (with_reducible apply z_7reach; (case e1 => repeat (with_reducible first | exact zv_l _ | exact zv_r | apply zv_add | apply zv_sub | apply zv_mul | apply zv_neg)); (case r1 => first | omega | ((simp (disch := omega) only [zU_c, zU_e, zU_k, zF_c, zF_i, zF_o, zW_o, zW_i, zC_c, zC_i, zC_o]); omega)); (case a2 => assumption); (case a1 => assumption)))
      (first
    | (with_reducible apply z_nm; (case he => repeat (with_reducible first | exact zv_l _ | exact zv_r | apply zv_add | apply zv_sub | apply zv_mul | apply zv_neg)))
    | (with_reducible apply z_b_ck; (case h => with_unfolding_all rfl))
    | (with_reducible apply z_b_R; (case h => first | with_unfolding_all rfl))
    | (with_reducible apply z_L; (case he => repeat (with_reducible first | exact zv_l _ | exact zv_r | apply zv_add | apply zv_sub | apply zv_mul | apply zv_neg)); (case hn => with_reducible first | assumption | exact zl_2 | exact zl_6 | exact zl_51 | exact zl_53 | exact zl_54 | exact zl_60); (case h => omega); (case hy => first | ((simp (disch := omega) only [zU_c, zU_e, zU_k, zF_c, zF_i, zF_o, zW_o, zW_i, zC_c, zC_i, zC_o]); rfl) | rfl))
    | (with_reducible apply z_7has; (case e1 => repeat (with_reducible first | exact zv_l _ | exact zv_r | apply zv_add | apply zv_sub | apply zv_mul | apply zv_neg)); (case e2 => repeat (with_reducible first | exact zv_l _ | exact zv_r | apply zv_add | apply zv_sub | apply zv_mul | apply zv_neg)); (case r1 => first | omega | ((simp (disch := omega) only [zU_c, zU_e, zU_k, zF_c, zF_i, zF_o, zW_o, zW_i, zC_c, zC_i, zC_o]); omega)); (case r2 => first | omega | ((simp (disch := omega) only [zU_c, zU_e, zU_k, zF_c, zF_i, zF_o, zW_o, zW_i, zC_c, zC_i, zC_o]); omega)))
    | (with_reducible apply z_7ones; (case e1 => repeat (with_reducible first | exact zv_l _ | exact zv_r | apply zv_add | apply zv_sub | apply zv_mul | apply zv_neg)); (case r1 => first | omega | ((simp (disch := omega) only [zU_c, zU_e, zU_k, zF_c, zF_i, zF_o, zW_o, zW_i, zC_c, zC_i, zC_o]); omega)))
    | (with_reducible apply z_7reach; (case e1 => repeat (with_reducible first | exact zv_l _ | exact zv_r | apply zv_add | apply zv_sub | apply zv_mul | apply zv_neg)); (case r1 => first | omega | ((simp (disch := omega) only [zU_c, zU_e, zU_k, zF_c, zF_i, zF_o, zW_o, zW_i, zC_c, zC_i, zC_o]); omega)); (case a2 => assumption); (case a1 => assumption)))
      refine z_b rfl ?_
      repeat' (first
    | (with_reducible apply z_nm; (case he => repeat (with_reducible first | exact zv_l _ | exact zv_r | apply zv_add | apply zv_sub | apply zv_mul | apply zv_neg)))
    | (with_reducible apply z_b_ck; (case h => with_unfolding_all rfl))
    | (with_reducible apply z_b_R; (case h => first | with_unfolding_all rfl))
    | (with_reducible apply z_L; (case he => repeat (with_reducible first | exact zv_l _ | exact zv_r | apply zv_add | apply zv_sub | apply zv_mul | apply zv_neg)); (case hn => with_reducible first | assumption | exact zl_2 | exact zl_6 | exact zl_51 | exact zl_53 | exact zl_54 | exact zl_60); (case h => omega); (case hy => first | ((simp (disch := omega) only [zU_c, zU_e, zU_k, zF_c, zF_i, zF_o, zW_o, zW_i, zC_c, zC_i, zC_o]); rfl) | rfl))
    | (with_reducible apply z_7has; (case e1 => repeat (with_reducible first | exact zv_l _ | exact zv_r | apply zv_add | apply zv_sub | apply zv_mul | apply zv_neg)); (case e2 => repeat (with_reducible first | exact zv_l _ | exact zv_r | apply zv_add | apply zv_sub | apply zv_mul | apply zv_neg)); (case r1 => first | omega | ((simp (disch := omega) only [zU_c, zU_e, zU_k, zF_c, zF_i, zF_o, zW_o, zW_i, zC_c, zC_i, zC_o]); omega)); (case r2 => first | omega | ((simp (disch := omega) only [zU_c, zU_e, zU_k, zF_c, zF_i, zF_o, zW_o, zW_i, zC_c, zC_i, zC_o]); omega)))
    | (with_reducible apply z_7ones; (case e1 => repeat (with_reducible first | exact zv_l _ | exact zv_r | apply zv_add | apply zv_sub | apply zv_mul | apply zv_neg)); (case r1 => first | omega | ((simp (disch := omega) only [zU_c, zU_e, zU_k, zF_c, zF_i, zF_o, zW_o, zW_i, zC_c, zC_i, zC_o]); omega)))
    | (with_reducible apply z_7reach; (case e1 => repeat (with_reducible first | exact zv_l _ | exact zv_r | apply zv_add | apply zv_sub | apply zv_mul | apply zv_neg)); (case r1 => first | omega | ((simp (disch := omega) only [zU_c, zU_e, zU_k, zF_c, zF_i, zF_o, zW_o, zW_i, zC_c, zC_i, zC_o]); omega)); (case a2 => assumption); (case a1 => assumption)))
      exact hk _ _ _ (by omega) ⟨_, i + 1, rfl, by omega, by omega, rfl, rfl⟩
theorem z_7aboveOf {m : zMe} {e g : Int32} {s : Nat} {t : Int} (e1 : e = zI (s : Int)) (e2 : g = zI t) (r1 : s < 512) (r2 : 0 ≤ t ∧ t < 6) (a1 : zRw m) (a2 : zAs m) {α : Type} {kf : Int32 × Hp → Option (α × Hp)} {Q : α → zMe → Prop} (K : ∀ (v : Int32) (m1 : zMe), (fun (_ : Int32) m1 => m1 = m) v m1 → zOk (kf (v, zM m1)) Q) : zOk ((f_X7_aboveOf 50 e g (zM m)).bind kf) Q := z_call (s_7aboveOf e1 e2 r1 r2 a1 a2) K
set_option maxRecDepth 100000 in
set_option maxHeartbeats 1000000 in
theorem s_7set {m : zMe} {e1 e2 : Int32} {t x : Int} (e3 : e1 = zI t) (e4 : e2 = zI x) (r1 : -2147483648 ≤ t ∧ t < 2147483648) (r2 : -2147483648 ≤ x ∧ x < 2147483648) (a1 : zRw m) : zOk (f_X7_set 50 e1 e2 (zM m)) (fun (_ : Int32) m1 => zY m m1) := by
  subst e3; subst e4
  have hT := a1.1.1
  have h2T := z2_T hT
  unfold f_X7_set
  (first
    | (with_reducible apply z_nm; (case he => repeat (with_reducible first | exact zv_l _ | exact zv_r | apply zv_add | apply zv_sub | apply zv_neg | apply zv_shl | apply zv_and)))
    | (with_reducible apply z_b_ck; (case h => with_unfolding_all rfl))
    | (with_reducible apply z_b_R; (case h => first | with_unfolding_all rfl))
    | (with_reducible apply z_L; (case he => repeat (with_reducible first | exact zv_l _ | exact zv_r | apply zv_add | apply zv_sub | apply zv_neg | apply zv_shl | apply zv_and)); (case hn => with_reducible first | assumption | exact zl_51); (case h => omega); (case hy => first | ((simp (disch := omega) only [zU_c, zU_e, zU_k, zF_c, zF_i, zF_o, zW_o, zW_i, zC_c, zC_i, zC_o]); rfl) | rfl))
    | (with_reducible apply z_in; (case hA => first | with_reducible exact zj_l _ (by decide) | with_reducible exact zj_m1 | (with_reducible apply zj_e; repeat (with_reducible first | exact zv_l _ | exact zv_r | apply zv_add | apply zv_sub | apply zv_neg | apply zv_shl | apply zv_and))); (case hL => first | with_reducible exact zj_l _ (by decide) | with_reducible exact zj_m1 | (with_reducible apply zj_e; repeat (with_reducible first | exact zv_l _ | exact zv_r | apply zv_add | apply zv_sub | apply zv_neg | apply zv_shl | apply zv_and))); (case hH => first | with_reducible exact zj_l _ (by decide) | with_reducible exact zj_m1 | (with_reducible apply zj_e; repeat (with_reducible first | exact zv_l _ | exact zv_r | apply zv_add | apply zv_sub | apply zv_neg | apply zv_shl | apply zv_and))); (case rx => omega); (case rl => omega); (case rh => omega))
    | (with_reducible apply z_7has; (case e1 => repeat (with_reducible first | exact zv_l _ | exact zv_r | apply zv_add | apply zv_sub | apply zv_neg | apply zv_shl | apply zv_and)); (case e2 => repeat (with_reducible first | exact zv_l _ | exact zv_r | apply zv_add | apply zv_sub | apply zv_neg | apply zv_shl | apply zv_and)); (case r1 => first | omega | ((simp (disch := omega) only [zU_c, zU_e, zU_k, zF_c, zF_i, zF_o, zW_o, zW_i, zC_c, zC_i, zC_o]); omega)); (case r2 => first | omega | ((simp (disch := omega) only [zU_c, zU_e, zU_k, zF_c, zF_i, zF_o, zW_o, zW_i, zC_c, zC_i, zC_o]); omega)))
    | (with_reducible apply z_7ones; (case e1 => repeat (with_reducible first | exact zv_l _ | exact zv_r | apply zv_add | apply zv_sub | apply zv_neg | apply zv_shl | apply zv_and)); (case r1 => first | omega | ((simp (disch := omega) only [zU_c, zU_e, zU_k, zF_c, zF_i, zF_o, zW_o, zW_i, zC_c, zC_i, zC_o]); omega)))
    | (with_reducible apply z_7isTeam; (case e1 => repeat (with_reducible first | exact zv_l _ | exact zv_r | apply zv_add | apply zv_sub | apply zv_neg | apply zv_shl | apply zv_and)); (case r1 => first | omega | ((simp (disch := omega) only [zU_c, zU_e, zU_k, zF_c, zF_i, zF_o, zW_o, zW_i, zC_c, zC_i, zC_o]); omega)); (case r2 => first | omega | ((simp (disch := omega) only [zU_c, zU_e, zU_k, zF_c, zF_i, zF_o, zW_o, zW_i, zC_c, zC_i, zC_o]); omega)))
    | (with_reducible apply z_7looks; (case a2 => assumption))
    | (with_reducible apply z_7aboveOf; (case e1 => repeat (with_reducible first | exact zv_l _ | exact zv_r | apply zv_add | apply zv_sub | apply zv_neg | apply zv_shl | apply zv_and)); (case e2 => repeat (with_reducible first | exact zv_l _ | exact zv_r | apply zv_add | apply zv_sub | apply zv_neg | apply zv_shl | apply zv_and)); (case r1 => first | omega | ((simp (disch := omega) only [zU_c, zU_e, zU_k, zF_c, zF_i, zF_o, zW_o, zW_i, zC_c, zC_i, zC_o]); omega)); (case r2 => first | omega | ((simp (disch := omega) only [zU_c, zU_e, zU_k, zF_c, zF_i, zF_o, zW_o, zW_i, zC_c, zC_i, zC_o]); omega)); (case a1 => assumption); (case a2 => assumption); intro _ _ _))
  refine z_7isTeam rfl r1 hT ?_
  (first
    | (with_reducible apply z_B; all_goals (intro _; try (exfalso; omega)))
    | (with_reducible apply z_E; all_goals intro _)
    | (with_reducible apply z_lt; (case ha => repeat (with_reducible first | exact zv_l _ | exact zv_r | apply zv_add | apply zv_sub | apply zv_neg | apply zv_shl | apply zv_and)); (case hb => repeat (with_reducible first | exact zv_l _ | exact zv_r | apply zv_add | apply zv_sub | apply zv_neg | apply zv_shl | apply zv_and)); (case hx => omega); (case hy => omega); all_goals (intro _; try (exfalso; omega)))
    | (with_reducible apply z_le; (case ha => repeat (with_reducible first | exact zv_l _ | exact zv_r | apply zv_add | apply zv_sub | apply zv_neg | apply zv_shl | apply zv_and)); (case hb => repeat (with_reducible first | exact zv_l _ | exact zv_r | apply zv_add | apply zv_sub | apply zv_neg | apply zv_shl | apply zv_and)); (case hx => omega); (case hy => omega); all_goals (intro _; try (exfalso; omega)))
    | (with_reducible apply z_eq; (case ha => repeat (with_reducible first | exact zv_l _ | exact zv_r | apply zv_add | apply zv_sub | apply zv_neg | apply zv_shl | apply zv_and)); (case hb => repeat (with_reducible first | exact zv_l _ | exact zv_r | apply zv_add | apply zv_sub | apply zv_neg | apply zv_shl | apply zv_and)); (case hx => omega); (case hy => omega); all_goals (intro _; try (exfalso; omega))))
  · exact ⟨_, _, rfl, zY_r _⟩
  · rename_i hq
    (first
    | (with_reducible apply z_nm; (case he => repeat (with_reducible first | exact zv_l _ | exact zv_r | apply zv_add | apply zv_sub | apply zv_neg | apply zv_shl | apply zv_and)))
    | (with_reducible apply z_b_ck; (case h => with_unfolding_all rfl))
    | (with_reducible apply z_b_R; (case h => first | with_unfolding_all rfl))
    | (with_reducible apply z_L; (case he => repeat (with_reducible first | exact zv_l _ | exact zv_r | apply zv_add | apply zv_sub | apply zv_neg | apply zv_shl | apply zv_and)); (case hn => with_reducible first | assumption | exact zl_51); (case h => omega); (case hy => first | ((simp (disch := omega) only [zU_c, zU_e, zU_k, zF_c, zF_i, zF_o, zW_o, zW_i, zC_c, zC_i, zC_o]); rfl) | rfl))
    | (with_reducible apply z_in; (case hA => first | with_reducible exact zj_l _ (by decide) | with_reducible exact zj_m1 | (with_reducible apply zj_e; repeat (with_reducible first | exact zv_l _ | exact zv_r | apply zv_add | apply zv_sub | apply zv_neg | apply zv_shl | apply zv_and))); (case hL => first | with_reducible exact zj_l _ (by decide) | with_reducible exact zj_m1 | (with_reducible apply zj_e; repeat (with_reducible first | exact zv_l _ | exact zv_r | apply zv_add | apply zv_sub | apply zv_neg | apply zv_shl | apply zv_and))); (case hH => first | with_reducible exact zj_l _ (by decide) | with_reducible exact zj_m1 | (with_reducible apply zj_e; repeat (with_reducible first | exact zv_l _ | exact zv_r | apply zv_add | apply zv_sub | apply zv_neg | apply zv_shl | apply zv_and))); (case rx => omega); (case rl => omega); (case rh => omega))
    | (with_reducible apply z_7has; (case e1 => repeat (with_reducible first | exact zv_l _ | exact zv_r | apply zv_add | apply zv_sub | apply zv_neg | apply zv_shl | apply zv_and)); (case e2 => repeat (with_reducible first | exact zv_l _ | exact zv_r | apply zv_add | apply zv_sub | apply zv_neg | apply zv_shl | apply zv_and)); (case r1 => first | omega | ((simp (disch := omega) only [zU_c, zU_e, zU_k, zF_c, zF_i, zF_o, zW_o, zW_i, zC_c, zC_i, zC_o]); omega)); (case r2 => first | omega | ((simp (disch := omega) only [zU_c, zU_e, zU_k, zF_c, zF_i, zF_o, zW_o, zW_i, zC_c, zC_i, zC_o]); omega)))
    | (with_reducible apply z_7ones; (case e1 => repeat (with_reducible first | exact zv_l _ | exact zv_r | apply zv_add | apply zv_sub | apply zv_neg | apply zv_shl | apply zv_and)); (case r1 => first | omega | ((simp (disch := omega) only [zU_c, zU_e, zU_k, zF_c, zF_i, zF_o, zW_o, zW_i, zC_c, zC_i, zC_o]); omega)))
    | (with_reducible apply z_7isTeam; (case e1 => repeat (with_reducible first | exact zv_l _ | exact zv_r | apply zv_add | apply zv_sub | apply zv_neg | apply zv_shl | apply zv_and)); (case r1 => first | omega | ((simp (disch := omega) only [zU_c, zU_e, zU_k, zF_c, zF_i, zF_o, zW_o, zW_i, zC_c, zC_i, zC_o]); omega)); (case r2 => first | omega | ((simp (disch := omega) only [zU_c, zU_e, zU_k, zF_c, zF_i, zF_o, zW_o, zW_i, zC_c, zC_i, zC_o]); omega)))
    | (with_reducible apply z_7looks; (case a2 => assumption))
    | (with_reducible apply z_7aboveOf; (case e1 => repeat (with_reducible first | exact zv_l _ | exact zv_r | apply zv_add | apply zv_sub | apply zv_neg | apply zv_shl | apply zv_and)); (case e2 => repeat (with_reducible first | exact zv_l _ | exact zv_r | apply zv_add | apply zv_sub | apply zv_neg | apply zv_shl | apply zv_and)); (case r1 => first | omega | ((simp (disch := omega) only [zU_c, zU_e, zU_k, zF_c, zF_i, zF_o, zW_o, zW_i, zC_c, zC_i, zC_o]); omega)); (case r2 => first | omega | ((simp (disch := omega) only [zU_c, zU_e, zU_k, zF_c, zF_i, zF_o, zW_o, zW_i, zC_c, zC_i, zC_o]); omega)); (case a1 => assumption); (case a2 => assumption); intro _ _ _))
    (first
    | (with_reducible apply z_B; all_goals (intro _; try (exfalso; omega)))
    | (with_reducible apply z_E; all_goals intro _)
    | (with_reducible apply z_lt; (case ha => repeat (with_reducible first | exact zv_l _ | exact zv_r | apply zv_add | apply zv_sub | apply zv_neg | apply zv_shl | apply zv_and)); (case hb => repeat (with_reducible first | exact zv_l _ | exact zv_r | apply zv_add | apply zv_sub | apply zv_neg | apply zv_shl | apply zv_and)); (case hx => omega); (case hy => omega); all_goals (intro _; try (exfalso; omega)))
    | (with_reducible apply z_le; (case ha => repeat (with_reducible first | exact zv_l _ | exact zv_r | apply zv_add | apply zv_sub | apply zv_neg | apply zv_shl | apply zv_and)); (case hb => repeat (with_reducible first | exact zv_l _ | exact zv_r | apply zv_add | apply zv_sub | apply zv_neg | apply zv_shl | apply zv_and)); (case hx => omega); (case hy => omega); all_goals (intro _; try (exfalso; omega)))
    | (with_reducible apply z_eq; (case ha => repeat (with_reducible first | exact zv_l _ | exact zv_r | apply zv_add | apply zv_sub | apply zv_neg | apply zv_shl | apply zv_and)); (case hb => repeat (with_reducible first | exact zv_l _ | exact zv_r | apply zv_add | apply zv_sub | apply zv_neg | apply zv_shl | apply zv_and)); (case hx => omega); (case hy => omega); all_goals (intro _; try (exfalso; omega))))
    · exact ⟨_, _, rfl, zY_r _⟩
    · refine s7_lk a1 (fun M hY hR hA => ?_)
      have e0 : M 51 0 = m 51 0 := zX_51 hY.1 0
      refine z_lp (fun n v m1 => ∃ (b i : Nat) (c : Int32), v = (50, zI t, zI x, zI (b : Int), c, zI (i : Int)) ∧ b < 512 ∧ 1 ≤ i ∧ i ≤ 64 ∧ n = 64 - i ∧ m1 = M) (fun _ _ _ m1 => zY m m1) ?_ 600 63 _ _ (by omega) ⟨0, 1, 0, rfl, by omega, by omega, by omega, by omega, rfl⟩
      rintro n v m1 k ⟨b, i, c, rfl, hb, i1, i64, rfl, rfl⟩ hk
      unfold f_X7_set_33
      dsimp only
      (first
    | (with_reducible apply z_nm; (case he => repeat (with_reducible first | exact zv_l _ | exact zv_r | apply zv_add | apply zv_sub | apply zv_neg | apply zv_shl | apply zv_and)))
    | (with_reducible apply z_b_ck; (case h => with_unfolding_all rfl))
    | (with_reducible apply z_b_R; (case h => first | with_unfolding_all rfl))
    | (with_reducible apply z_L; (case he => repeat (with_reducible first | exact zv_l _ | exact zv_r | apply zv_add | apply zv_sub | apply zv_neg | apply zv_shl | apply zv_and)); (case hn => with_reducible first | assumption | exact zl_51); (case h => omega); (case hy => first | ((simp (disch := omega) only [zU_c, zU_e, zU_k, zF_c, zF_i, zF_o, zW_o, zW_i, zC_c, zC_i, zC_o]); rfl) | rfl))
    | (with_reducible apply z_in; (case hA => first | with_reducible exact zj_l _ (by decide) | with_reducible exact zj_m1 | (with_reducible apply zj_e; repeat (with_reducible first | exact zv_l _ | exact zv_r | apply zv_add | apply zv_sub | apply zv_neg | apply zv_shl | apply zv_and))); (case hL => first | with_reducible exact zj_l _ (by decide) | with_reducible exact zj_m1 | (with_reducible apply zj_e; repeat (with_reducible first | exact zv_l _ | exact zv_r | apply zv_add | apply zv_sub | apply zv_neg | apply zv_shl | apply zv_and))); (case hH => first | with_reducible exact zj_l _ (by decide) | with_reducible exact zj_m1 | (with_reducible apply zj_e; repeat (with_reducible first | exact zv_l _ | exact zv_r | apply zv_add | apply zv_sub | apply zv_neg | apply zv_shl | apply zv_and))); (case rx => omega); (case rl => omega); (case rh => omega))
    | (with_reducible apply z_7has; (case e1 => repeat (with_reducible first | exact zv_l _ | exact zv_r | apply zv_add | apply zv_sub | apply zv_neg | apply zv_shl | apply zv_and)); (case e2 => repeat (with_reducible first | exact zv_l _ | exact zv_r | apply zv_add | apply zv_sub | apply zv_neg | apply zv_shl | apply zv_and)); (case r1 => first | omega | ((simp (disch := omega) only [zU_c, zU_e, zU_k, zF_c, zF_i, zF_o, zW_o, zW_i, zC_c, zC_i, zC_o]); omega)); (case r2 => first | omega | ((simp (disch := omega) only [zU_c, zU_e, zU_k, zF_c, zF_i, zF_o, zW_o, zW_i, zC_c, zC_i, zC_o]); omega)))
    | (with_reducible apply z_7ones; (case e1 => repeat (with_reducible first | exact zv_l _ | exact zv_r | apply zv_add | apply zv_sub | apply zv_neg | apply zv_shl | apply zv_and)); (case r1 => first | omega | ((simp (disch := omega) only [zU_c, zU_e, zU_k, zF_c, zF_i, zF_o, zW_o, zW_i, zC_c, zC_i, zC_o]); omega)))
    | (with_reducible apply z_7isTeam; (case e1 => repeat (with_reducible first | exact zv_l _ | exact zv_r | apply zv_add | apply zv_sub | apply zv_neg | apply zv_shl | apply zv_and)); (case r1 => first | omega | ((simp (disch := omega) only [zU_c, zU_e, zU_k, zF_c, zF_i, zF_o, zW_o, zW_i, zC_c, zC_i, zC_o]); omega)); (case r2 => first | omega | ((simp (disch := omega) only [zU_c, zU_e, zU_k, zF_c, zF_i, zF_o, zW_o, zW_i, zC_c, zC_i, zC_o]); omega)))
    | (with_reducible apply z_7looks; (case a2 => assumption))
    | (with_reducible apply z_7aboveOf; (case e1 => repeat (with_reducible first | exact zv_l _ | exact zv_r | apply zv_add | apply zv_sub | apply zv_neg | apply zv_shl | apply zv_and)); (case e2 => repeat (with_reducible first | exact zv_l _ | exact zv_r | apply zv_add | apply zv_sub | apply zv_neg | apply zv_shl | apply zv_and)); (case r1 => first | omega | ((simp (disch := omega) only [zU_c, zU_e, zU_k, zF_c, zF_i, zF_o, zW_o, zW_i, zC_c, zC_i, zC_o]); omega)); (case r2 => first | omega | ((simp (disch := omega) only [zU_c, zU_e, zU_k, zF_c, zF_i, zF_o, zW_o, zW_i, zC_c, zC_i, zC_o]); omega)); (case a1 => assumption); (case a2 => assumption); intro _ _ _))
      (first
    | (with_reducible apply z_nm; (case he => repeat (with_reducible first | exact zv_l _ | exact zv_r | apply zv_add | apply zv_sub | apply zv_neg | apply zv_shl | apply zv_and)))
    | (with_reducible apply z_b_ck; (case h => with_unfolding_all rfl))
    | (with_reducible apply z_b_R; (case h => first | with_unfolding_all rfl))
    | (with_reducible apply z_L; (case he => repeat (with_reducible first | exact zv_l _ | exact zv_r | apply zv_add | apply zv_sub | apply zv_neg | apply zv_shl | apply zv_and)); (case hn => with_reducible first | assumption | exact zl_51); (case h => omega); (case hy => first | ((simp (disch := omega) only [zU_c, zU_e, zU_k, zF_c, zF_i, zF_o, zW_o, zW_i, zC_c, zC_i, zC_o]); rfl) | rfl))
    | (with_reducible apply z_in; (case hA => first | with_reducible exact zj_l _ (by decide) | with_reducible exact zj_m1 | (with_reducible apply zj_e; repeat (with_reducible first | exact zv_l _ | exact zv_r | apply zv_add | apply zv_sub | apply zv_neg | apply zv_shl | apply zv_and))); (case hL => first | with_reducible exact zj_l _ (by decide) | with_reducible exact zj_m1 | (with_reducible apply zj_e; repeat (with_reducible first | exact zv_l _ | exact zv_r | apply zv_add | apply zv_sub | apply zv_neg | apply zv_shl | apply zv_and))); (case hH => first | with_reducible exact zj_l _ (by decide) | with_reducible exact zj_m1 | (with_reducible apply zj_e; repeat (with_reducible first | exact zv_l _ | exact zv_r | apply zv_add | apply zv_sub | apply zv_neg | apply zv_shl | apply zv_and))); (case rx => omega); (case rl => omega); (case rh => omega))
    | (with_reducible apply z_7has; (case e1 => repeat (with_reducible first | exact zv_l _ | exact zv_r | apply zv_add | apply zv_sub | apply zv_neg | apply zv_shl | apply zv_and)); (case e2 => repeat (with_reducible first | exact zv_l _ | exact zv_r | apply zv_add | apply zv_sub | apply zv_neg | apply zv_shl | apply zv_and)); (case r1 => first | omega | ((simp (disch := omega) only [zU_c, zU_e, zU_k, zF_c, zF_i, zF_o, zW_o, zW_i, zC_c, zC_i, zC_o]); omega)); (case r2 => first | omega | ((simp (disch := omega) only [zU_c, zU_e, zU_k, zF_c, zF_i, zF_o, zW_o, zW_i, zC_c, zC_i, zC_o]); omega)))
    | (with_reducible apply z_7ones; (case e1 => repeat (with_reducible first | exact zv_l _ | exact zv_r | apply zv_add | apply zv_sub | apply zv_neg | apply zv_shl | apply zv_and)); (case r1 => first | omega | ((simp (disch := omega) only [zU_c, zU_e, zU_k, zF_c, zF_i, zF_o, zW_o, zW_i, zC_c, zC_i, zC_o]); omega)))
    | (with_reducible apply z_7isTeam; (case e1 => repeat (with_reducible first | exact zv_l _ | exact zv_r | apply zv_add | apply zv_sub | apply zv_neg | apply zv_shl | apply zv_and)); (case r1 => first | omega | ((simp (disch := omega) only [zU_c, zU_e, zU_k, zF_c, zF_i, zF_o, zW_o, zW_i, zC_c, zC_i, zC_o]); omega)); (case r2 => first | omega | ((simp (disch := omega) only [zU_c, zU_e, zU_k, zF_c, zF_i, zF_o, zW_o, zW_i, zC_c, zC_i, zC_o]); omega)))
    | (with_reducible apply z_7looks; (case a2 => assumption))
    | (with_reducible apply z_7aboveOf; (case e1 => repeat (with_reducible first | exact zv_l _ | exact zv_r | apply zv_add | apply zv_sub | apply zv_neg | apply zv_shl | apply zv_and)); (case e2 => repeat (with_reducible first | exact zv_l _ | exact zv_r | apply zv_add | apply zv_sub | apply zv_neg | apply zv_shl | apply zv_and)); (case r1 => first | omega | ((simp (disch := omega) only [zU_c, zU_e, zU_k, zF_c, zF_i, zF_o, zW_o, zW_i, zC_c, zC_i, zC_o]); omega)); (case r2 => first | omega | ((simp (disch := omega) only [zU_c, zU_e, zU_k, zF_c, zF_i, zF_o, zW_o, zW_i, zC_c, zC_i, zC_o]); omega)); (case a1 => assumption); (case a2 => assumption); intro _ _ _))
      refine z_le (x := zShl 1 (m1 51 0)) (y := (i : Int)) (zv_shl (zv_l 1) rfl) rfl (zr_shl _ _) (by omega) (fun h => ?_) (fun h => ?_)
      · refine z_ite (fun _ => ?_) (fun _ => ?_)
        · exact ⟨_, _, rfl, hY⟩
        · exact ⟨_, _, rfl, hY⟩
      · rw [e0, zShl_T hT] at h
        have hi64 : i < 64 := by omega
        refine z_7has rfl (i := t.toNat) (by rw [Int.toNat_of_nonneg hq.1]) (by omega) (by omega) ?_
        have hold : ∀ a : Int32, zOk (f_X7_set_94 k 50 (zI t) (zI x) (zI (b : Int)) c (zI (i : Int)) a (zM m1)) (fun (_ : Int32) m2 => zY m m2) := fun a => by
          unfold f_X7_set_94 f_X7_set_95 f_X7_set_108
          (first
    | (with_reducible apply z_B; all_goals (intro _; try (exfalso; omega)))
    | (with_reducible apply z_E; all_goals intro _)
    | (with_reducible apply z_lt; (case ha => repeat (with_reducible first | exact zv_l _ | exact zv_r | apply zv_add | apply zv_sub | apply zv_neg | apply zv_shl | apply zv_and)); (case hb => repeat (with_reducible first | exact zv_l _ | exact zv_r | apply zv_add | apply zv_sub | apply zv_neg | apply zv_shl | apply zv_and)); (case hx => omega); (case hy => omega); all_goals (intro _; try (exfalso; omega)))
    | (with_reducible apply z_le; (case ha => repeat (with_reducible first | exact zv_l _ | exact zv_r | apply zv_add | apply zv_sub | apply zv_neg | apply zv_shl | apply zv_and)); (case hb => repeat (with_reducible first | exact zv_l _ | exact zv_r | apply zv_add | apply zv_sub | apply zv_neg | apply zv_shl | apply zv_and)); (case hx => omega); (case hy => omega); all_goals (intro _; try (exfalso; omega)))
    | (with_reducible apply z_eq; (case ha => repeat (with_reducible first | exact zv_l _ | exact zv_r | apply zv_add | apply zv_sub | apply zv_neg | apply zv_shl | apply zv_and)); (case hb => repeat (with_reducible first | exact zv_l _ | exact zv_r | apply zv_add | apply zv_sub | apply zv_neg | apply zv_shl | apply zv_and)); (case hx => omega); (case hy => omega); all_goals (intro _; try (exfalso; omega))))
          (first
    | (with_reducible apply z_B; all_goals (intro _; try (exfalso; omega)))
    | (with_reducible apply z_E; all_goals intro _)
    | (with_reducible apply z_lt; (case ha => repeat (with_reducible first | exact zv_l _ | exact zv_r | apply zv_add | apply zv_sub | apply zv_neg | apply zv_shl | apply zv_and)); (case hb => repeat (with_reducible first | exact zv_l _ | exact zv_r | apply zv_add | apply zv_sub | apply zv_neg | apply zv_shl | apply zv_and)); (case hx => omega); (case hy => omega); all_goals (intro _; try (exfalso; omega)))
    | (with_reducible apply z_le; (case ha => repeat (with_reducible first | exact zv_l _ | exact zv_r | apply zv_add | apply zv_sub | apply zv_neg | apply zv_shl | apply zv_and)); (case hb => repeat (with_reducible first | exact zv_l _ | exact zv_r | apply zv_add | apply zv_sub | apply zv_neg | apply zv_shl | apply zv_and)); (case hx => omega); (case hy => omega); all_goals (intro _; try (exfalso; omega)))
    | (with_reducible apply z_eq; (case ha => repeat (with_reducible first | exact zv_l _ | exact zv_r | apply zv_add | apply zv_sub | apply zv_neg | apply zv_shl | apply zv_and)); (case hb => repeat (with_reducible first | exact zv_l _ | exact zv_r | apply zv_add | apply zv_sub | apply zv_neg | apply zv_shl | apply zv_and)); (case hx => omega); (case hy => omega); all_goals (intro _; try (exfalso; omega))))
          repeat' (first
    | (with_reducible apply z_nm; (case he => repeat (with_reducible first | exact zv_l _ | exact zv_r | apply zv_add | apply zv_sub | apply zv_neg | apply zv_shl | apply zv_and)))
    | (with_reducible apply z_b_ck; (case h => with_unfolding_all rfl))
    | (with_reducible apply z_b_R; (case h => first | with_unfolding_all rfl))
    | (with_reducible apply z_L; (case he => repeat (with_reducible first | exact zv_l _ | exact zv_r | apply zv_add | apply zv_sub | apply zv_neg | apply zv_shl | apply zv_and)); (case hn => with_reducible first | assumption | exact zl_51); (case h => omega); (case hy => first | ((simp (disch := omega) only [zU_c, zU_e, zU_k, zF_c, zF_i, zF_o, zW_o, zW_i, zC_c, zC_i, zC_o]); rfl) | rfl))
    | (with_reducible apply z_in; (case hA => first | with_reducible exact zj_l _ (by decide) | with_reducible exact zj_m1 | (with_reducible apply zj_e; repeat (with_reducible first | exact zv_l _ | exact zv_r | apply zv_add | apply zv_sub | apply zv_neg | apply zv_shl | apply zv_and))); (case hL => first | with_reducible exact zj_l _ (by decide) | with_reducible exact zj_m1 | (with_reducible apply zj_e; repeat (with_reducible first | exact zv_l _ | exact zv_r | apply zv_add | apply zv_sub | apply zv_neg | apply zv_shl | apply zv_and))); (case hH => first | with_reducible exact zj_l _ (by decide) | with_reducible exact zj_m1 | (with_reducible apply zj_e; repeat (with_reducible first | exact zv_l _ | exact zv_r | apply zv_add | apply zv_sub | apply zv_neg | apply zv_shl | apply zv_and))); (case rx => omega); (case rl => omega); (case rh => omega))
    | (with_reducible apply z_7has; (case e1 => repeat (with_reducible first | exact zv_l _ | exact zv_r | apply zv_add | apply zv_sub | apply zv_neg | apply zv_shl | apply zv_and)); (case e2 => repeat (with_reducible first | exact zv_l _ | exact zv_r | apply zv_add | apply zv_sub | apply zv_neg | apply zv_shl | apply zv_and)); (case r1 => first | omega | ((simp (disch := omega) only [zU_c, zU_e, zU_k, zF_c, zF_i, zF_o, zW_o, zW_i, zC_c, zC_i, zC_o]); omega)); (case r2 => first | omega | ((simp (disch := omega) only [zU_c, zU_e, zU_k, zF_c, zF_i, zF_o, zW_o, zW_i, zC_c, zC_i, zC_o]); omega)))
    | (with_reducible apply z_7ones; (case e1 => repeat (with_reducible first | exact zv_l _ | exact zv_r | apply zv_add | apply zv_sub | apply zv_neg | apply zv_shl | apply zv_and)); (case r1 => first | omega | ((simp (disch := omega) only [zU_c, zU_e, zU_k, zF_c, zF_i, zF_o, zW_o, zW_i, zC_c, zC_i, zC_o]); omega)))
    | (with_reducible apply z_7isTeam; (case e1 => repeat (with_reducible first | exact zv_l _ | exact zv_r | apply zv_add | apply zv_sub | apply zv_neg | apply zv_shl | apply zv_and)); (case r1 => first | omega | ((simp (disch := omega) only [zU_c, zU_e, zU_k, zF_c, zF_i, zF_o, zW_o, zW_i, zC_c, zC_i, zC_o]); omega)); (case r2 => first | omega | ((simp (disch := omega) only [zU_c, zU_e, zU_k, zF_c, zF_i, zF_o, zW_o, zW_i, zC_c, zC_i, zC_o]); omega)))
    | (with_reducible apply z_7looks; (case a2 => assumption))
    | (with_reducible apply z_7aboveOf; (case e1 => repeat (with_reducible first | exact zv_l _ | exact zv_r | apply zv_add | apply zv_sub | apply zv_neg | apply zv_shl | apply zv_and)); (case e2 => repeat (with_reducible first | exact zv_l _ | exact zv_r | apply zv_add | apply zv_sub | apply zv_neg | apply zv_shl | apply zv_and)); (case r1 => first | omega | ((simp (disch := omega) only [zU_c, zU_e, zU_k, zF_c, zF_i, zF_o, zW_o, zW_i, zC_c, zC_i, zC_o]); omega)); (case r2 => first | omega | ((simp (disch := omega) only [zU_c, zU_e, zU_k, zF_c, zF_i, zF_o, zW_o, zW_i, zC_c, zC_i, zC_o]); omega)); (case a1 => assumption); (case a2 => assumption); intro _ _ _))
          exact hk _ _ _ (by omega) ⟨b, i + 1, _, rfl, hb, by omega, by omega, rfl, rfl⟩
        have hnew : ∀ a : Int32, zOk (f_X7_set_90 k 50 (zI t) (zI x) (zI (b : Int)) c (zI (i : Int)) a (zM m1)) (fun (_ : Int32) m2 => zY m m2) := fun a => by
          unfold f_X7_set_90 f_X7_set_95 f_X7_set_108
          (first
    | (with_reducible apply z_B; all_goals (intro _; try (exfalso; omega)))
    | (with_reducible apply z_E; all_goals intro _)
    | (with_reducible apply z_lt; (case ha => repeat (with_reducible first | exact zv_l _ | exact zv_r | apply zv_add | apply zv_sub | apply zv_neg | apply zv_shl | apply zv_and)); (case hb => repeat (with_reducible first | exact zv_l _ | exact zv_r | apply zv_add | apply zv_sub | apply zv_neg | apply zv_shl | apply zv_and)); (case hx => omega); (case hy => omega); all_goals (intro _; try (exfalso; omega)))
    | (with_reducible apply z_le; (case ha => repeat (with_reducible first | exact zv_l _ | exact zv_r | apply zv_add | apply zv_sub | apply zv_neg | apply zv_shl | apply zv_and)); (case hb => repeat (with_reducible first | exact zv_l _ | exact zv_r | apply zv_add | apply zv_sub | apply zv_neg | apply zv_shl | apply zv_and)); (case hx => omega); (case hy => omega); all_goals (intro _; try (exfalso; omega)))
    | (with_reducible apply z_eq; (case ha => repeat (with_reducible first | exact zv_l _ | exact zv_r | apply zv_add | apply zv_sub | apply zv_neg | apply zv_shl | apply zv_and)); (case hb => repeat (with_reducible first | exact zv_l _ | exact zv_r | apply zv_add | apply zv_sub | apply zv_neg | apply zv_shl | apply zv_and)); (case hx => omega); (case hy => omega); all_goals (intro _; try (exfalso; omega))))
          (first
    | (with_reducible apply z_B; all_goals (intro _; try (exfalso; omega)))
    | (with_reducible apply z_E; all_goals intro _)
    | (with_reducible apply z_lt; (case ha => repeat (with_reducible first | exact zv_l _ | exact zv_r | apply zv_add | apply zv_sub | apply zv_neg | apply zv_shl | apply zv_and)); (case hb => repeat (with_reducible first | exact zv_l _ | exact zv_r | apply zv_add | apply zv_sub | apply zv_neg | apply zv_shl | apply zv_and)); (case hx => omega); (case hy => omega); all_goals (intro _; try (exfalso; omega)))
    | (with_reducible apply z_le; (case ha => repeat (with_reducible first | exact zv_l _ | exact zv_r | apply zv_add | apply zv_sub | apply zv_neg | apply zv_shl | apply zv_and)); (case hb => repeat (with_reducible first | exact zv_l _ | exact zv_r | apply zv_add | apply zv_sub | apply zv_neg | apply zv_shl | apply zv_and)); (case hx => omega); (case hy => omega); all_goals (intro _; try (exfalso; omega)))
    | (with_reducible apply z_eq; (case ha => repeat (with_reducible first | exact zv_l _ | exact zv_r | apply zv_add | apply zv_sub | apply zv_neg | apply zv_shl | apply zv_and)); (case hb => repeat (with_reducible first | exact zv_l _ | exact zv_r | apply zv_add | apply zv_sub | apply zv_neg | apply zv_shl | apply zv_and)); (case hx => omega); (case hy => omega); all_goals (intro _; try (exfalso; omega))))
          repeat' (first
    | (with_reducible apply z_nm; (case he => repeat (with_reducible first | exact zv_l _ | exact zv_r | apply zv_add | apply zv_sub | apply zv_neg | apply zv_shl | apply zv_and)))
    | (with_reducible apply z_b_ck; (case h => with_unfolding_all rfl))
    | (with_reducible apply z_b_R; (case h => first | with_unfolding_all rfl))
    | (with_reducible apply z_L; (case he => repeat (with_reducible first | exact zv_l _ | exact zv_r | apply zv_add | apply zv_sub | apply zv_neg | apply zv_shl | apply zv_and)); (case hn => with_reducible first | assumption | exact zl_51); (case h => omega); (case hy => first | ((simp (disch := omega) only [zU_c, zU_e, zU_k, zF_c, zF_i, zF_o, zW_o, zW_i, zC_c, zC_i, zC_o]); rfl) | rfl))
    | (with_reducible apply z_in; (case hA => first | with_reducible exact zj_l _ (by decide) | with_reducible exact zj_m1 | (with_reducible apply zj_e; repeat (with_reducible first | exact zv_l _ | exact zv_r | apply zv_add | apply zv_sub | apply zv_neg | apply zv_shl | apply zv_and))); (case hL => first | with_reducible exact zj_l _ (by decide) | with_reducible exact zj_m1 | (with_reducible apply zj_e; repeat (with_reducible first | exact zv_l _ | exact zv_r | apply zv_add | apply zv_sub | apply zv_neg | apply zv_shl | apply zv_and))); (case hH => first | with_reducible exact zj_l _ (by decide) | with_reducible exact zj_m1 | (with_reducible apply zj_e; repeat (with_reducible first | exact zv_l _ | exact zv_r | apply zv_add | apply zv_sub | apply zv_neg | apply zv_shl | apply zv_and))); (case rx => omega); (case rl => omega); (case rh => omega))
    | (with_reducible apply z_7has; (case e1 => repeat (with_reducible first | exact zv_l _ | exact zv_r | apply zv_add | apply zv_sub | apply zv_neg | apply zv_shl | apply zv_and)); (case e2 => repeat (with_reducible first | exact zv_l _ | exact zv_r | apply zv_add | apply zv_sub | apply zv_neg | apply zv_shl | apply zv_and)); (case r1 => first | omega | ((simp (disch := omega) only [zU_c, zU_e, zU_k, zF_c, zF_i, zF_o, zW_o, zW_i, zC_c, zC_i, zC_o]); omega)); (case r2 => first | omega | ((simp (disch := omega) only [zU_c, zU_e, zU_k, zF_c, zF_i, zF_o, zW_o, zW_i, zC_c, zC_i, zC_o]); omega)))
    | (with_reducible apply z_7ones; (case e1 => repeat (with_reducible first | exact zv_l _ | exact zv_r | apply zv_add | apply zv_sub | apply zv_neg | apply zv_shl | apply zv_and)); (case r1 => first | omega | ((simp (disch := omega) only [zU_c, zU_e, zU_k, zF_c, zF_i, zF_o, zW_o, zW_i, zC_c, zC_i, zC_o]); omega)))
    | (with_reducible apply z_7isTeam; (case e1 => repeat (with_reducible first | exact zv_l _ | exact zv_r | apply zv_add | apply zv_sub | apply zv_neg | apply zv_shl | apply zv_and)); (case r1 => first | omega | ((simp (disch := omega) only [zU_c, zU_e, zU_k, zF_c, zF_i, zF_o, zW_o, zW_i, zC_c, zC_i, zC_o]); omega)); (case r2 => first | omega | ((simp (disch := omega) only [zU_c, zU_e, zU_k, zF_c, zF_i, zF_o, zW_o, zW_i, zC_c, zC_i, zC_o]); omega)))
    | (with_reducible apply z_7looks; (case a2 => assumption))
    | (with_reducible apply z_7aboveOf; (case e1 => repeat (with_reducible first | exact zv_l _ | exact zv_r | apply zv_add | apply zv_sub | apply zv_neg | apply zv_shl | apply zv_and)); (case e2 => repeat (with_reducible first | exact zv_l _ | exact zv_r | apply zv_add | apply zv_sub | apply zv_neg | apply zv_shl | apply zv_and)); (case r1 => first | omega | ((simp (disch := omega) only [zU_c, zU_e, zU_k, zF_c, zF_i, zF_o, zW_o, zW_i, zC_c, zC_i, zC_o]); omega)); (case r2 => first | omega | ((simp (disch := omega) only [zU_c, zU_e, zU_k, zF_c, zF_i, zF_o, zW_o, zW_i, zC_c, zC_i, zC_o]); omega)); (case a1 => assumption); (case a2 => assumption); intro _ _ _))
          exact hk _ _ _ (by omega) ⟨i, i + 1, _, rfl, by omega, by omega, by omega, rfl, rfl⟩
        refine z_B (fun _ => ?_) (fun _ => ?_)
        · refine z_7aboveOf rfl rfl (by omega) (by omega) hR hA (fun a m2 hm => ?_)
          have hm : m2 = m1 := hm
          subst hm
          refine z_ite (fun _ => ?_) (fun _ => ?_)
          · exact hnew _
          · refine z_ite (fun _ => ?_) (fun _ => ?_)
            · refine z_7ones rfl (by omega) ?_
              refine z_7ones rfl hb ?_
              refine z_ite (fun _ => ?_) (fun _ => ?_)
              · exact hold _
              · exact hnew _
            · exact hold _
        · repeat' (first
    | (with_reducible apply z_nm; (case he => repeat (with_reducible first | exact zv_l _ | exact zv_r | apply zv_add | apply zv_sub | apply zv_neg | apply zv_shl | apply zv_and)))
    | (with_reducible apply z_b_ck; (case h => with_unfolding_all rfl))
    | (with_reducible apply z_b_R; (case h => first | with_unfolding_all rfl))
    | (with_reducible apply z_L; (case he => repeat (with_reducible first | exact zv_l _ | exact zv_r | apply zv_add | apply zv_sub | apply zv_neg | apply zv_shl | apply zv_and)); (case hn => with_reducible first | assumption | exact zl_51); (case h => omega); (case hy => first | ((simp (disch := omega) only [zU_c, zU_e, zU_k, zF_c, zF_i, zF_o, zW_o, zW_i, zC_c, zC_i, zC_o]); rfl) | rfl))
    | (with_reducible apply z_in; (case hA => first | with_reducible exact zj_l _ (by decide) | with_reducible exact zj_m1 | (with_reducible apply zj_e; repeat (with_reducible first | exact zv_l _ | exact zv_r | apply zv_add | apply zv_sub | apply zv_neg | apply zv_shl | apply zv_and))); (case hL => first | with_reducible exact zj_l _ (by decide) | with_reducible exact zj_m1 | (with_reducible apply zj_e; repeat (with_reducible first | exact zv_l _ | exact zv_r | apply zv_add | apply zv_sub | apply zv_neg | apply zv_shl | apply zv_and))); (case hH => first | with_reducible exact zj_l _ (by decide) | with_reducible exact zj_m1 | (with_reducible apply zj_e; repeat (with_reducible first | exact zv_l _ | exact zv_r | apply zv_add | apply zv_sub | apply zv_neg | apply zv_shl | apply zv_and))); (case rx => omega); (case rl => omega); (case rh => omega))
    | (with_reducible apply z_7has; (case e1 => repeat (with_reducible first | exact zv_l _ | exact zv_r | apply zv_add | apply zv_sub | apply zv_neg | apply zv_shl | apply zv_and)); (case e2 => repeat (with_reducible first | exact zv_l _ | exact zv_r | apply zv_add | apply zv_sub | apply zv_neg | apply zv_shl | apply zv_and)); (case r1 => first | omega | ((simp (disch := omega) only [zU_c, zU_e, zU_k, zF_c, zF_i, zF_o, zW_o, zW_i, zC_c, zC_i, zC_o]); omega)); (case r2 => first | omega | ((simp (disch := omega) only [zU_c, zU_e, zU_k, zF_c, zF_i, zF_o, zW_o, zW_i, zC_c, zC_i, zC_o]); omega)))
    | (with_reducible apply z_7ones; (case e1 => repeat (with_reducible first | exact zv_l _ | exact zv_r | apply zv_add | apply zv_sub | apply zv_neg | apply zv_shl | apply zv_and)); (case r1 => first | omega | ((simp (disch := omega) only [zU_c, zU_e, zU_k, zF_c, zF_i, zF_o, zW_o, zW_i, zC_c, zC_i, zC_o]); omega)))
    | (with_reducible apply z_7isTeam; (case e1 => repeat (with_reducible first | exact zv_l _ | exact zv_r | apply zv_add | apply zv_sub | apply zv_neg | apply zv_shl | apply zv_and)); (case r1 => first | omega | ((simp (disch := omega) only [zU_c, zU_e, zU_k, zF_c, zF_i, zF_o, zW_o, zW_i, zC_c, zC_i, zC_o]); omega)); (case r2 => first | omega | ((simp (disch := omega) only [zU_c, zU_e, zU_k, zF_c, zF_i, zF_o, zW_o, zW_i, zC_c, zC_i, zC_o]); omega)))
    | (with_reducible apply z_7looks; (case a2 => assumption))
    | (with_reducible apply z_7aboveOf; (case e1 => repeat (with_reducible first | exact zv_l _ | exact zv_r | apply zv_add | apply zv_sub | apply zv_neg | apply zv_shl | apply zv_and)); (case e2 => repeat (with_reducible first | exact zv_l _ | exact zv_r | apply zv_add | apply zv_sub | apply zv_neg | apply zv_shl | apply zv_and)); (case r1 => first | omega | ((simp (disch := omega) only [zU_c, zU_e, zU_k, zF_c, zF_i, zF_o, zW_o, zW_i, zC_c, zC_i, zC_o]); omega)); (case r2 => first | omega | ((simp (disch := omega) only [zU_c, zU_e, zU_k, zF_c, zF_i, zF_o, zW_o, zW_i, zC_c, zC_i, zC_o]); omega)); (case a1 => assumption); (case a2 => assumption); intro _ _ _))
          exact hk _ _ _ (by omega) ⟨b, i + 1, c, rfl, hb, by omega, by omega, rfl, rfl⟩
theorem z_7set {m : zMe} {e1 e2 : Int32} {t x : Int} (e3 : e1 = zI t) (e4 : e2 = zI x) (r1 : -2147483648 ≤ t ∧ t < 2147483648) (r2 : -2147483648 ≤ x ∧ x < 2147483648) (a1 : zRw m) {α : Type} {kf : Int32 × Hp → Option (α × Hp)} {Q : α → zMe → Prop} (K : ∀ (v : Int32) (m1 : zMe), (fun (_ : Int32) m1 => zY m m1) v m1 → zOk (kf (v, zM m1)) Q) : zOk ((f_X7_set 50 e1 e2 (zM m)).bind kf) Q := z_call (s_7set e3 e4 r1 r2 a1) K
set_option maxRecDepth 100000 in
set_option maxHeartbeats 1000000 in
theorem s_7run {m : zMe} {e1 e2 : Int32} {t g : Int} (e3 : e1 = zI t) (e4 : e2 = zI g) (r1 : -2147483648 ≤ t ∧ t < 2147483648) (r2 : -2147483648 ≤ g ∧ g < 2147483648) (a1 : zRw m) : zOk (f_X7_run 50 e1 e2 (zM m)) (fun (_ : Int32) m1 => zY m m1) := by
  subst e3; subst e4
  have hT := a1.1.1
  have hN := a1.1.2.1
  unfold f_X7_run
  (first
    | (with_reducible apply z_nm; (case he => repeat (with_reducible first | exact zv_l _ | exact zv_r | apply zv_add | apply zv_neg)))
    | (with_reducible apply z_b_ck; (case h => with_unfolding_all rfl))
    | (with_reducible apply z_b_R; (case h => first | with_unfolding_all rfl))
    | (with_reducible apply z_L; (case he => repeat (with_reducible first | exact zv_l _ | exact zv_r | apply zv_add | apply zv_neg)); (case hn => with_reducible first | assumption | exact zl_2 | exact zl_51 | exact zl_55); (case h => omega); (case hy => first | ((simp (disch := omega) only [zU_c, zU_e, zU_k, zF_c, zF_i, zF_o, zW_o, zW_i, zC_c, zC_i, zC_o]); rfl) | rfl))
    | (with_reducible apply z_7isTeam; (case e1 => repeat (with_reducible first | exact zv_l _ | exact zv_r | apply zv_add | apply zv_neg)); (case r1 => first | omega | ((simp (disch := omega) only [zU_c, zU_e, zU_k, zF_c, zF_i, zF_o, zW_o, zW_i, zC_c, zC_i, zC_o]); omega)); (case r2 => first | omega | ((simp (disch := omega) only [zU_c, zU_e, zU_k, zF_c, zF_i, zF_o, zW_o, zW_i, zC_c, zC_i, zC_o]); omega)))
    | (with_reducible apply z_7isGame; (case e1 => repeat (with_reducible first | exact zv_l _ | exact zv_r | apply zv_add | apply zv_neg)); (case r1 => first | omega | ((simp (disch := omega) only [zU_c, zU_e, zU_k, zF_c, zF_i, zF_o, zW_o, zW_i, zC_c, zC_i, zC_o]); omega)); (case r2 => first | omega | ((simp (disch := omega) only [zU_c, zU_e, zU_k, zF_c, zF_i, zF_o, zW_o, zW_i, zC_c, zC_i, zC_o]); omega)))
    | (with_reducible apply z_7looks; (case a2 => assumption))
    | (with_reducible apply z_7isInNow; (case e3 => repeat (with_reducible first | exact zv_l _ | exact zv_r | apply zv_add | apply zv_neg)); (case e4 => repeat (with_reducible first | exact zv_l _ | exact zv_r | apply zv_add | apply zv_neg)); (case r1 => first | omega | ((simp (disch := omega) only [zU_c, zU_e, zU_k, zF_c, zF_i, zF_o, zW_o, zW_i, zC_c, zC_i, zC_o]); omega)); (case r2 => first | omega | ((simp (disch := omega) only [zU_c, zU_e, zU_k, zF_c, zF_i, zF_o, zW_o, zW_i, zC_c, zC_i, zC_o]); omega)); (case a1 => assumption); (case a2 => assumption); intro _ _ _))
  refine z_7isTeam rfl r1 hT ?_
  (first
    | (with_reducible apply z_B; all_goals (intro _; try (exfalso; omega)))
    | (with_reducible apply z_E; all_goals intro _)
    | (with_reducible apply z_lt; (case ha => repeat (with_reducible first | exact zv_l _ | exact zv_r | apply zv_add | apply zv_neg)); (case hb => repeat (with_reducible first | exact zv_l _ | exact zv_r | apply zv_add | apply zv_neg)); (case hx => omega); (case hy => omega); all_goals (intro _; try (exfalso; omega)))
    | (with_reducible apply z_le; (case ha => repeat (with_reducible first | exact zv_l _ | exact zv_r | apply zv_add | apply zv_neg)); (case hb => repeat (with_reducible first | exact zv_l _ | exact zv_r | apply zv_add | apply zv_neg)); (case hx => omega); (case hy => omega); all_goals (intro _; try (exfalso; omega)))
    | (with_reducible apply z_eq; (case ha => repeat (with_reducible first | exact zv_l _ | exact zv_r | apply zv_add | apply zv_neg)); (case hb => repeat (with_reducible first | exact zv_l _ | exact zv_r | apply zv_add | apply zv_neg)); (case hx => omega); (case hy => omega); all_goals (intro _; try (exfalso; omega))))
  · exact ⟨_, _, rfl, zY_r _⟩
  · refine z_7isGame rfl r2 hN ?_
    (first
    | (with_reducible apply z_B; all_goals (intro _; try (exfalso; omega)))
    | (with_reducible apply z_E; all_goals intro _)
    | (with_reducible apply z_lt; (case ha => repeat (with_reducible first | exact zv_l _ | exact zv_r | apply zv_add | apply zv_neg)); (case hb => repeat (with_reducible first | exact zv_l _ | exact zv_r | apply zv_add | apply zv_neg)); (case hx => omega); (case hy => omega); all_goals (intro _; try (exfalso; omega)))
    | (with_reducible apply z_le; (case ha => repeat (with_reducible first | exact zv_l _ | exact zv_r | apply zv_add | apply zv_neg)); (case hb => repeat (with_reducible first | exact zv_l _ | exact zv_r | apply zv_add | apply zv_neg)); (case hx => omega); (case hy => omega); all_goals (intro _; try (exfalso; omega)))
    | (with_reducible apply z_eq; (case ha => repeat (with_reducible first | exact zv_l _ | exact zv_r | apply zv_add | apply zv_neg)); (case hb => repeat (with_reducible first | exact zv_l _ | exact zv_r | apply zv_add | apply zv_neg)); (case hx => omega); (case hy => omega); all_goals (intro _; try (exfalso; omega))))
    · exact ⟨_, _, rfl, zY_r _⟩
    · (first
    | (with_reducible apply z_nm; (case he => repeat (with_reducible first | exact zv_l _ | exact zv_r | apply zv_add | apply zv_neg)))
    | (with_reducible apply z_b_ck; (case h => with_unfolding_all rfl))
    | (with_reducible apply z_b_R; (case h => first | with_unfolding_all rfl))
    | (with_reducible apply z_L; (case he => repeat (with_reducible first | exact zv_l _ | exact zv_r | apply zv_add | apply zv_neg)); (case hn => with_reducible first | assumption | exact zl_2 | exact zl_51 | exact zl_55); (case h => omega); (case hy => first | ((simp (disch := omega) only [zU_c, zU_e, zU_k, zF_c, zF_i, zF_o, zW_o, zW_i, zC_c, zC_i, zC_o]); rfl) | rfl))
    | (with_reducible apply z_7isTeam; (case e1 => repeat (with_reducible first | exact zv_l _ | exact zv_r | apply zv_add | apply zv_neg)); (case r1 => first | omega | ((simp (disch := omega) only [zU_c, zU_e, zU_k, zF_c, zF_i, zF_o, zW_o, zW_i, zC_c, zC_i, zC_o]); omega)); (case r2 => first | omega | ((simp (disch := omega) only [zU_c, zU_e, zU_k, zF_c, zF_i, zF_o, zW_o, zW_i, zC_c, zC_i, zC_o]); omega)))
    | (with_reducible apply z_7isGame; (case e1 => repeat (with_reducible first | exact zv_l _ | exact zv_r | apply zv_add | apply zv_neg)); (case r1 => first | omega | ((simp (disch := omega) only [zU_c, zU_e, zU_k, zF_c, zF_i, zF_o, zW_o, zW_i, zC_c, zC_i, zC_o]); omega)); (case r2 => first | omega | ((simp (disch := omega) only [zU_c, zU_e, zU_k, zF_c, zF_i, zF_o, zW_o, zW_i, zC_c, zC_i, zC_o]); omega)))
    | (with_reducible apply z_7looks; (case a2 => assumption))
    | (with_reducible apply z_7isInNow; (case e3 => repeat (with_reducible first | exact zv_l _ | exact zv_r | apply zv_add | apply zv_neg)); (case e4 => repeat (with_reducible first | exact zv_l _ | exact zv_r | apply zv_add | apply zv_neg)); (case r1 => first | omega | ((simp (disch := omega) only [zU_c, zU_e, zU_k, zF_c, zF_i, zF_o, zW_o, zW_i, zC_c, zC_i, zC_o]); omega)); (case r2 => first | omega | ((simp (disch := omega) only [zU_c, zU_e, zU_k, zF_c, zF_i, zF_o, zW_o, zW_i, zC_c, zC_i, zC_o]); omega)); (case a1 => assumption); (case a2 => assumption); intro _ _ _))
      (first
    | (with_reducible apply z_nm; (case he => repeat (with_reducible first | exact zv_l _ | exact zv_r | apply zv_add | apply zv_neg)))
    | (with_reducible apply z_b_ck; (case h => with_unfolding_all rfl))
    | (with_reducible apply z_b_R; (case h => first | with_unfolding_all rfl))
    | (with_reducible apply z_L; (case he => repeat (with_reducible first | exact zv_l _ | exact zv_r | apply zv_add | apply zv_neg)); (case hn => with_reducible first | assumption | exact zl_2 | exact zl_51 | exact zl_55); (case h => omega); (case hy => first | ((simp (disch := omega) only [zU_c, zU_e, zU_k, zF_c, zF_i, zF_o, zW_o, zW_i, zC_c, zC_i, zC_o]); rfl) | rfl))
    | (with_reducible apply z_7isTeam; (case e1 => repeat (with_reducible first | exact zv_l _ | exact zv_r | apply zv_add | apply zv_neg)); (case r1 => first | omega | ((simp (disch := omega) only [zU_c, zU_e, zU_k, zF_c, zF_i, zF_o, zW_o, zW_i, zC_c, zC_i, zC_o]); omega)); (case r2 => first | omega | ((simp (disch := omega) only [zU_c, zU_e, zU_k, zF_c, zF_i, zF_o, zW_o, zW_i, zC_c, zC_i, zC_o]); omega)))
    | (with_reducible apply z_7isGame; (case e1 => repeat (with_reducible first | exact zv_l _ | exact zv_r | apply zv_add | apply zv_neg)); (case r1 => first | omega | ((simp (disch := omega) only [zU_c, zU_e, zU_k, zF_c, zF_i, zF_o, zW_o, zW_i, zC_c, zC_i, zC_o]); omega)); (case r2 => first | omega | ((simp (disch := omega) only [zU_c, zU_e, zU_k, zF_c, zF_i, zF_o, zW_o, zW_i, zC_c, zC_i, zC_o]); omega)))
    | (with_reducible apply z_7looks; (case a2 => assumption))
    | (with_reducible apply z_7isInNow; (case e3 => repeat (with_reducible first | exact zv_l _ | exact zv_r | apply zv_add | apply zv_neg)); (case e4 => repeat (with_reducible first | exact zv_l _ | exact zv_r | apply zv_add | apply zv_neg)); (case r1 => first | omega | ((simp (disch := omega) only [zU_c, zU_e, zU_k, zF_c, zF_i, zF_o, zW_o, zW_i, zC_c, zC_i, zC_o]); omega)); (case r2 => first | omega | ((simp (disch := omega) only [zU_c, zU_e, zU_k, zF_c, zF_i, zF_o, zW_o, zW_i, zC_c, zC_i, zC_o]); omega)); (case a1 => assumption); (case a2 => assumption); intro _ _ _))
      refine z_ite (fun _ => ?_) (fun _ => ?_)
      · refine s7_lk a1 (fun M hY hR hA => ?_)
        refine z_7isInNow (a := 0) rfl (zv_l 0) (by omega) (Or.inl rfl) hR hA (fun v m2 hv => ?_)
        obtain ⟨⟨p, rfl⟩, hX2, -, h8⟩ := hv
        refine z_E (fun _ => ?_) (fun _ => ?_)
        · exact ⟨_, _, rfl, zY_t hY ⟨hX2, fun _ => h8⟩⟩
        · (first
    | (with_reducible apply z_nm; (case he => repeat (with_reducible first | exact zv_l _ | exact zv_r | apply zv_add | apply zv_neg)))
    | (with_reducible apply z_b_ck; (case h => with_unfolding_all rfl))
    | (with_reducible apply z_b_R; (case h => first | with_unfolding_all rfl))
    | (with_reducible apply z_L; (case he => repeat (with_reducible first | exact zv_l _ | exact zv_r | apply zv_add | apply zv_neg)); (case hn => with_reducible first | assumption | exact zl_2 | exact zl_51 | exact zl_55); (case h => omega); (case hy => first | ((simp (disch := omega) only [zU_c, zU_e, zU_k, zF_c, zF_i, zF_o, zW_o, zW_i, zC_c, zC_i, zC_o]); rfl) | rfl))
    | (with_reducible apply z_7isTeam; (case e1 => repeat (with_reducible first | exact zv_l _ | exact zv_r | apply zv_add | apply zv_neg)); (case r1 => first | omega | ((simp (disch := omega) only [zU_c, zU_e, zU_k, zF_c, zF_i, zF_o, zW_o, zW_i, zC_c, zC_i, zC_o]); omega)); (case r2 => first | omega | ((simp (disch := omega) only [zU_c, zU_e, zU_k, zF_c, zF_i, zF_o, zW_o, zW_i, zC_c, zC_i, zC_o]); omega)))
    | (with_reducible apply z_7isGame; (case e1 => repeat (with_reducible first | exact zv_l _ | exact zv_r | apply zv_add | apply zv_neg)); (case r1 => first | omega | ((simp (disch := omega) only [zU_c, zU_e, zU_k, zF_c, zF_i, zF_o, zW_o, zW_i, zC_c, zC_i, zC_o]); omega)); (case r2 => first | omega | ((simp (disch := omega) only [zU_c, zU_e, zU_k, zF_c, zF_i, zF_o, zW_o, zW_i, zC_c, zC_i, zC_o]); omega)))
    | (with_reducible apply z_7looks; (case a2 => assumption))
    | (with_reducible apply z_7isInNow; (case e3 => repeat (with_reducible first | exact zv_l _ | exact zv_r | apply zv_add | apply zv_neg)); (case e4 => repeat (with_reducible first | exact zv_l _ | exact zv_r | apply zv_add | apply zv_neg)); (case r1 => first | omega | ((simp (disch := omega) only [zU_c, zU_e, zU_k, zF_c, zF_i, zF_o, zW_o, zW_i, zC_c, zC_i, zC_o]); omega)); (case r2 => first | omega | ((simp (disch := omega) only [zU_c, zU_e, zU_k, zF_c, zF_i, zF_o, zW_o, zW_i, zC_c, zC_i, zC_o]); omega)); (case a1 => assumption); (case a2 => assumption); intro _ _ _))
          (first
    | (with_reducible apply z_nm; (case he => repeat (with_reducible first | exact zv_l _ | exact zv_r | apply zv_add | apply zv_neg)))
    | (with_reducible apply z_b_ck; (case h => with_unfolding_all rfl))
    | (with_reducible apply z_b_R; (case h => first | with_unfolding_all rfl))
    | (with_reducible apply z_L; (case he => repeat (with_reducible first | exact zv_l _ | exact zv_r | apply zv_add | apply zv_neg)); (case hn => with_reducible first | assumption | exact zl_2 | exact zl_51 | exact zl_55); (case h => omega); (case hy => first | ((simp (disch := omega) only [zU_c, zU_e, zU_k, zF_c, zF_i, zF_o, zW_o, zW_i, zC_c, zC_i, zC_o]); rfl) | rfl))
    | (with_reducible apply z_7isTeam; (case e1 => repeat (with_reducible first | exact zv_l _ | exact zv_r | apply zv_add | apply zv_neg)); (case r1 => first | omega | ((simp (disch := omega) only [zU_c, zU_e, zU_k, zF_c, zF_i, zF_o, zW_o, zW_i, zC_c, zC_i, zC_o]); omega)); (case r2 => first | omega | ((simp (disch := omega) only [zU_c, zU_e, zU_k, zF_c, zF_i, zF_o, zW_o, zW_i, zC_c, zC_i, zC_o]); omega)))
    | (with_reducible apply z_7isGame; (case e1 => repeat (with_reducible first | exact zv_l _ | exact zv_r | apply zv_add | apply zv_neg)); (case r1 => first | omega | ((simp (disch := omega) only [zU_c, zU_e, zU_k, zF_c, zF_i, zF_o, zW_o, zW_i, zC_c, zC_i, zC_o]); omega)); (case r2 => first | omega | ((simp (disch := omega) only [zU_c, zU_e, zU_k, zF_c, zF_i, zF_o, zW_o, zW_i, zC_c, zC_i, zC_o]); omega)))
    | (with_reducible apply z_7looks; (case a2 => assumption))
    | (with_reducible apply z_7isInNow; (case e3 => repeat (with_reducible first | exact zv_l _ | exact zv_r | apply zv_add | apply zv_neg)); (case e4 => repeat (with_reducible first | exact zv_l _ | exact zv_r | apply zv_add | apply zv_neg)); (case r1 => first | omega | ((simp (disch := omega) only [zU_c, zU_e, zU_k, zF_c, zF_i, zF_o, zW_o, zW_i, zC_c, zC_i, zC_o]); omega)); (case r2 => first | omega | ((simp (disch := omega) only [zU_c, zU_e, zU_k, zF_c, zF_i, zF_o, zW_o, zW_i, zC_c, zC_i, zC_o]); omega)); (case a1 => assumption); (case a2 => assumption); intro _ _ _))
          exact ⟨_, _, rfl, zY_t hY ⟨hX2, fun _ => h8⟩⟩
      · exact ⟨_, _, rfl, zY_r _⟩
theorem z_7run {m : zMe} {e1 e2 : Int32} {t g : Int} (e3 : e1 = zI t) (e4 : e2 = zI g) (r1 : -2147483648 ≤ t ∧ t < 2147483648) (r2 : -2147483648 ≤ g ∧ g < 2147483648) (a1 : zRw m) {α : Type} {kf : Int32 × Hp → Option (α × Hp)} {Q : α → zMe → Prop} (K : ∀ (v : Int32) (m1 : zMe), (fun (_ : Int32) m1 => zY m m1) v m1 → zOk (kf (v, zM m1)) Q) : zOk ((f_X7_run 50 e1 e2 (zM m)).bind kf) Q := z_call (s_7run e3 e4 r1 r2 a1) K
set_option maxRecDepth 100000 in
set_option maxHeartbeats 1000000 in
theorem s_7pattern {m : zMe} {e : Int32} {t : Int} (e1 : e = zI t) (r1 : -2147483648 ≤ t ∧ t < 2147483648) (a1 : zRw m) : zOk (f_X7_pattern 50 e (zM m)) (fun (_ : Int32) m1 => zY m m1) := by
  subst e1
  have hT := a1.1.1
  unfold f_X7_pattern
  (first
    | (with_reducible apply z_nm; (case he => repeat (with_reducible first | exact zv_l _ | exact zv_r | apply zv_neg)))
    | (with_reducible apply z_b_ck; (case h => with_unfolding_all rfl))
    | (with_reducible apply z_I; (case h => first | with_unfolding_all rfl); (case hy => first | ((simp (disch := omega) only [zU_c, zU_e, zU_k, zF_c, zF_i, zF_o, zW_o, zW_i, zC_c, zC_i, zC_o]); rfl) | rfl))
    | (with_reducible apply z_7isTeam; (case e1 => repeat (with_reducible first | exact zv_l _ | exact zv_r | apply zv_neg)); (case r1 => first | omega | ((simp (disch := omega) only [zU_c, zU_e, zU_k, zF_c, zF_i, zF_o, zW_o, zW_i, zC_c, zC_i, zC_o]); omega)); (case r2 => first | omega | ((simp (disch := omega) only [zU_c, zU_e, zU_k, zF_c, zF_i, zF_o, zW_o, zW_i, zC_c, zC_i, zC_o]); omega)))
    | (with_reducible apply z_7looks; (case a2 => assumption))
    | (with_reducible apply z_7isInNow; (case e3 => repeat (with_reducible first | exact zv_l _ | exact zv_r | apply zv_neg)); (case e4 => repeat (with_reducible first | exact zv_l _ | exact zv_r | apply zv_neg)); (case r1 => first | omega | ((simp (disch := omega) only [zU_c, zU_e, zU_k, zF_c, zF_i, zF_o, zW_o, zW_i, zC_c, zC_i, zC_o]); omega)); (case r2 => first | omega | ((simp (disch := omega) only [zU_c, zU_e, zU_k, zF_c, zF_i, zF_o, zW_o, zW_i, zC_c, zC_i, zC_o]); omega)); (case a1 => assumption); (case a2 => assumption); intro _ _ _))
  refine z_7isTeam rfl r1 hT ?_
  (first
    | (with_reducible apply z_B; all_goals (intro _; try (exfalso; omega)))
    | (with_reducible apply z_E; all_goals intro _)
    | (with_reducible apply z_lt; (case ha => repeat (with_reducible first | exact zv_l _ | exact zv_r | apply zv_neg)); (case hb => repeat (with_reducible first | exact zv_l _ | exact zv_r | apply zv_neg)); (case hx => omega); (case hy => omega); all_goals (intro _; try (exfalso; omega)))
    | (with_reducible apply z_le; (case ha => repeat (with_reducible first | exact zv_l _ | exact zv_r | apply zv_neg)); (case hb => repeat (with_reducible first | exact zv_l _ | exact zv_r | apply zv_neg)); (case hx => omega); (case hy => omega); all_goals (intro _; try (exfalso; omega)))
    | (with_reducible apply z_eq; (case ha => repeat (with_reducible first | exact zv_l _ | exact zv_r | apply zv_neg)); (case hb => repeat (with_reducible first | exact zv_l _ | exact zv_r | apply zv_neg)); (case hx => omega); (case hy => omega); all_goals (intro _; try (exfalso; omega))))
  · exact ⟨_, _, rfl, zY_r _⟩
  · refine s7_lk a1 (fun M hY hR hA => ?_)
    refine z_7isInNow (a := 1) rfl (zv_l 1) (by omega) (Or.inr rfl) hR hA (fun v m2 hv => ?_)
    obtain ⟨-, hX2, -, h8⟩ := hv
    (first
    | (with_reducible apply z_nm; (case he => repeat (with_reducible first | exact zv_l _ | exact zv_r | apply zv_neg)))
    | (with_reducible apply z_b_ck; (case h => with_unfolding_all rfl))
    | (with_reducible apply z_I; (case h => first | with_unfolding_all rfl); (case hy => first | ((simp (disch := omega) only [zU_c, zU_e, zU_k, zF_c, zF_i, zF_o, zW_o, zW_i, zC_c, zC_i, zC_o]); rfl) | rfl))
    | (with_reducible apply z_7isTeam; (case e1 => repeat (with_reducible first | exact zv_l _ | exact zv_r | apply zv_neg)); (case r1 => first | omega | ((simp (disch := omega) only [zU_c, zU_e, zU_k, zF_c, zF_i, zF_o, zW_o, zW_i, zC_c, zC_i, zC_o]); omega)); (case r2 => first | omega | ((simp (disch := omega) only [zU_c, zU_e, zU_k, zF_c, zF_i, zF_o, zW_o, zW_i, zC_c, zC_i, zC_o]); omega)))
    | (with_reducible apply z_7looks; (case a2 => assumption))
    | (with_reducible apply z_7isInNow; (case e3 => repeat (with_reducible first | exact zv_l _ | exact zv_r | apply zv_neg)); (case e4 => repeat (with_reducible first | exact zv_l _ | exact zv_r | apply zv_neg)); (case r1 => first | omega | ((simp (disch := omega) only [zU_c, zU_e, zU_k, zF_c, zF_i, zF_o, zW_o, zW_i, zC_c, zC_i, zC_o]); omega)); (case r2 => first | omega | ((simp (disch := omega) only [zU_c, zU_e, zU_k, zF_c, zF_i, zF_o, zW_o, zW_i, zC_c, zC_i, zC_o]); omega)); (case a1 => assumption); (case a2 => assumption); intro _ _ _))
    exact ⟨_, _, rfl, zY_t hY ⟨hX2, fun _ => h8⟩⟩
theorem z_7pattern {m : zMe} {e : Int32} {t : Int} (e1 : e = zI t) (r1 : -2147483648 ≤ t ∧ t < 2147483648) (a1 : zRw m) {α : Type} {kf : Int32 × Hp → Option (α × Hp)} {Q : α → zMe → Prop} (K : ∀ (v : Int32) (m1 : zMe), (fun (_ : Int32) m1 => zY m m1) v m1 → zOk (kf (v, zM m1)) Q) : zOk ((f_X7_pattern 50 e (zM m)).bind kf) Q := z_call (s_7pattern e1 r1 a1) K
set_option maxRecDepth 100000 in
set_option maxHeartbeats 1000000 in
theorem s_7since {m : zMe} {e1 e2 : Int32} {t x : Int} (e3 : e1 = zI t) (e4 : e2 = zI x) (r1 : -2147483648 ≤ t ∧ t < 2147483648) (r2 : -2147483648 ≤ x ∧ x < 2147483648) (a1 : zRw m) : zOk (f_X7_since 50 e1 e2 (zM m)) (fun (_ : Int32) m1 => zY m m1) := by
  subst e3; subst e4
  have hT := a1.1.1
  unfold f_X7_since
  (first
    | (with_reducible apply z_nm; (case he => repeat (with_reducible first | exact zv_l _ | exact zv_r | apply zv_add | apply zv_sub | apply zv_neg)))
    | (with_reducible apply z_b_ck; (case h => with_unfolding_all rfl))
    | (with_reducible apply z_in; (case hA => first | with_reducible exact zj_l _ (by decide) | with_reducible exact zj_m1 | (with_reducible apply zj_e; repeat (with_reducible first | exact zv_l _ | exact zv_r | apply zv_add | apply zv_sub | apply zv_neg))); (case hL => first | with_reducible exact zj_l _ (by decide) | with_reducible exact zj_m1 | (with_reducible apply zj_e; repeat (with_reducible first | exact zv_l _ | exact zv_r | apply zv_add | apply zv_sub | apply zv_neg))); (case hH => first | with_reducible exact zj_l _ (by decide) | with_reducible exact zj_m1 | (with_reducible apply zj_e; repeat (with_reducible first | exact zv_l _ | exact zv_r | apply zv_add | apply zv_sub | apply zv_neg))); (case rx => omega); (case rl => omega); (case rh => omega))
    | (with_reducible apply z_7isTeam; (case e1 => repeat (with_reducible first | exact zv_l _ | exact zv_r | apply zv_add | apply zv_sub | apply zv_neg)); (case r1 => first | omega | ((simp (disch := omega) only [zU_c, zU_e, zU_k, zF_c, zF_i, zF_o, zW_o, zW_i, zC_c, zC_i, zC_o]); omega)); (case r2 => first | omega | ((simp (disch := omega) only [zU_c, zU_e, zU_k, zF_c, zF_i, zF_o, zW_o, zW_i, zC_c, zC_i, zC_o]); omega)))
    | (with_reducible apply z_7looksAsOf; (case e1 => repeat (with_reducible first | exact zv_l _ | exact zv_r | apply zv_add | apply zv_sub | apply zv_neg)); (case r1 => first | omega | ((simp (disch := omega) only [zU_c, zU_e, zU_k, zF_c, zF_i, zF_o, zW_o, zW_i, zC_c, zC_i, zC_o]); omega)); (case a2 => assumption))
    | (with_reducible apply z_7isInNow; (case e3 => repeat (with_reducible first | exact zv_l _ | exact zv_r | apply zv_add | apply zv_sub | apply zv_neg)); (case e4 => repeat (with_reducible first | exact zv_l _ | exact zv_r | apply zv_add | apply zv_sub | apply zv_neg)); (case r1 => first | omega | ((simp (disch := omega) only [zU_c, zU_e, zU_k, zF_c, zF_i, zF_o, zW_o, zW_i, zC_c, zC_i, zC_o]); omega)); (case r2 => first | omega | ((simp (disch := omega) only [zU_c, zU_e, zU_k, zF_c, zF_i, zF_o, zW_o, zW_i, zC_c, zC_i, zC_o]); omega)); (case a1 => assumption); (case a2 => assumption); intro _ _ _))
  refine z_7isTeam rfl r1 hT ?_
  (first
    | (with_reducible apply z_B; all_goals (intro _; try (exfalso; omega)))
    | (with_reducible apply z_E; all_goals intro _)
    | (with_reducible apply z_lt; (case ha => repeat (with_reducible first | exact zv_l _ | exact zv_r | apply zv_add | apply zv_sub | apply zv_neg)); (case hb => repeat (with_reducible first | exact zv_l _ | exact zv_r | apply zv_add | apply zv_sub | apply zv_neg)); (case hx => omega); (case hy => omega); all_goals (intro _; try (exfalso; omega)))
    | (with_reducible apply z_le; (case ha => repeat (with_reducible first | exact zv_l _ | exact zv_r | apply zv_add | apply zv_sub | apply zv_neg)); (case hb => repeat (with_reducible first | exact zv_l _ | exact zv_r | apply zv_add | apply zv_sub | apply zv_neg)); (case hx => omega); (case hy => omega); all_goals (intro _; try (exfalso; omega)))
    | (with_reducible apply z_eq; (case ha => repeat (with_reducible first | exact zv_l _ | exact zv_r | apply zv_add | apply zv_sub | apply zv_neg)); (case hb => repeat (with_reducible first | exact zv_l _ | exact zv_r | apply zv_add | apply zv_sub | apply zv_neg)); (case hx => omega); (case hy => omega); all_goals (intro _; try (exfalso; omega))))
  · exact ⟨_, _, rfl, zY_r _⟩
  · (first
    | (with_reducible apply z_nm; (case he => repeat (with_reducible first | exact zv_l _ | exact zv_r | apply zv_add | apply zv_sub | apply zv_neg)))
    | (with_reducible apply z_b_ck; (case h => with_unfolding_all rfl))
    | (with_reducible apply z_in; (case hA => first | with_reducible exact zj_l _ (by decide) | with_reducible exact zj_m1 | (with_reducible apply zj_e; repeat (with_reducible first | exact zv_l _ | exact zv_r | apply zv_add | apply zv_sub | apply zv_neg))); (case hL => first | with_reducible exact zj_l _ (by decide) | with_reducible exact zj_m1 | (with_reducible apply zj_e; repeat (with_reducible first | exact zv_l _ | exact zv_r | apply zv_add | apply zv_sub | apply zv_neg))); (case hH => first | with_reducible exact zj_l _ (by decide) | with_reducible exact zj_m1 | (with_reducible apply zj_e; repeat (with_reducible first | exact zv_l _ | exact zv_r | apply zv_add | apply zv_sub | apply zv_neg))); (case rx => omega); (case rl => omega); (case rh => omega))
    | (with_reducible apply z_7isTeam; (case e1 => repeat (with_reducible first | exact zv_l _ | exact zv_r | apply zv_add | apply zv_sub | apply zv_neg)); (case r1 => first | omega | ((simp (disch := omega) only [zU_c, zU_e, zU_k, zF_c, zF_i, zF_o, zW_o, zW_i, zC_c, zC_i, zC_o]); omega)); (case r2 => first | omega | ((simp (disch := omega) only [zU_c, zU_e, zU_k, zF_c, zF_i, zF_o, zW_o, zW_i, zC_c, zC_i, zC_o]); omega)))
    | (with_reducible apply z_7looksAsOf; (case e1 => repeat (with_reducible first | exact zv_l _ | exact zv_r | apply zv_add | apply zv_sub | apply zv_neg)); (case r1 => first | omega | ((simp (disch := omega) only [zU_c, zU_e, zU_k, zF_c, zF_i, zF_o, zW_o, zW_i, zC_c, zC_i, zC_o]); omega)); (case a2 => assumption))
    | (with_reducible apply z_7isInNow; (case e3 => repeat (with_reducible first | exact zv_l _ | exact zv_r | apply zv_add | apply zv_sub | apply zv_neg)); (case e4 => repeat (with_reducible first | exact zv_l _ | exact zv_r | apply zv_add | apply zv_sub | apply zv_neg)); (case r1 => first | omega | ((simp (disch := omega) only [zU_c, zU_e, zU_k, zF_c, zF_i, zF_o, zW_o, zW_i, zC_c, zC_i, zC_o]); omega)); (case r2 => first | omega | ((simp (disch := omega) only [zU_c, zU_e, zU_k, zF_c, zF_i, zF_o, zW_o, zW_i, zC_c, zC_i, zC_o]); omega)); (case a1 => assumption); (case a2 => assumption); intro _ _ _))
    (first
    | (with_reducible apply z_B; all_goals (intro _; try (exfalso; omega)))
    | (with_reducible apply z_E; all_goals intro _)
    | (with_reducible apply z_lt; (case ha => repeat (with_reducible first | exact zv_l _ | exact zv_r | apply zv_add | apply zv_sub | apply zv_neg)); (case hb => repeat (with_reducible first | exact zv_l _ | exact zv_r | apply zv_add | apply zv_sub | apply zv_neg)); (case hx => omega); (case hy => omega); all_goals (intro _; try (exfalso; omega)))
    | (with_reducible apply z_le; (case ha => repeat (with_reducible first | exact zv_l _ | exact zv_r | apply zv_add | apply zv_sub | apply zv_neg)); (case hb => repeat (with_reducible first | exact zv_l _ | exact zv_r | apply zv_add | apply zv_sub | apply zv_neg)); (case hx => omega); (case hy => omega); all_goals (intro _; try (exfalso; omega)))
    | (with_reducible apply z_eq; (case ha => repeat (with_reducible first | exact zv_l _ | exact zv_r | apply zv_add | apply zv_sub | apply zv_neg)); (case hb => repeat (with_reducible first | exact zv_l _ | exact zv_r | apply zv_add | apply zv_sub | apply zv_neg)); (case hx => omega); (case hy => omega); all_goals (intro _; try (exfalso; omega))))
    · exact ⟨_, _, rfl, zY_r _⟩
    · refine z_lp (fun n v m1 => ∃ d : Int, v = (50, zI t, zI x, zI d) ∧ 0 ≤ d ∧ d ≤ 31 ∧ n = (31 - d).toNat ∧ zY m m1) (fun _ _ _ m1 => zY m m1) ?_ 600 31 _ _ (by omega) ⟨0, rfl, by omega, by omega, by omega, zY_r _⟩
      rintro n v m1 k ⟨d, rfl, d0, d1, rfl, hY⟩ hk
      have hR1 := zRw_X (zX_51 hY.1) a1
      have e1 : ∀ j, m1 51 j = m 51 j := zX_51 hY.1
      unfold f_X7_since_23
      dsimp only
      (first
    | (with_reducible apply z_B; all_goals (intro _; try (exfalso; omega)))
    | (with_reducible apply z_E; all_goals intro _)
    | (with_reducible apply z_lt; (case ha => repeat (with_reducible first | exact zv_l _ | exact zv_r | apply zv_add | apply zv_sub | apply zv_neg)); (case hb => repeat (with_reducible first | exact zv_l _ | exact zv_r | apply zv_add | apply zv_sub | apply zv_neg)); (case hx => omega); (case hy => omega); all_goals (intro _; try (exfalso; omega)))
    | (with_reducible apply z_le; (case ha => repeat (with_reducible first | exact zv_l _ | exact zv_r | apply zv_add | apply zv_sub | apply zv_neg)); (case hb => repeat (with_reducible first | exact zv_l _ | exact zv_r | apply zv_add | apply zv_sub | apply zv_neg)); (case hx => omega); (case hy => omega); all_goals (intro _; try (exfalso; omega)))
    | (with_reducible apply z_eq; (case ha => repeat (with_reducible first | exact zv_l _ | exact zv_r | apply zv_add | apply zv_sub | apply zv_neg)); (case hb => repeat (with_reducible first | exact zv_l _ | exact zv_r | apply zv_add | apply zv_sub | apply zv_neg)); (case hx => omega); (case hy => omega); all_goals (intro _; try (exfalso; omega))))
      · exact ⟨_, _, rfl, hY⟩
      · refine z_7looksAsOf rfl (by omega) hR1 ?_
        have hY2 : zY m (zL7 m1 (fun k => if d < m1 51 (69 + k) then -1 else m1 51 (78 + k))) := zY_t hY zL7_Y
        have hA2 : zAs (zL7 m1 (fun k => if d < m1 51 (69 + k) then -1 else m1 51 (78 + k))) := zL7_As (fun k k0 k1 => by have := (hR1.2.2 k k0 k1).1; split <;> omega)
        generalize zL7 m1 (fun k => if d < m1 51 (69 + k) then -1 else m1 51 (78 + k)) = M at hY2 hA2
        have hR2 := zRw_X (zX_51 hY2.1) a1
        (first
    | (with_reducible apply z_B; all_goals (intro _; try (exfalso; omega)))
    | (with_reducible apply z_E; all_goals intro _)
    | (with_reducible apply z_lt; (case ha => repeat (with_reducible first | exact zv_l _ | exact zv_r | apply zv_add | apply zv_sub | apply zv_neg)); (case hb => repeat (with_reducible first | exact zv_l _ | exact zv_r | apply zv_add | apply zv_sub | apply zv_neg)); (case hx => omega); (case hy => omega); all_goals (intro _; try (exfalso; omega)))
    | (with_reducible apply z_le; (case ha => repeat (with_reducible first | exact zv_l _ | exact zv_r | apply zv_add | apply zv_sub | apply zv_neg)); (case hb => repeat (with_reducible first | exact zv_l _ | exact zv_r | apply zv_add | apply zv_sub | apply zv_neg)); (case hx => omega); (case hy => omega); all_goals (intro _; try (exfalso; omega)))
    | (with_reducible apply z_eq; (case ha => repeat (with_reducible first | exact zv_l _ | exact zv_r | apply zv_add | apply zv_sub | apply zv_neg)); (case hb => repeat (with_reducible first | exact zv_l _ | exact zv_r | apply zv_add | apply zv_sub | apply zv_neg)); (case hx => omega); (case hy => omega); all_goals (intro _; try (exfalso; omega))))
        · refine z_7isInNow (a := 0) rfl (zv_l 0) (by omega) (Or.inl rfl) hR2 hA2 (fun v m2 hv => ?_)
          obtain ⟨⟨p, rfl⟩, hX2, -, h8⟩ := hv
          have hY3 := zY_t hY2 ⟨hX2, fun _ => h8⟩
          refine z_E (fun _ => ?_) (fun _ => ?_)
          · exact ⟨_, _, rfl, hY3⟩
          · repeat' (first
    | (with_reducible apply z_nm; (case he => repeat (with_reducible first | exact zv_l _ | exact zv_r | apply zv_add | apply zv_sub | apply zv_neg)))
    | (with_reducible apply z_b_ck; (case h => with_unfolding_all rfl))
    | (with_reducible apply z_in; (case hA => first | with_reducible exact zj_l _ (by decide) | with_reducible exact zj_m1 | (with_reducible apply zj_e; repeat (with_reducible first | exact zv_l _ | exact zv_r | apply zv_add | apply zv_sub | apply zv_neg))); (case hL => first | with_reducible exact zj_l _ (by decide) | with_reducible exact zj_m1 | (with_reducible apply zj_e; repeat (with_reducible first | exact zv_l _ | exact zv_r | apply zv_add | apply zv_sub | apply zv_neg))); (case hH => first | with_reducible exact zj_l _ (by decide) | with_reducible exact zj_m1 | (with_reducible apply zj_e; repeat (with_reducible first | exact zv_l _ | exact zv_r | apply zv_add | apply zv_sub | apply zv_neg))); (case rx => omega); (case rl => omega); (case rh => omega))
    | (with_reducible apply z_7isTeam; (case e1 => repeat (with_reducible first | exact zv_l _ | exact zv_r | apply zv_add | apply zv_sub | apply zv_neg)); (case r1 => first | omega | ((simp (disch := omega) only [zU_c, zU_e, zU_k, zF_c, zF_i, zF_o, zW_o, zW_i, zC_c, zC_i, zC_o]); omega)); (case r2 => first | omega | ((simp (disch := omega) only [zU_c, zU_e, zU_k, zF_c, zF_i, zF_o, zW_o, zW_i, zC_c, zC_i, zC_o]); omega)))
    | (with_reducible apply z_7looksAsOf; (case e1 => repeat (with_reducible first | exact zv_l _ | exact zv_r | apply zv_add | apply zv_sub | apply zv_neg)); (case r1 => first | omega | ((simp (disch := omega) only [zU_c, zU_e, zU_k, zF_c, zF_i, zF_o, zW_o, zW_i, zC_c, zC_i, zC_o]); omega)); (case a2 => assumption))
    | (with_reducible apply z_7isInNow; (case e3 => repeat (with_reducible first | exact zv_l _ | exact zv_r | apply zv_add | apply zv_sub | apply zv_neg)); (case e4 => repeat (with_reducible first | exact zv_l _ | exact zv_r | apply zv_add | apply zv_sub | apply zv_neg)); (case r1 => first | omega | ((simp (disch := omega) only [zU_c, zU_e, zU_k, zF_c, zF_i, zF_o, zW_o, zW_i, zC_c, zC_i, zC_o]); omega)); (case r2 => first | omega | ((simp (disch := omega) only [zU_c, zU_e, zU_k, zF_c, zF_i, zF_o, zW_o, zW_i, zC_c, zC_i, zC_o]); omega)); (case a1 => assumption); (case a2 => assumption); intro _ _ _))
            exact hk _ _ _ (by omega) ⟨d + 1, rfl, by omega, by omega, rfl, hY3⟩
        · refine z_call (s7_passed (g := 0) hR2 hA2 (by omega) ⟨Int.le_refl 0, hR2.1.2.1.1⟩) (fun v m2 hv => ?_)
          obtain ⟨⟨p, rfl⟩, hP⟩ := hv
          have hY3 := zY_t hY2 (zY_8 (zPv_X hP) (hP 50 (by omega) 8))
          refine z_E (fun _ => ?_) (fun _ => ?_)
          · exact ⟨_, _, rfl, hY3⟩
          · repeat' (first
    | (with_reducible apply z_nm; (case he => repeat (with_reducible first | exact zv_l _ | exact zv_r | apply zv_add | apply zv_sub | apply zv_neg)))
    | (with_reducible apply z_b_ck; (case h => with_unfolding_all rfl))
    | (with_reducible apply z_in; (case hA => first | with_reducible exact zj_l _ (by decide) | with_reducible exact zj_m1 | (with_reducible apply zj_e; repeat (with_reducible first | exact zv_l _ | exact zv_r | apply zv_add | apply zv_sub | apply zv_neg))); (case hL => first | with_reducible exact zj_l _ (by decide) | with_reducible exact zj_m1 | (with_reducible apply zj_e; repeat (with_reducible first | exact zv_l _ | exact zv_r | apply zv_add | apply zv_sub | apply zv_neg))); (case hH => first | with_reducible exact zj_l _ (by decide) | with_reducible exact zj_m1 | (with_reducible apply zj_e; repeat (with_reducible first | exact zv_l _ | exact zv_r | apply zv_add | apply zv_sub | apply zv_neg))); (case rx => omega); (case rl => omega); (case rh => omega))
    | (with_reducible apply z_7isTeam; (case e1 => repeat (with_reducible first | exact zv_l _ | exact zv_r | apply zv_add | apply zv_sub | apply zv_neg)); (case r1 => first | omega | ((simp (disch := omega) only [zU_c, zU_e, zU_k, zF_c, zF_i, zF_o, zW_o, zW_i, zC_c, zC_i, zC_o]); omega)); (case r2 => first | omega | ((simp (disch := omega) only [zU_c, zU_e, zU_k, zF_c, zF_i, zF_o, zW_o, zW_i, zC_c, zC_i, zC_o]); omega)))
    | (with_reducible apply z_7looksAsOf; (case e1 => repeat (with_reducible first | exact zv_l _ | exact zv_r | apply zv_add | apply zv_sub | apply zv_neg)); (case r1 => first | omega | ((simp (disch := omega) only [zU_c, zU_e, zU_k, zF_c, zF_i, zF_o, zW_o, zW_i, zC_c, zC_i, zC_o]); omega)); (case a2 => assumption))
    | (with_reducible apply z_7isInNow; (case e3 => repeat (with_reducible first | exact zv_l _ | exact zv_r | apply zv_add | apply zv_sub | apply zv_neg)); (case e4 => repeat (with_reducible first | exact zv_l _ | exact zv_r | apply zv_add | apply zv_sub | apply zv_neg)); (case r1 => first | omega | ((simp (disch := omega) only [zU_c, zU_e, zU_k, zF_c, zF_i, zF_o, zW_o, zW_i, zC_c, zC_i, zC_o]); omega)); (case r2 => first | omega | ((simp (disch := omega) only [zU_c, zU_e, zU_k, zF_c, zF_i, zF_o, zW_o, zW_i, zC_c, zC_i, zC_o]); omega)); (case a1 => assumption); (case a2 => assumption); intro _ _ _))
            exact hk _ _ _ (by omega) ⟨d + 1, rfl, by omega, by omega, rfl, hY3⟩
theorem z_7since {m : zMe} {e1 e2 : Int32} {t x : Int} (e3 : e1 = zI t) (e4 : e2 = zI x) (r1 : -2147483648 ≤ t ∧ t < 2147483648) (r2 : -2147483648 ≤ x ∧ x < 2147483648) (a1 : zRw m) {α : Type} {kf : Int32 × Hp → Option (α × Hp)} {Q : α → zMe → Prop} (K : ∀ (v : Int32) (m1 : zMe), (fun (_ : Int32) m1 => zY m m1) v m1 → zOk (kf (v, zM m1)) Q) : zOk ((f_X7_since 50 e1 e2 (zM m)).bind kf) Q := z_call (s_7since e3 e4 r1 r2 a1) K
theorem s7_with {m : zMe} {g x : Int} (hR : zRw m) (hg : 0 ≤ g ∧ g < m 51 1) (hx : -2 ≤ x ∧ x ≤ 2) {e1 e2 : Int32} (he1 : e1 = zI g) (he2 : e2 = zI x) {α : Type} {f : Unit × Hp → Option (α × Hp)} {Q : α → zMe → Prop} (K : ∀ M, zY m M → zRw M → zAs M → zOk (f ((), zM M)) Q) : zOk ((f_X7_looksWith 50 e1 e2 (zM m)).bind f) Q := by
  refine z_7looksWith he1 he2 hg hx hR ?_
  have hY : zY m (zL7 m (zRs m)) := zL7_Y
  have hA : zAs (zL7 m (zRs m)) := zL7_As (fun k k0 k1 => by have := (hR.2.2 k k0 k1).1; unfold zRs; omega)
  generalize zL7 m (zRs m) = M at hY hA
  have hY2 : zY m (zF (zU M 53 g x) 54 0 6 (zQt (zU M 53 g x))) := zY_t hY (zY_8 (zX_F (zX_U (zX_r _) (Or.inl rfl)) (Or.inr (Or.inl rfl))) (by rw [zF_c (by omega), zU_c (by omega)]))
  refine K _ hY2 (zRw_X (zX_51 hY2.1) hR) (fun k k0 k1 => ?_)
  rw [zX_51 hY2.1] at k1
  rw [zF_c (by omega)]
  by_cases hq : k = g
  · subst hq
    rw [zU_e]
    exact hx
  · rw [zU_k hq]
    exact hA k k0 (by rw [zX_51 hY.1]; exact k1)
set_option maxRecDepth 100000 in
set_option maxHeartbeats 1000000 in
theorem s_7without {m : zMe} {e : Int32} {g : Int} (e1 : e = zI g) (r1 : -2147483648 ≤ g ∧ g < 2147483648) (a1 : zRw m) : zOk (f_X7_without 50 e (zM m)) (fun (_ : Int32) m1 => zY m m1) := by
  subst e1
  have hN := a1.1.2.1
  unfold f_X7_without
  (first
    | (with_reducible apply z_nm; (case he => repeat (with_reducible first | exact zv_l _ | exact zv_r | apply zv_neg)))
    | (with_reducible apply z_b_ck; (case h => with_unfolding_all rfl))
    | (with_reducible apply z_7isGame; (case e1 => repeat (with_reducible first | exact zv_l _ | exact zv_r | apply zv_neg)); (case r1 => first | omega | ((simp (disch := omega) only [zU_c, zU_e, zU_k, zF_c, zF_i, zF_o, zW_o, zW_i, zC_c, zC_i, zC_o]); omega)); (case r2 => first | omega | ((simp (disch := omega) only [zU_c, zU_e, zU_k, zF_c, zF_i, zF_o, zW_o, zW_i, zC_c, zC_i, zC_o]); omega)))
    | (with_reducible apply z_7looksWith; (case e3 => repeat (with_reducible first | exact zv_l _ | exact zv_r | apply zv_neg)); (case e4 => repeat (with_reducible first | exact zv_l _ | exact zv_r | apply zv_neg)); (case r1 => first | omega | ((simp (disch := omega) only [zU_c, zU_e, zU_k, zF_c, zF_i, zF_o, zW_o, zW_i, zC_c, zC_i, zC_o]); omega)); (case r2 => first | omega | ((simp (disch := omega) only [zU_c, zU_e, zU_k, zF_c, zF_i, zF_o, zW_o, zW_i, zC_c, zC_i, zC_o]); omega)); (case a2 => assumption))
    | (with_reducible apply z_7inSet; (case a1 => assumption); (case a2 => assumption); intro _ _ _))
  refine z_7isGame rfl r1 hN ?_
  (first
    | (with_reducible apply z_B; all_goals (intro _; try (exfalso; omega)))
    | (with_reducible apply z_E; all_goals intro _)
    | (with_reducible apply z_lt; (case ha => repeat (with_reducible first | exact zv_l _ | exact zv_r | apply zv_neg)); (case hb => repeat (with_reducible first | exact zv_l _ | exact zv_r | apply zv_neg)); (case hx => omega); (case hy => omega); all_goals (intro _; try (exfalso; omega)))
    | (with_reducible apply z_le; (case ha => repeat (with_reducible first | exact zv_l _ | exact zv_r | apply zv_neg)); (case hb => repeat (with_reducible first | exact zv_l _ | exact zv_r | apply zv_neg)); (case hx => omega); (case hy => omega); all_goals (intro _; try (exfalso; omega)))
    | (with_reducible apply z_eq; (case ha => repeat (with_reducible first | exact zv_l _ | exact zv_r | apply zv_neg)); (case hb => repeat (with_reducible first | exact zv_l _ | exact zv_r | apply zv_neg)); (case hx => omega); (case hy => omega); all_goals (intro _; try (exfalso; omega))))
  · exact ⟨_, _, rfl, zY_r _⟩
  · refine s7_with a1 (by assumption) (x := -2) (by omega) rfl rfl (fun M hY hR hA => ?_)
    refine z_7inSet hR hA (fun v m2 hv => ?_)
    exact ⟨_, _, rfl, zY_t hY hv⟩
theorem z_7without {m : zMe} {e : Int32} {g : Int} (e1 : e = zI g) (r1 : -2147483648 ≤ g ∧ g < 2147483648) (a1 : zRw m) {α : Type} {kf : Int32 × Hp → Option (α × Hp)} {Q : α → zMe → Prop} (K : ∀ (v : Int32) (m1 : zMe), (fun (_ : Int32) m1 => zY m m1) v m1 → zOk (kf (v, zM m1)) Q) : zOk ((f_X7_without 50 e (zM m)).bind kf) Q := z_call (s_7without e1 r1 a1) K
set_option maxRecDepth 100000 in
set_option maxHeartbeats 1000000 in
theorem s_7help {m : zMe} {e1 e2 : Int32} {t g : Int} (e3 : e1 = zI t) (e4 : e2 = zI g) (r1 : -2147483648 ≤ t ∧ t < 2147483648) (r2 : -2147483648 ≤ g ∧ g < 2147483648) (a1 : zRw m) : zOk (f_X7_help 50 e1 e2 (zM m)) (fun (_ : Int32) m1 => zY m m1) := by
  subst e3; subst e4
  have hT := a1.1.1
  have hN := a1.1.2.1
  unfold f_X7_help
  (first
    | (with_reducible apply z_nm; (case he => repeat (with_reducible first | exact zv_l _ | exact zv_r | apply zv_add | apply zv_sub | apply zv_neg | apply zv_or | apply zv_shl | apply zv_and)))
    | (with_reducible apply z_b_ck; (case h => with_unfolding_all rfl))
    | (with_reducible apply z_b_R; (case h => first | with_unfolding_all rfl))
    | (with_reducible apply z_L; (case he => repeat (with_reducible first | exact zv_l _ | exact zv_r | apply zv_add | apply zv_sub | apply zv_neg | apply zv_or | apply zv_shl | apply zv_and)); (case hn => with_reducible first | assumption | exact zl_2 | exact zl_51); (case h => omega); (case hy => first | ((simp (disch := omega) only [zU_c, zU_e, zU_k, zF_c, zF_i, zF_o, zW_o, zW_i, zC_c, zC_i, zC_o]); rfl) | rfl))
    | (with_reducible apply z_7isTeam; (case e1 => repeat (with_reducible first | exact zv_l _ | exact zv_r | apply zv_add | apply zv_sub | apply zv_neg | apply zv_or | apply zv_shl | apply zv_and)); (case r1 => first | omega | ((simp (disch := omega) only [zU_c, zU_e, zU_k, zF_c, zF_i, zF_o, zW_o, zW_i, zC_c, zC_i, zC_o]); omega)); (case r2 => first | omega | ((simp (disch := omega) only [zU_c, zU_e, zU_k, zF_c, zF_i, zF_o, zW_o, zW_i, zC_c, zC_i, zC_o]); omega)))
    | (with_reducible apply z_7isGame; (case e1 => repeat (with_reducible first | exact zv_l _ | exact zv_r | apply zv_add | apply zv_sub | apply zv_neg | apply zv_or | apply zv_shl | apply zv_and)); (case r1 => first | omega | ((simp (disch := omega) only [zU_c, zU_e, zU_k, zF_c, zF_i, zF_o, zW_o, zW_i, zC_c, zC_i, zC_o]); omega)); (case r2 => first | omega | ((simp (disch := omega) only [zU_c, zU_e, zU_k, zF_c, zF_i, zF_o, zW_o, zW_i, zC_c, zC_i, zC_o]); omega)))
    | (with_reducible apply z_7results; (case r1 => first | omega | ((simp (disch := omega) only [zU_c, zU_e, zU_k, zF_c, zF_i, zF_o, zW_o, zW_i, zC_c, zC_i, zC_o]); omega)))
    | (with_reducible apply z_7resultAt; (case e1 => repeat (with_reducible first | exact zv_l _ | exact zv_r | apply zv_add | apply zv_sub | apply zv_neg | apply zv_or | apply zv_shl | apply zv_and)); (case r1 => first | omega | ((simp (disch := omega) only [zU_c, zU_e, zU_k, zF_c, zF_i, zF_o, zW_o, zW_i, zC_c, zC_i, zC_o]); omega)))
    | (with_reducible apply z_7looksWith; (case e3 => repeat (with_reducible first | exact zv_l _ | exact zv_r | apply zv_add | apply zv_sub | apply zv_neg | apply zv_or | apply zv_shl | apply zv_and)); (case e4 => repeat (with_reducible first | exact zv_l _ | exact zv_r | apply zv_add | apply zv_sub | apply zv_neg | apply zv_or | apply zv_shl | apply zv_and)); (case r1 => first | omega | ((simp (disch := omega) only [zU_c, zU_e, zU_k, zF_c, zF_i, zF_o, zW_o, zW_i, zC_c, zC_i, zC_o]); omega)); (case r2 => first | omega | ((simp (disch := omega) only [zU_c, zU_e, zU_k, zF_c, zF_i, zF_o, zW_o, zW_i, zC_c, zC_i, zC_o]); omega)); (case a2 => assumption))
    | (with_reducible apply z_7isInNow; (case e3 => repeat (with_reducible first | exact zv_l _ | exact zv_r | apply zv_add | apply zv_sub | apply zv_neg | apply zv_or | apply zv_shl | apply zv_and)); (case e4 => repeat (with_reducible first | exact zv_l _ | exact zv_r | apply zv_add | apply zv_sub | apply zv_neg | apply zv_or | apply zv_shl | apply zv_and)); (case r1 => first | omega | ((simp (disch := omega) only [zU_c, zU_e, zU_k, zF_c, zF_i, zF_o, zW_o, zW_i, zC_c, zC_i, zC_o]); omega)); (case r2 => first | omega | ((simp (disch := omega) only [zU_c, zU_e, zU_k, zF_c, zF_i, zF_o, zW_o, zW_i, zC_c, zC_i, zC_o]); omega)); (case a1 => assumption); (case a2 => assumption); intro _ _ _))
  refine z_7isTeam rfl r1 hT ?_
  (first
    | (with_reducible apply z_B; all_goals (intro _; try (exfalso; omega)))
    | (with_reducible apply z_E; all_goals intro _)
    | (with_reducible apply z_lt; (case ha => repeat (with_reducible first | exact zv_l _ | exact zv_r | apply zv_add | apply zv_sub | apply zv_neg | apply zv_or | apply zv_shl | apply zv_and)); (case hb => repeat (with_reducible first | exact zv_l _ | exact zv_r | apply zv_add | apply zv_sub | apply zv_neg | apply zv_or | apply zv_shl | apply zv_and)); (case hx => omega); (case hy => omega); all_goals (intro _; try (exfalso; omega)))
    | (with_reducible apply z_le; (case ha => repeat (with_reducible first | exact zv_l _ | exact zv_r | apply zv_add | apply zv_sub | apply zv_neg | apply zv_or | apply zv_shl | apply zv_and)); (case hb => repeat (with_reducible first | exact zv_l _ | exact zv_r | apply zv_add | apply zv_sub | apply zv_neg | apply zv_or | apply zv_shl | apply zv_and)); (case hx => omega); (case hy => omega); all_goals (intro _; try (exfalso; omega)))
    | (with_reducible apply z_eq; (case ha => repeat (with_reducible first | exact zv_l _ | exact zv_r | apply zv_add | apply zv_sub | apply zv_neg | apply zv_or | apply zv_shl | apply zv_and)); (case hb => repeat (with_reducible first | exact zv_l _ | exact zv_r | apply zv_add | apply zv_sub | apply zv_neg | apply zv_or | apply zv_shl | apply zv_and)); (case hx => omega); (case hy => omega); all_goals (intro _; try (exfalso; omega))))
  · exact ⟨_, _, rfl, zY_r _⟩
  · rename_i hq
    refine z_7isGame rfl r2 hN ?_
    (first
    | (with_reducible apply z_B; all_goals (intro _; try (exfalso; omega)))
    | (with_reducible apply z_E; all_goals intro _)
    | (with_reducible apply z_lt; (case ha => repeat (with_reducible first | exact zv_l _ | exact zv_r | apply zv_add | apply zv_sub | apply zv_neg | apply zv_or | apply zv_shl | apply zv_and)); (case hb => repeat (with_reducible first | exact zv_l _ | exact zv_r | apply zv_add | apply zv_sub | apply zv_neg | apply zv_or | apply zv_shl | apply zv_and)); (case hx => omega); (case hy => omega); all_goals (intro _; try (exfalso; omega)))
    | (with_reducible apply z_le; (case ha => repeat (with_reducible first | exact zv_l _ | exact zv_r | apply zv_add | apply zv_sub | apply zv_neg | apply zv_or | apply zv_shl | apply zv_and)); (case hb => repeat (with_reducible first | exact zv_l _ | exact zv_r | apply zv_add | apply zv_sub | apply zv_neg | apply zv_or | apply zv_shl | apply zv_and)); (case hx => omega); (case hy => omega); all_goals (intro _; try (exfalso; omega)))
    | (with_reducible apply z_eq; (case ha => repeat (with_reducible first | exact zv_l _ | exact zv_r | apply zv_add | apply zv_sub | apply zv_neg | apply zv_or | apply zv_shl | apply zv_and)); (case hb => repeat (with_reducible first | exact zv_l _ | exact zv_r | apply zv_add | apply zv_sub | apply zv_neg | apply zv_or | apply zv_shl | apply zv_and)); (case hx => omega); (case hy => omega); all_goals (intro _; try (exfalso; omega))))
    · exact ⟨_, _, rfl, zY_r _⟩
    · rename_i hg
      (first
    | (with_reducible apply z_nm; (case he => repeat (with_reducible first | exact zv_l _ | exact zv_r | apply zv_add | apply zv_sub | apply zv_neg | apply zv_or | apply zv_shl | apply zv_and)))
    | (with_reducible apply z_b_ck; (case h => with_unfolding_all rfl))
    | (with_reducible apply z_b_R; (case h => first | with_unfolding_all rfl))
    | (with_reducible apply z_L; (case he => repeat (with_reducible first | exact zv_l _ | exact zv_r | apply zv_add | apply zv_sub | apply zv_neg | apply zv_or | apply zv_shl | apply zv_and)); (case hn => with_reducible first | assumption | exact zl_2 | exact zl_51); (case h => omega); (case hy => first | ((simp (disch := omega) only [zU_c, zU_e, zU_k, zF_c, zF_i, zF_o, zW_o, zW_i, zC_c, zC_i, zC_o]); rfl) | rfl))
    | (with_reducible apply z_7isTeam; (case e1 => repeat (with_reducible first | exact zv_l _ | exact zv_r | apply zv_add | apply zv_sub | apply zv_neg | apply zv_or | apply zv_shl | apply zv_and)); (case r1 => first | omega | ((simp (disch := omega) only [zU_c, zU_e, zU_k, zF_c, zF_i, zF_o, zW_o, zW_i, zC_c, zC_i, zC_o]); omega)); (case r2 => first | omega | ((simp (disch := omega) only [zU_c, zU_e, zU_k, zF_c, zF_i, zF_o, zW_o, zW_i, zC_c, zC_i, zC_o]); omega)))
    | (with_reducible apply z_7isGame; (case e1 => repeat (with_reducible first | exact zv_l _ | exact zv_r | apply zv_add | apply zv_sub | apply zv_neg | apply zv_or | apply zv_shl | apply zv_and)); (case r1 => first | omega | ((simp (disch := omega) only [zU_c, zU_e, zU_k, zF_c, zF_i, zF_o, zW_o, zW_i, zC_c, zC_i, zC_o]); omega)); (case r2 => first | omega | ((simp (disch := omega) only [zU_c, zU_e, zU_k, zF_c, zF_i, zF_o, zW_o, zW_i, zC_c, zC_i, zC_o]); omega)))
    | (with_reducible apply z_7results; (case r1 => first | omega | ((simp (disch := omega) only [zU_c, zU_e, zU_k, zF_c, zF_i, zF_o, zW_o, zW_i, zC_c, zC_i, zC_o]); omega)))
    | (with_reducible apply z_7resultAt; (case e1 => repeat (with_reducible first | exact zv_l _ | exact zv_r | apply zv_add | apply zv_sub | apply zv_neg | apply zv_or | apply zv_shl | apply zv_and)); (case r1 => first | omega | ((simp (disch := omega) only [zU_c, zU_e, zU_k, zF_c, zF_i, zF_o, zW_o, zW_i, zC_c, zC_i, zC_o]); omega)))
    | (with_reducible apply z_7looksWith; (case e3 => repeat (with_reducible first | exact zv_l _ | exact zv_r | apply zv_add | apply zv_sub | apply zv_neg | apply zv_or | apply zv_shl | apply zv_and)); (case e4 => repeat (with_reducible first | exact zv_l _ | exact zv_r | apply zv_add | apply zv_sub | apply zv_neg | apply zv_or | apply zv_shl | apply zv_and)); (case r1 => first | omega | ((simp (disch := omega) only [zU_c, zU_e, zU_k, zF_c, zF_i, zF_o, zW_o, zW_i, zC_c, zC_i, zC_o]); omega)); (case r2 => first | omega | ((simp (disch := omega) only [zU_c, zU_e, zU_k, zF_c, zF_i, zF_o, zW_o, zW_i, zC_c, zC_i, zC_o]); omega)); (case a2 => assumption))
    | (with_reducible apply z_7isInNow; (case e3 => repeat (with_reducible first | exact zv_l _ | exact zv_r | apply zv_add | apply zv_sub | apply zv_neg | apply zv_or | apply zv_shl | apply zv_and)); (case e4 => repeat (with_reducible first | exact zv_l _ | exact zv_r | apply zv_add | apply zv_sub | apply zv_neg | apply zv_or | apply zv_shl | apply zv_and)); (case r1 => first | omega | ((simp (disch := omega) only [zU_c, zU_e, zU_k, zF_c, zF_i, zF_o, zW_o, zW_i, zC_c, zC_i, zC_o]); omega)); (case r2 => first | omega | ((simp (disch := omega) only [zU_c, zU_e, zU_k, zF_c, zF_i, zF_o, zW_o, zW_i, zC_c, zC_i, zC_o]); omega)); (case a1 => assumption); (case a2 => assumption); intro _ _ _))
      (first
    | (with_reducible apply z_nm; (case he => repeat (with_reducible first | exact zv_l _ | exact zv_r | apply zv_add | apply zv_sub | apply zv_neg | apply zv_or | apply zv_shl | apply zv_and)))
    | (with_reducible apply z_b_ck; (case h => with_unfolding_all rfl))
    | (with_reducible apply z_b_R; (case h => first | with_unfolding_all rfl))
    | (with_reducible apply z_L; (case he => repeat (with_reducible first | exact zv_l _ | exact zv_r | apply zv_add | apply zv_sub | apply zv_neg | apply zv_or | apply zv_shl | apply zv_and)); (case hn => with_reducible first | assumption | exact zl_2 | exact zl_51); (case h => omega); (case hy => first | ((simp (disch := omega) only [zU_c, zU_e, zU_k, zF_c, zF_i, zF_o, zW_o, zW_i, zC_c, zC_i, zC_o]); rfl) | rfl))
    | (with_reducible apply z_7isTeam; (case e1 => repeat (with_reducible first | exact zv_l _ | exact zv_r | apply zv_add | apply zv_sub | apply zv_neg | apply zv_or | apply zv_shl | apply zv_and)); (case r1 => first | omega | ((simp (disch := omega) only [zU_c, zU_e, zU_k, zF_c, zF_i, zF_o, zW_o, zW_i, zC_c, zC_i, zC_o]); omega)); (case r2 => first | omega | ((simp (disch := omega) only [zU_c, zU_e, zU_k, zF_c, zF_i, zF_o, zW_o, zW_i, zC_c, zC_i, zC_o]); omega)))
    | (with_reducible apply z_7isGame; (case e1 => repeat (with_reducible first | exact zv_l _ | exact zv_r | apply zv_add | apply zv_sub | apply zv_neg | apply zv_or | apply zv_shl | apply zv_and)); (case r1 => first | omega | ((simp (disch := omega) only [zU_c, zU_e, zU_k, zF_c, zF_i, zF_o, zW_o, zW_i, zC_c, zC_i, zC_o]); omega)); (case r2 => first | omega | ((simp (disch := omega) only [zU_c, zU_e, zU_k, zF_c, zF_i, zF_o, zW_o, zW_i, zC_c, zC_i, zC_o]); omega)))
    | (with_reducible apply z_7results; (case r1 => first | omega | ((simp (disch := omega) only [zU_c, zU_e, zU_k, zF_c, zF_i, zF_o, zW_o, zW_i, zC_c, zC_i, zC_o]); omega)))
    | (with_reducible apply z_7resultAt; (case e1 => repeat (with_reducible first | exact zv_l _ | exact zv_r | apply zv_add | apply zv_sub | apply zv_neg | apply zv_or | apply zv_shl | apply zv_and)); (case r1 => first | omega | ((simp (disch := omega) only [zU_c, zU_e, zU_k, zF_c, zF_i, zF_o, zW_o, zW_i, zC_c, zC_i, zC_o]); omega)))
    | (with_reducible apply z_7looksWith; (case e3 => repeat (with_reducible first | exact zv_l _ | exact zv_r | apply zv_add | apply zv_sub | apply zv_neg | apply zv_or | apply zv_shl | apply zv_and)); (case e4 => repeat (with_reducible first | exact zv_l _ | exact zv_r | apply zv_add | apply zv_sub | apply zv_neg | apply zv_or | apply zv_shl | apply zv_and)); (case r1 => first | omega | ((simp (disch := omega) only [zU_c, zU_e, zU_k, zF_c, zF_i, zF_o, zW_o, zW_i, zC_c, zC_i, zC_o]); omega)); (case r2 => first | omega | ((simp (disch := omega) only [zU_c, zU_e, zU_k, zF_c, zF_i, zF_o, zW_o, zW_i, zC_c, zC_i, zC_o]); omega)); (case a2 => assumption))
    | (with_reducible apply z_7isInNow; (case e3 => repeat (with_reducible first | exact zv_l _ | exact zv_r | apply zv_add | apply zv_sub | apply zv_neg | apply zv_or | apply zv_shl | apply zv_and)); (case e4 => repeat (with_reducible first | exact zv_l _ | exact zv_r | apply zv_add | apply zv_sub | apply zv_neg | apply zv_or | apply zv_shl | apply zv_and)); (case r1 => first | omega | ((simp (disch := omega) only [zU_c, zU_e, zU_k, zF_c, zF_i, zF_o, zW_o, zW_i, zC_c, zC_i, zC_o]); omega)); (case r2 => first | omega | ((simp (disch := omega) only [zU_c, zU_e, zU_k, zF_c, zF_i, zF_o, zW_o, zW_i, zC_c, zC_i, zC_o]); omega)); (case a1 => assumption); (case a2 => assumption); intro _ _ _))
      refine z_ite (fun _ => ?_) (fun _ => ?_)
      · refine z_lp (fun n v m1 => ∃ (s : Int32) (i : Int), v = (50, zI t, zI g, s, zI i) ∧ 0 ≤ i ∧ i ≤ 3 ∧ n = (3 - i).toNat ∧ zY m m1) (fun _ _ _ m1 => zY m m1) ?_ 600 3 _ _ (by omega) ⟨0, 0, rfl, by omega, by omega, by omega, zY_r _⟩
        rintro n v m1 k ⟨s, i, rfl, i0, i3, rfl, hY⟩ hk
        have hR1 := zRw_X (zX_51 hY.1) a1
        have e1 : m1 51 1 = m 51 1 := zX_51 hY.1 1
        unfold f_X7_help_40
        dsimp only
        refine z_7results hR1.1.2.2 ?_
        have hR23 := zR_23 hR1
        generalize (if m1 51 2 = 0 then (2 : Int) else 3) = R at hR23
        refine z_le (x := R) (y := i) rfl rfl (by omega) (by omega) (fun hle => ?_) (fun hle => ?_)
        · exact ⟨_, _, rfl, hY⟩
        · refine z_7resultAt rfl (by omega) ?_
          have hra := zRa_02 (i := i) (by omega)
          refine s7_with hR1 (by omega) (x := if i = 2 then 0 else i + 1) (by omega) rfl rfl (fun M hY2 hR hA => ?_)
          refine z_7isInNow (a := 0) rfl (zv_l 0) (by omega) (Or.inl rfl) hR hA (fun v m2 hv => ?_)
          obtain ⟨⟨p, rfl⟩, hX2, -, h8⟩ := hv
          have hY3 := zY_t hY (zY_t hY2 ⟨hX2, fun _ => h8⟩)
          refine z_E (fun _ => ?_) (fun _ => ?_)
          · refine z_b rfl ?_
            repeat' (first
    | (with_reducible apply z_nm; (case he => repeat (with_reducible first | exact zv_l _ | exact zv_r | apply zv_add | apply zv_sub | apply zv_neg | apply zv_or | apply zv_shl | apply zv_and)))
    | (with_reducible apply z_b_ck; (case h => with_unfolding_all rfl))
    | (with_reducible apply z_b_R; (case h => first | with_unfolding_all rfl))
    | (with_reducible apply z_L; (case he => repeat (with_reducible first | exact zv_l _ | exact zv_r | apply zv_add | apply zv_sub | apply zv_neg | apply zv_or | apply zv_shl | apply zv_and)); (case hn => with_reducible first | assumption | exact zl_2 | exact zl_51); (case h => omega); (case hy => first | ((simp (disch := omega) only [zU_c, zU_e, zU_k, zF_c, zF_i, zF_o, zW_o, zW_i, zC_c, zC_i, zC_o]); rfl) | rfl))
    | (with_reducible apply z_7isTeam; (case e1 => repeat (with_reducible first | exact zv_l _ | exact zv_r | apply zv_add | apply zv_sub | apply zv_neg | apply zv_or | apply zv_shl | apply zv_and)); (case r1 => first | omega | ((simp (disch := omega) only [zU_c, zU_e, zU_k, zF_c, zF_i, zF_o, zW_o, zW_i, zC_c, zC_i, zC_o]); omega)); (case r2 => first | omega | ((simp (disch := omega) only [zU_c, zU_e, zU_k, zF_c, zF_i, zF_o, zW_o, zW_i, zC_c, zC_i, zC_o]); omega)))
    | (with_reducible apply z_7isGame; (case e1 => repeat (with_reducible first | exact zv_l _ | exact zv_r | apply zv_add | apply zv_sub | apply zv_neg | apply zv_or | apply zv_shl | apply zv_and)); (case r1 => first | omega | ((simp (disch := omega) only [zU_c, zU_e, zU_k, zF_c, zF_i, zF_o, zW_o, zW_i, zC_c, zC_i, zC_o]); omega)); (case r2 => first | omega | ((simp (disch := omega) only [zU_c, zU_e, zU_k, zF_c, zF_i, zF_o, zW_o, zW_i, zC_c, zC_i, zC_o]); omega)))
    | (with_reducible apply z_7results; (case r1 => first | omega | ((simp (disch := omega) only [zU_c, zU_e, zU_k, zF_c, zF_i, zF_o, zW_o, zW_i, zC_c, zC_i, zC_o]); omega)))
    | (with_reducible apply z_7resultAt; (case e1 => repeat (with_reducible first | exact zv_l _ | exact zv_r | apply zv_add | apply zv_sub | apply zv_neg | apply zv_or | apply zv_shl | apply zv_and)); (case r1 => first | omega | ((simp (disch := omega) only [zU_c, zU_e, zU_k, zF_c, zF_i, zF_o, zW_o, zW_i, zC_c, zC_i, zC_o]); omega)))
    | (with_reducible apply z_7looksWith; (case e3 => repeat (with_reducible first | exact zv_l _ | exact zv_r | apply zv_add | apply zv_sub | apply zv_neg | apply zv_or | apply zv_shl | apply zv_and)); (case e4 => repeat (with_reducible first | exact zv_l _ | exact zv_r | apply zv_add | apply zv_sub | apply zv_neg | apply zv_or | apply zv_shl | apply zv_and)); (case r1 => first | omega | ((simp (disch := omega) only [zU_c, zU_e, zU_k, zF_c, zF_i, zF_o, zW_o, zW_i, zC_c, zC_i, zC_o]); omega)); (case r2 => first | omega | ((simp (disch := omega) only [zU_c, zU_e, zU_k, zF_c, zF_i, zF_o, zW_o, zW_i, zC_c, zC_i, zC_o]); omega)); (case a2 => assumption))
    | (with_reducible apply z_7isInNow; (case e3 => repeat (with_reducible first | exact zv_l _ | exact zv_r | apply zv_add | apply zv_sub | apply zv_neg | apply zv_or | apply zv_shl | apply zv_and)); (case e4 => repeat (with_reducible first | exact zv_l _ | exact zv_r | apply zv_add | apply zv_sub | apply zv_neg | apply zv_or | apply zv_shl | apply zv_and)); (case r1 => first | omega | ((simp (disch := omega) only [zU_c, zU_e, zU_k, zF_c, zF_i, zF_o, zW_o, zW_i, zC_c, zC_i, zC_o]); omega)); (case r2 => first | omega | ((simp (disch := omega) only [zU_c, zU_e, zU_k, zF_c, zF_i, zF_o, zW_o, zW_i, zC_c, zC_i, zC_o]); omega)); (case a1 => assumption); (case a2 => assumption); intro _ _ _))
            exact hk _ _ _ (by omega) ⟨_, i + 1, rfl, by omega, by omega, rfl, hY3⟩
          · refine z_7resultAt rfl (by omega) ?_
            refine z_b rfl ?_
            repeat' (first
    | (with_reducible apply z_nm; (case he => repeat (with_reducible first | exact zv_l _ | exact zv_r | apply zv_add | apply zv_sub | apply zv_neg | apply zv_or | apply zv_shl | apply zv_and)))
    | (with_reducible apply z_b_ck; (case h => with_unfolding_all rfl))
    | (with_reducible apply z_b_R; (case h => first | with_unfolding_all rfl))
    | (with_reducible apply z_L; (case he => repeat (with_reducible first | exact zv_l _ | exact zv_r | apply zv_add | apply zv_sub | apply zv_neg | apply zv_or | apply zv_shl | apply zv_and)); (case hn => with_reducible first | assumption | exact zl_2 | exact zl_51); (case h => omega); (case hy => first | ((simp (disch := omega) only [zU_c, zU_e, zU_k, zF_c, zF_i, zF_o, zW_o, zW_i, zC_c, zC_i, zC_o]); rfl) | rfl))
    | (with_reducible apply z_7isTeam; (case e1 => repeat (with_reducible first | exact zv_l _ | exact zv_r | apply zv_add | apply zv_sub | apply zv_neg | apply zv_or | apply zv_shl | apply zv_and)); (case r1 => first | omega | ((simp (disch := omega) only [zU_c, zU_e, zU_k, zF_c, zF_i, zF_o, zW_o, zW_i, zC_c, zC_i, zC_o]); omega)); (case r2 => first | omega | ((simp (disch := omega) only [zU_c, zU_e, zU_k, zF_c, zF_i, zF_o, zW_o, zW_i, zC_c, zC_i, zC_o]); omega)))
    | (with_reducible apply z_7isGame; (case e1 => repeat (with_reducible first | exact zv_l _ | exact zv_r | apply zv_add | apply zv_sub | apply zv_neg | apply zv_or | apply zv_shl | apply zv_and)); (case r1 => first | omega | ((simp (disch := omega) only [zU_c, zU_e, zU_k, zF_c, zF_i, zF_o, zW_o, zW_i, zC_c, zC_i, zC_o]); omega)); (case r2 => first | omega | ((simp (disch := omega) only [zU_c, zU_e, zU_k, zF_c, zF_i, zF_o, zW_o, zW_i, zC_c, zC_i, zC_o]); omega)))
    | (with_reducible apply z_7results; (case r1 => first | omega | ((simp (disch := omega) only [zU_c, zU_e, zU_k, zF_c, zF_i, zF_o, zW_o, zW_i, zC_c, zC_i, zC_o]); omega)))
    | (with_reducible apply z_7resultAt; (case e1 => repeat (with_reducible first | exact zv_l _ | exact zv_r | apply zv_add | apply zv_sub | apply zv_neg | apply zv_or | apply zv_shl | apply zv_and)); (case r1 => first | omega | ((simp (disch := omega) only [zU_c, zU_e, zU_k, zF_c, zF_i, zF_o, zW_o, zW_i, zC_c, zC_i, zC_o]); omega)))
    | (with_reducible apply z_7looksWith; (case e3 => repeat (with_reducible first | exact zv_l _ | exact zv_r | apply zv_add | apply zv_sub | apply zv_neg | apply zv_or | apply zv_shl | apply zv_and)); (case e4 => repeat (with_reducible first | exact zv_l _ | exact zv_r | apply zv_add | apply zv_sub | apply zv_neg | apply zv_or | apply zv_shl | apply zv_and)); (case r1 => first | omega | ((simp (disch := omega) only [zU_c, zU_e, zU_k, zF_c, zF_i, zF_o, zW_o, zW_i, zC_c, zC_i, zC_o]); omega)); (case r2 => first | omega | ((simp (disch := omega) only [zU_c, zU_e, zU_k, zF_c, zF_i, zF_o, zW_o, zW_i, zC_c, zC_i, zC_o]); omega)); (case a2 => assumption))
    | (with_reducible apply z_7isInNow; (case e3 => repeat (with_reducible first | exact zv_l _ | exact zv_r | apply zv_add | apply zv_sub | apply zv_neg | apply zv_or | apply zv_shl | apply zv_and)); (case e4 => repeat (with_reducible first | exact zv_l _ | exact zv_r | apply zv_add | apply zv_sub | apply zv_neg | apply zv_or | apply zv_shl | apply zv_and)); (case r1 => first | omega | ((simp (disch := omega) only [zU_c, zU_e, zU_k, zF_c, zF_i, zF_o, zW_o, zW_i, zC_c, zC_i, zC_o]); omega)); (case r2 => first | omega | ((simp (disch := omega) only [zU_c, zU_e, zU_k, zF_c, zF_i, zF_o, zW_o, zW_i, zC_c, zC_i, zC_o]); omega)); (case a1 => assumption); (case a2 => assumption); intro _ _ _))
            exact hk _ _ _ (by omega) ⟨_, i + 1, rfl, by omega, by omega, rfl, hY3⟩
      · exact ⟨_, _, rfl, zY_r _⟩
theorem z_7help {m : zMe} {e1 e2 : Int32} {t g : Int} (e3 : e1 = zI t) (e4 : e2 = zI g) (r1 : -2147483648 ≤ t ∧ t < 2147483648) (r2 : -2147483648 ≤ g ∧ g < 2147483648) (a1 : zRw m) {α : Type} {kf : Int32 × Hp → Option (α × Hp)} {Q : α → zMe → Prop} (K : ∀ (v : Int32) (m1 : zMe), (fun (_ : Int32) m1 => zY m m1) v m1 → zOk (kf (v, zM m1)) Q) : zOk ((f_X7_help 50 e1 e2 (zM m)).bind kf) Q := z_call (s_7help e3 e4 r1 r2 a1) K
set_option maxRecDepth 100000 in
set_option maxHeartbeats 1000000 in
theorem s_7tables {m : zMe} (a1 : zRw m) : zOk (f_X7_tables 50 (zM m)) (fun (_ : Int32) m1 => zY m m1) := by
  unfold f_X7_tables
  (first
    | (with_reducible apply z_nm; (case he => repeat (with_reducible first | exact zv_l _ | exact zv_r | apply zv_sub | apply zv_neg)))
    | (with_reducible apply z_b_ck; (case h => with_unfolding_all rfl))
    | (with_reducible apply z_I; (case h => first | with_unfolding_all rfl); (case hy => first | ((simp (disch := omega) only [zU_c, zU_e, zU_k, zF_c, zF_i, zF_o, zW_o, zW_i, zC_c, zC_i, zC_o]); rfl) | rfl))
    | (with_reducible apply z_PU; (case he => repeat (with_reducible first | exact zv_l _ | exact zv_r | apply zv_sub | apply zv_neg)); (case h => with_reducible first | exact zp_50_17 _))
    | (with_reducible apply z_7ones; (case e1 => repeat (with_reducible first | exact zv_l _ | exact zv_r | apply zv_sub | apply zv_neg)); (case r1 => first | omega | ((simp (disch := omega) only [zU_c, zU_e, zU_k, zF_c, zF_i, zF_o, zW_o, zW_i, zC_c, zC_i, zC_o]); omega)))
    | (with_reducible apply z_7leftSet; (case r1 => first | omega | ((simp (disch := omega) only [zU_c, zU_e, zU_k, zF_c, zF_i, zF_o, zW_o, zW_i, zC_c, zC_i, zC_o]); omega)); (case a1 => assumption))
    | (with_reducible apply z_7looks; (case a2 => assumption)))
  refine s7_lk a1 (fun M hY hR hA => ?_)
  have hN := hR.1.2.1
  refine z_7leftSet hN hA ?_
  refine z_7ones rfl (zLeft_lt (m := zV M) (r := 3) hN) ?_
  have hp := zPop_le (zLeft (zV M) 3)
  refine z_le (x := (zPop (zLeft (zV M) 3) : Int)) (y := 4) rfl (zv_l 4) (by omega) (by omega) (fun h4 => ?_) (fun _ => ?_)
  · (first
    | (with_reducible apply z_nm; (case he => repeat (with_reducible first | exact zv_l _ | exact zv_r | apply zv_sub | apply zv_neg)))
    | (with_reducible apply z_b_ck; (case h => with_unfolding_all rfl))
    | (with_reducible apply z_I; (case h => first | with_unfolding_all rfl); (case hy => first | ((simp (disch := omega) only [zU_c, zU_e, zU_k, zF_c, zF_i, zF_o, zW_o, zW_i, zC_c, zC_i, zC_o]); rfl) | rfl))
    | (with_reducible apply z_PU; (case he => repeat (with_reducible first | exact zv_l _ | exact zv_r | apply zv_sub | apply zv_neg)); (case h => with_reducible first | exact zp_50_17 _))
    | (with_reducible apply z_7ones; (case e1 => repeat (with_reducible first | exact zv_l _ | exact zv_r | apply zv_sub | apply zv_neg)); (case r1 => first | omega | ((simp (disch := omega) only [zU_c, zU_e, zU_k, zF_c, zF_i, zF_o, zW_o, zW_i, zC_c, zC_i, zC_o]); omega)))
    | (with_reducible apply z_7leftSet; (case r1 => first | omega | ((simp (disch := omega) only [zU_c, zU_e, zU_k, zF_c, zF_i, zF_o, zW_o, zW_i, zC_c, zC_i, zC_o]); omega)); (case a1 => assumption))
    | (with_reducible apply z_7looks; (case a2 => assumption)))
    have hY2 : zY m (zU M 50 17 0) := zY_t hY (zY_8 (zX_U (zX_r _) (by omega)) (zU_k (by omega)))
    have hA2 : zAs (zU M 50 17 0) := fun k k0 k1 => by
      rw [zU_c (by omega)] at k1
      rw [zU_c (by omega)]
      exact hA k k0 k1
    have hlt : zLt (zU M 50 17 0 53) (zU M 50 17 0 51 1 - 0).toNat 0 ≤ 4 := by
      have e53 : zU M 50 17 0 53 = M 53 := by
        funext j
        exact zU_c (by omega)
      have e51 : zU M 50 17 0 51 1 = M 51 1 := zU_c (by omega)
      rw [e53, e51, Int.sub_zero]
      have := zLt_left (m := M) hN
      omega
    have h81 : (3 ^ zLt (zU M 50 17 0 53) (zU M 50 17 0 51 1 - 0).toNat 0 : Nat) ≤ 3 ^ 4 := Nat.pow_le_pow_right (by omega) hlt
    refine z_call (s7_tables (g := 0) (zRw_X (zX_51 hY2.1) a1) hA2 (by rw [zU_c (by omega)]; omega) (by rw [zU_e]; omega)) (fun v m2 hv => ?_)
    (first
    | (with_reducible apply z_nm; (case he => repeat (with_reducible first | exact zv_l _ | exact zv_r | apply zv_sub | apply zv_neg)))
    | (with_reducible apply z_b_ck; (case h => with_unfolding_all rfl))
    | (with_reducible apply z_I; (case h => first | with_unfolding_all rfl); (case hy => first | ((simp (disch := omega) only [zU_c, zU_e, zU_k, zF_c, zF_i, zF_o, zW_o, zW_i, zC_c, zC_i, zC_o]); rfl) | rfl))
    | (with_reducible apply z_PU; (case he => repeat (with_reducible first | exact zv_l _ | exact zv_r | apply zv_sub | apply zv_neg)); (case h => with_reducible first | exact zp_50_17 _))
    | (with_reducible apply z_7ones; (case e1 => repeat (with_reducible first | exact zv_l _ | exact zv_r | apply zv_sub | apply zv_neg)); (case r1 => first | omega | ((simp (disch := omega) only [zU_c, zU_e, zU_k, zF_c, zF_i, zF_o, zW_o, zW_i, zC_c, zC_i, zC_o]); omega)))
    | (with_reducible apply z_7leftSet; (case r1 => first | omega | ((simp (disch := omega) only [zU_c, zU_e, zU_k, zF_c, zF_i, zF_o, zW_o, zW_i, zC_c, zC_i, zC_o]); omega)); (case a1 => assumption))
    | (with_reducible apply z_7looks; (case a2 => assumption)))
    exact ⟨_, _, rfl, zY_t hY2 (zY_8 (zPw_X hv.1) (hv.1 50 8 (by omega)))⟩
  · exact ⟨_, _, rfl, hY⟩
theorem z_7tables {m : zMe} (a1 : zRw m) {α : Type} {kf : Int32 × Hp → Option (α × Hp)} {Q : α → zMe → Prop} (K : ∀ (v : Int32) (m1 : zMe), (fun (_ : Int32) m1 => zY m m1) v m1 → zOk (kf (v, zM m1)) Q) : zOk ((f_X7_tables 50 (zM m)).bind kf) Q := z_call (s_7tables a1) K
