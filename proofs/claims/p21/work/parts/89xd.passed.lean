/-! whether a team can be passed: by reach -/
def zPs (K d T t : Int) : List (Int × Int) → (Int → Int) → Prop
  | [], f => ∃ u, (0 ≤ u ∧ u < T) ∧ f t < f u
  | e :: es, f => ∃ x, zOx d x ∧ zPs K d T t es (fun u => f u + zGn K e.1 e.2 x u)
theorem zOx_RA {d : Int} {P : Int → Prop} : (∃ x, zOx d x ∧ P x) ↔ ∃ i : Nat, i < (if d = 0 then 2 else 3) ∧ P (zRA i) := by
  constructor
  · rintro ⟨x, hx, hp⟩
    rcases hx with rfl | rfl | ⟨rfl, hd⟩
    · exact ⟨0, by split <;> omega, hp⟩
    · exact ⟨1, by split <;> omega, hp⟩
    · exact ⟨2, by rw [if_neg hd]; omega, hp⟩
  · rintro ⟨i, hi, hp⟩
    refine ⟨zRA i, ?_, hp⟩
    unfold zOx zRA
    by_cases hd : d = 0
    · rw [if_pos hd] at hi
      rw [if_neg (show ¬ i = 2 by omega)]
      omega
    · rw [if_neg hd] at hi
      by_cases h2 : i = 2
      · rw [if_pos h2]
        exact Or.inr (Or.inr ⟨rfl, hd⟩)
      · rw [if_neg h2]
        omega
set_option maxRecDepth 100000 in
set_option maxHeartbeats 1000000 in
theorem s7_passed_r {m : zMe} {ks : Nat × Int32 × Int32 → Hp → Option (Int32 × Hp)} {t g : Int} (hR : zRw m) (hA : zAs m) (ht : 0 ≤ t ∧ t < m 51 0) (hg : 0 ≤ g ∧ g ≤ m 51 1) (hp : ∀ u, 0 ≤ u → u < m 51 0 → 0 ≤ m 54 u ∧ m 54 u + 3 * (m 51 1 - g) ≤ 100) (hrec : ∀ m', zRw m' → zAs m' → zLeft (zV m') 3 = zLeft (zV m) 3 → (∀ j, m' 51 j = m 51 j) → (∀ u, 0 ≤ u → u < m' 51 0 → 0 ≤ m' 54 u ∧ m' 54 u + 3 * (m' 51 1 - (g + 1)) ≤ 100) → g < m 51 1 → zOk (ks (50, zI t, zI (g + 1)) (zM m')) (fun v m1 => v = zI (zE (zPs (m' 51 2) (if m' 51 2 = 0 then 0 else 1) (m' 51 0) t (zGl7 m' (zSg (zLeft (zV m') 3) (m' 51 1 - (g + 1)).toNat (g + 1).toNat)) (m' 54))) ∧ m1 = m')) : zOk (f_X7_canBePassed_r ks 50 (zI t) (zI g) (zM m)) (fun v m1 => v = zI (zE (zPs (m 51 2) (if m 51 2 = 0 then 0 else 1) (m 51 0) t (zGl7 m (zSg (zLeft (zV m) 3) (m 51 1 - g).toNat g.toNat)) (m 54))) ∧ m1 = m) := by
  have hN := hR.1.2.1
  have hT := hR.1.1
  have hK := hR.1.2.2
  have hag := hA g hg.1
  unfold f_X7_canBePassed_r
  (first
    | (with_reducible apply z_nm; (case he => repeat (with_reducible first | exact zv_l _ | exact zv_r | apply zv_add | apply zv_sub | apply zv_mul | apply zv_neg)))
    | (with_reducible apply z_b_ck; (case h => with_unfolding_all rfl))
    | (with_reducible apply z_b_R; (case h => first | with_unfolding_all rfl))
    | (with_reducible apply z_L; (case he => repeat (with_reducible first | exact zv_l _ | exact zv_r | apply zv_add | apply zv_sub | apply zv_mul | apply zv_neg)); (case hn => with_reducible first | assumption | exact zl_2 | exact zl_51 | exact zl_53 | exact zl_54 | exact zl_60); (case h => omega); (case hy => first | ((simp (disch := omega) only [zU_c, zU_e, zU_k, zF_c, zF_i, zF_o, zW_o, zW_i, zC_c, zC_i, zC_o]); rfl) | rfl))
    | with_reducible refine z_bz ?_
    | with_reducible refine z_bzE ?_
    | (with_reducible apply z_bzl; (case h => omega))
    | (with_reducible apply z_7results; (case r1 => first | omega | ((simp (disch := omega) only [zU_c, zU_e, zU_k, zF_c, zF_i, zF_o, zW_o, zW_i, zC_c, zC_i, zC_o]); omega)))
    | (with_reducible apply z_7resultAt; (case e1 => repeat (with_reducible first | exact zv_l _ | exact zv_r | apply zv_add | apply zv_sub | apply zv_mul | apply zv_neg)); (case r1 => first | omega | ((simp (disch := omega) only [zU_c, zU_e, zU_k, zF_c, zF_i, zF_o, zW_o, zW_i, zC_c, zC_i, zC_o]); omega)))
    | (with_reducible apply z_7brings; (case e1 => repeat (with_reducible first | exact zv_l _ | exact zv_r | apply zv_add | apply zv_sub | apply zv_mul | apply zv_neg)); (case e2 => repeat (with_reducible first | exact zv_l _ | exact zv_r | apply zv_add | apply zv_sub | apply zv_mul | apply zv_neg)); (case e3 => repeat (with_reducible first | exact zv_l _ | exact zv_r | apply zv_add | apply zv_sub | apply zv_mul | apply zv_neg)); (case r1 => first | omega | ((simp (disch := omega) only [zU_c, zU_e, zU_k, zF_c, zF_i, zF_o, zW_o, zW_i, zC_c, zC_i, zC_o]); omega)); (case r2 => first | omega | ((simp (disch := omega) only [zU_c, zU_e, zU_k, zF_c, zF_i, zF_o, zW_o, zW_i, zC_c, zC_i, zC_o]); omega)); (case r3 => first | omega | ((simp (disch := omega) only [zU_c, zU_e, zU_k, zF_c, zF_i, zF_o, zW_o, zW_i, zC_c, zC_i, zC_o]); omega)); (case r4 => first | omega | ((simp (disch := omega) only [zU_c, zU_e, zU_k, zF_c, zF_i, zF_o, zW_o, zW_i, zC_c, zC_i, zC_o]); omega)); (case r5 => first | omega | ((simp (disch := omega) only [zU_c, zU_e, zU_k, zF_c, zF_i, zF_o, zW_o, zW_i, zC_c, zC_i, zC_o]); omega)); (case r6 => first | omega | ((simp (disch := omega) only [zU_c, zU_e, zU_k, zF_c, zF_i, zF_o, zW_o, zW_i, zC_c, zC_i, zC_o]); omega))))
  (first
    | (with_reducible apply z_nm; (case he => repeat (with_reducible first | exact zv_l _ | exact zv_r | apply zv_add | apply zv_sub | apply zv_mul | apply zv_neg)))
    | (with_reducible apply z_b_ck; (case h => with_unfolding_all rfl))
    | (with_reducible apply z_b_R; (case h => first | with_unfolding_all rfl))
    | (with_reducible apply z_L; (case he => repeat (with_reducible first | exact zv_l _ | exact zv_r | apply zv_add | apply zv_sub | apply zv_mul | apply zv_neg)); (case hn => with_reducible first | assumption | exact zl_2 | exact zl_51 | exact zl_53 | exact zl_54 | exact zl_60); (case h => omega); (case hy => first | ((simp (disch := omega) only [zU_c, zU_e, zU_k, zF_c, zF_i, zF_o, zW_o, zW_i, zC_c, zC_i, zC_o]); rfl) | rfl))
    | with_reducible refine z_bz ?_
    | with_reducible refine z_bzE ?_
    | (with_reducible apply z_bzl; (case h => omega))
    | (with_reducible apply z_7results; (case r1 => first | omega | ((simp (disch := omega) only [zU_c, zU_e, zU_k, zF_c, zF_i, zF_o, zW_o, zW_i, zC_c, zC_i, zC_o]); omega)))
    | (with_reducible apply z_7resultAt; (case e1 => repeat (with_reducible first | exact zv_l _ | exact zv_r | apply zv_add | apply zv_sub | apply zv_mul | apply zv_neg)); (case r1 => first | omega | ((simp (disch := omega) only [zU_c, zU_e, zU_k, zF_c, zF_i, zF_o, zW_o, zW_i, zC_c, zC_i, zC_o]); omega)))
    | (with_reducible apply z_7brings; (case e1 => repeat (with_reducible first | exact zv_l _ | exact zv_r | apply zv_add | apply zv_sub | apply zv_mul | apply zv_neg)); (case e2 => repeat (with_reducible first | exact zv_l _ | exact zv_r | apply zv_add | apply zv_sub | apply zv_mul | apply zv_neg)); (case e3 => repeat (with_reducible first | exact zv_l _ | exact zv_r | apply zv_add | apply zv_sub | apply zv_mul | apply zv_neg)); (case r1 => first | omega | ((simp (disch := omega) only [zU_c, zU_e, zU_k, zF_c, zF_i, zF_o, zW_o, zW_i, zC_c, zC_i, zC_o]); omega)); (case r2 => first | omega | ((simp (disch := omega) only [zU_c, zU_e, zU_k, zF_c, zF_i, zF_o, zW_o, zW_i, zC_c, zC_i, zC_o]); omega)); (case r3 => first | omega | ((simp (disch := omega) only [zU_c, zU_e, zU_k, zF_c, zF_i, zF_o, zW_o, zW_i, zC_c, zC_i, zC_o]); omega)); (case r4 => first | omega | ((simp (disch := omega) only [zU_c, zU_e, zU_k, zF_c, zF_i, zF_o, zW_o, zW_i, zC_c, zC_i, zC_o]); omega)); (case r5 => first | omega | ((simp (disch := omega) only [zU_c, zU_e, zU_k, zF_c, zF_i, zF_o, zW_o, zW_i, zC_c, zC_i, zC_o]); omega)); (case r6 => first | omega | ((simp (disch := omega) only [zU_c, zU_e, zU_k, zF_c, zF_i, zF_o, zW_o, zW_i, zC_c, zC_i, zC_o]); omega))))
  (first
    | (with_reducible apply z_nm; (case he => repeat (with_reducible first | exact zv_l _ | exact zv_r | apply zv_add | apply zv_sub | apply zv_mul | apply zv_neg)))
    | (with_reducible apply z_b_ck; (case h => with_unfolding_all rfl))
    | (with_reducible apply z_b_R; (case h => first | with_unfolding_all rfl))
    | (with_reducible apply z_L; (case he => repeat (with_reducible first | exact zv_l _ | exact zv_r | apply zv_add | apply zv_sub | apply zv_mul | apply zv_neg)); (case hn => with_reducible first | assumption | exact zl_2 | exact zl_51 | exact zl_53 | exact zl_54 | exact zl_60); (case h => omega); (case hy => first | ((simp (disch := omega) only [zU_c, zU_e, zU_k, zF_c, zF_i, zF_o, zW_o, zW_i, zC_c, zC_i, zC_o]); rfl) | rfl))
    | with_reducible refine z_bz ?_
    | with_reducible refine z_bzE ?_
    | (with_reducible apply z_bzl; (case h => omega))
    | (with_reducible apply z_7results; (case r1 => first | omega | ((simp (disch := omega) only [zU_c, zU_e, zU_k, zF_c, zF_i, zF_o, zW_o, zW_i, zC_c, zC_i, zC_o]); omega)))
    | (with_reducible apply z_7resultAt; (case e1 => repeat (with_reducible first | exact zv_l _ | exact zv_r | apply zv_add | apply zv_sub | apply zv_mul | apply zv_neg)); (case r1 => first | omega | ((simp (disch := omega) only [zU_c, zU_e, zU_k, zF_c, zF_i, zF_o, zW_o, zW_i, zC_c, zC_i, zC_o]); omega)))
    | (with_reducible apply z_7brings; (case e1 => repeat (with_reducible first | exact zv_l _ | exact zv_r | apply zv_add | apply zv_sub | apply zv_mul | apply zv_neg)); (case e2 => repeat (with_reducible first | exact zv_l _ | exact zv_r | apply zv_add | apply zv_sub | apply zv_mul | apply zv_neg)); (case e3 => repeat (with_reducible first | exact zv_l _ | exact zv_r | apply zv_add | apply zv_sub | apply zv_mul | apply zv_neg)); (case r1 => first | omega | ((simp (disch := omega) only [zU_c, zU_e, zU_k, zF_c, zF_i, zF_o, zW_o, zW_i, zC_c, zC_i, zC_o]); omega)); (case r2 => first | omega | ((simp (disch := omega) only [zU_c, zU_e, zU_k, zF_c, zF_i, zF_o, zW_o, zW_i, zC_c, zC_i, zC_o]); omega)); (case r3 => first | omega | ((simp (disch := omega) only [zU_c, zU_e, zU_k, zF_c, zF_i, zF_o, zW_o, zW_i, zC_c, zC_i, zC_o]); omega)); (case r4 => first | omega | ((simp (disch := omega) only [zU_c, zU_e, zU_k, zF_c, zF_i, zF_o, zW_o, zW_i, zC_c, zC_i, zC_o]); omega)); (case r5 => first | omega | ((simp (disch := omega) only [zU_c, zU_e, zU_k, zF_c, zF_i, zF_o, zW_o, zW_i, zC_c, zC_i, zC_o]); omega)); (case r6 => first | omega | ((simp (disch := omega) only [zU_c, zU_e, zU_k, zF_c, zF_i, zF_o, zW_o, zW_i, zC_c, zC_i, zC_o]); omega))))
  (first
    | (with_reducible apply z_B; all_goals (intro _; try (exfalso; omega)))
    | (with_reducible apply z_E; all_goals intro _)
    | (with_reducible apply z_lt; (case ha => repeat (with_reducible first | exact zv_l _ | exact zv_r | apply zv_add | apply zv_sub | apply zv_mul | apply zv_neg)); (case hb => repeat (with_reducible first | exact zv_l _ | exact zv_r | apply zv_add | apply zv_sub | apply zv_mul | apply zv_neg)); (case hx => omega); (case hy => omega); all_goals (intro _; try (exfalso; omega)))
    | (with_reducible apply z_le; (case ha => repeat (with_reducible first | exact zv_l _ | exact zv_r | apply zv_add | apply zv_sub | apply zv_mul | apply zv_neg)); (case hb => repeat (with_reducible first | exact zv_l _ | exact zv_r | apply zv_add | apply zv_sub | apply zv_mul | apply zv_neg)); (case hx => omega); (case hy => omega); all_goals (intro _; try (exfalso; omega)))
    | (with_reducible apply z_eq; (case ha => repeat (with_reducible first | exact zv_l _ | exact zv_r | apply zv_add | apply zv_sub | apply zv_mul | apply zv_neg)); (case hb => repeat (with_reducible first | exact zv_l _ | exact zv_r | apply zv_add | apply zv_sub | apply zv_mul | apply zv_neg)); (case hx => omega); (case hy => omega); all_goals (intro _; try (exfalso; omega))))
  · rename_i hgN
    have en : (m 51 1 - g).toNat = 0 := by omega
    rw [en]
    show zOk _ (fun v m1 => v = zI (zE (∃ u, (0 ≤ u ∧ u < m 51 0) ∧ m 54 t < m 54 u)) ∧ m1 = m)
    refine z_lp (fun n v m1 => ∃ i : Int, v = (50, zI t, zI i) ∧ 0 ≤ i ∧ i ≤ m 51 0 ∧ n = (m 51 0 - i).toNat ∧ m1 = m ∧ ∀ u, 0 ≤ u → u < i → m 54 u ≤ m 54 t) (fun _ _ v m1 => v = zI (zE (∃ u, (0 ≤ u ∧ u < m 51 0) ∧ m 54 t < m 54 u)) ∧ m1 = m) ?_ 600 (m 51 0).toNat _ _ (by omega) ⟨0, rfl, by omega, by omega, by omega, rfl, fun u u0 u1 => by exfalso; omega⟩
    rintro n v m1 k2 ⟨i, rfl, h0, h1, rfl, rfl, hu⟩ hk2
    have hpi := hp i h0
    have hpt := hp t ht.1 ht.2
    unfold f_X7_canBePassed_12
    dsimp only
    (first
    | (with_reducible apply z_nm; (case he => repeat (with_reducible first | exact zv_l _ | exact zv_r | apply zv_add | apply zv_sub | apply zv_mul | apply zv_neg)))
    | (with_reducible apply z_b_ck; (case h => with_unfolding_all rfl))
    | (with_reducible apply z_b_R; (case h => first | with_unfolding_all rfl))
    | (with_reducible apply z_L; (case he => repeat (with_reducible first | exact zv_l _ | exact zv_r | apply zv_add | apply zv_sub | apply zv_mul | apply zv_neg)); (case hn => with_reducible first | assumption | exact zl_2 | exact zl_51 | exact zl_53 | exact zl_54 | exact zl_60); (case h => omega); (case hy => first | ((simp (disch := omega) only [zU_c, zU_e, zU_k, zF_c, zF_i, zF_o, zW_o, zW_i, zC_c, zC_i, zC_o]); rfl) | rfl))
    | with_reducible refine z_bz ?_
    | with_reducible refine z_bzE ?_
    | (with_reducible apply z_bzl; (case h => omega))
    | (with_reducible apply z_7results; (case r1 => first | omega | ((simp (disch := omega) only [zU_c, zU_e, zU_k, zF_c, zF_i, zF_o, zW_o, zW_i, zC_c, zC_i, zC_o]); omega)))
    | (with_reducible apply z_7resultAt; (case e1 => repeat (with_reducible first | exact zv_l _ | exact zv_r | apply zv_add | apply zv_sub | apply zv_mul | apply zv_neg)); (case r1 => first | omega | ((simp (disch := omega) only [zU_c, zU_e, zU_k, zF_c, zF_i, zF_o, zW_o, zW_i, zC_c, zC_i, zC_o]); omega)))
    | (with_reducible apply z_7brings; (case e1 => repeat (with_reducible first | exact zv_l _ | exact zv_r | apply zv_add | apply zv_sub | apply zv_mul | apply zv_neg)); (case e2 => repeat (with_reducible first | exact zv_l _ | exact zv_r | apply zv_add | apply zv_sub | apply zv_mul | apply zv_neg)); (case e3 => repeat (with_reducible first | exact zv_l _ | exact zv_r | apply zv_add | apply zv_sub | apply zv_mul | apply zv_neg)); (case r1 => first | omega | ((simp (disch := omega) only [zU_c, zU_e, zU_k, zF_c, zF_i, zF_o, zW_o, zW_i, zC_c, zC_i, zC_o]); omega)); (case r2 => first | omega | ((simp (disch := omega) only [zU_c, zU_e, zU_k, zF_c, zF_i, zF_o, zW_o, zW_i, zC_c, zC_i, zC_o]); omega)); (case r3 => first | omega | ((simp (disch := omega) only [zU_c, zU_e, zU_k, zF_c, zF_i, zF_o, zW_o, zW_i, zC_c, zC_i, zC_o]); omega)); (case r4 => first | omega | ((simp (disch := omega) only [zU_c, zU_e, zU_k, zF_c, zF_i, zF_o, zW_o, zW_i, zC_c, zC_i, zC_o]); omega)); (case r5 => first | omega | ((simp (disch := omega) only [zU_c, zU_e, zU_k, zF_c, zF_i, zF_o, zW_o, zW_i, zC_c, zC_i, zC_o]); omega)); (case r6 => first | omega | ((simp (disch := omega) only [zU_c, zU_e, zU_k, zF_c, zF_i, zF_o, zW_o, zW_i, zC_c, zC_i, zC_o]); omega))))
    (first
    | (with_reducible apply z_nm; (case he => repeat (with_reducible first | exact zv_l _ | exact zv_r | apply zv_add | apply zv_sub | apply zv_mul | apply zv_neg)))
    | (with_reducible apply z_b_ck; (case h => with_unfolding_all rfl))
    | (with_reducible apply z_b_R; (case h => first | with_unfolding_all rfl))
    | (with_reducible apply z_L; (case he => repeat (with_reducible first | exact zv_l _ | exact zv_r | apply zv_add | apply zv_sub | apply zv_mul | apply zv_neg)); (case hn => with_reducible first | assumption | exact zl_2 | exact zl_51 | exact zl_53 | exact zl_54 | exact zl_60); (case h => omega); (case hy => first | ((simp (disch := omega) only [zU_c, zU_e, zU_k, zF_c, zF_i, zF_o, zW_o, zW_i, zC_c, zC_i, zC_o]); rfl) | rfl))
    | with_reducible refine z_bz ?_
    | with_reducible refine z_bzE ?_
    | (with_reducible apply z_bzl; (case h => omega))
    | (with_reducible apply z_7results; (case r1 => first | omega | ((simp (disch := omega) only [zU_c, zU_e, zU_k, zF_c, zF_i, zF_o, zW_o, zW_i, zC_c, zC_i, zC_o]); omega)))
    | (with_reducible apply z_7resultAt; (case e1 => repeat (with_reducible first | exact zv_l _ | exact zv_r | apply zv_add | apply zv_sub | apply zv_mul | apply zv_neg)); (case r1 => first | omega | ((simp (disch := omega) only [zU_c, zU_e, zU_k, zF_c, zF_i, zF_o, zW_o, zW_i, zC_c, zC_i, zC_o]); omega)))
    | (with_reducible apply z_7brings; (case e1 => repeat (with_reducible first | exact zv_l _ | exact zv_r | apply zv_add | apply zv_sub | apply zv_mul | apply zv_neg)); (case e2 => repeat (with_reducible first | exact zv_l _ | exact zv_r | apply zv_add | apply zv_sub | apply zv_mul | apply zv_neg)); (case e3 => repeat (with_reducible first | exact zv_l _ | exact zv_r | apply zv_add | apply zv_sub | apply zv_mul | apply zv_neg)); (case r1 => first | omega | ((simp (disch := omega) only [zU_c, zU_e, zU_k, zF_c, zF_i, zF_o, zW_o, zW_i, zC_c, zC_i, zC_o]); omega)); (case r2 => first | omega | ((simp (disch := omega) only [zU_c, zU_e, zU_k, zF_c, zF_i, zF_o, zW_o, zW_i, zC_c, zC_i, zC_o]); omega)); (case r3 => first | omega | ((simp (disch := omega) only [zU_c, zU_e, zU_k, zF_c, zF_i, zF_o, zW_o, zW_i, zC_c, zC_i, zC_o]); omega)); (case r4 => first | omega | ((simp (disch := omega) only [zU_c, zU_e, zU_k, zF_c, zF_i, zF_o, zW_o, zW_i, zC_c, zC_i, zC_o]); omega)); (case r5 => first | omega | ((simp (disch := omega) only [zU_c, zU_e, zU_k, zF_c, zF_i, zF_o, zW_o, zW_i, zC_c, zC_i, zC_o]); omega)); (case r6 => first | omega | ((simp (disch := omega) only [zU_c, zU_e, zU_k, zF_c, zF_i, zF_o, zW_o, zW_i, zC_c, zC_i, zC_o]); omega))))
    (first
    | (with_reducible apply z_B; all_goals (intro _; try (exfalso; omega)))
    | (with_reducible apply z_E; all_goals intro _)
    | (with_reducible apply z_lt; (case ha => repeat (with_reducible first | exact zv_l _ | exact zv_r | apply zv_add | apply zv_sub | apply zv_mul | apply zv_neg)); (case hb => repeat (with_reducible first | exact zv_l _ | exact zv_r | apply zv_add | apply zv_sub | apply zv_mul | apply zv_neg)); (case hx => omega); (case hy => omega); all_goals (intro _; try (exfalso; omega)))
    | (with_reducible apply z_le; (case ha => repeat (with_reducible first | exact zv_l _ | exact zv_r | apply zv_add | apply zv_sub | apply zv_mul | apply zv_neg)); (case hb => repeat (with_reducible first | exact zv_l _ | exact zv_r | apply zv_add | apply zv_sub | apply zv_mul | apply zv_neg)); (case hx => omega); (case hy => omega); all_goals (intro _; try (exfalso; omega)))
    | (with_reducible apply z_eq; (case ha => repeat (with_reducible first | exact zv_l _ | exact zv_r | apply zv_add | apply zv_sub | apply zv_mul | apply zv_neg)); (case hb => repeat (with_reducible first | exact zv_l _ | exact zv_r | apply zv_add | apply zv_sub | apply zv_mul | apply zv_neg)); (case hx => omega); (case hy => omega); all_goals (intro _; try (exfalso; omega))))
    · refine ⟨_, _, rfl, ?_, rfl⟩
      rw [zE_n (fun q => ?_)]
      · rfl
      · obtain ⟨u, ⟨u0, u1⟩, q⟩ := q
        have := hu u u0 (by omega)
        omega
    · have hpi := hpi (by omega)
      (first
    | (with_reducible apply z_nm; (case he => repeat (with_reducible first | exact zv_l _ | exact zv_r | apply zv_add | apply zv_sub | apply zv_mul | apply zv_neg)))
    | (with_reducible apply z_b_ck; (case h => with_unfolding_all rfl))
    | (with_reducible apply z_b_R; (case h => first | with_unfolding_all rfl))
    | (with_reducible apply z_L; (case he => repeat (with_reducible first | exact zv_l _ | exact zv_r | apply zv_add | apply zv_sub | apply zv_mul | apply zv_neg)); (case hn => with_reducible first | assumption | exact zl_2 | exact zl_51 | exact zl_53 | exact zl_54 | exact zl_60); (case h => omega); (case hy => first | ((simp (disch := omega) only [zU_c, zU_e, zU_k, zF_c, zF_i, zF_o, zW_o, zW_i, zC_c, zC_i, zC_o]); rfl) | rfl))
    | with_reducible refine z_bz ?_
    | with_reducible refine z_bzE ?_
    | (with_reducible apply z_bzl; (case h => omega))
    | (with_reducible apply z_7results; (case r1 => first | omega | ((simp (disch := omega) only [zU_c, zU_e, zU_k, zF_c, zF_i, zF_o, zW_o, zW_i, zC_c, zC_i, zC_o]); omega)))
    | (with_reducible apply z_7resultAt; (case e1 => repeat (with_reducible first | exact zv_l _ | exact zv_r | apply zv_add | apply zv_sub | apply zv_mul | apply zv_neg)); (case r1 => first | omega | ((simp (disch := omega) only [zU_c, zU_e, zU_k, zF_c, zF_i, zF_o, zW_o, zW_i, zC_c, zC_i, zC_o]); omega)))
    | (with_reducible apply z_7brings; (case e1 => repeat (with_reducible first | exact zv_l _ | exact zv_r | apply zv_add | apply zv_sub | apply zv_mul | apply zv_neg)); (case e2 => repeat (with_reducible first | exact zv_l _ | exact zv_r | apply zv_add | apply zv_sub | apply zv_mul | apply zv_neg)); (case e3 => repeat (with_reducible first | exact zv_l _ | exact zv_r | apply zv_add | apply zv_sub | apply zv_mul | apply zv_neg)); (case r1 => first | omega | ((simp (disch := omega) only [zU_c, zU_e, zU_k, zF_c, zF_i, zF_o, zW_o, zW_i, zC_c, zC_i, zC_o]); omega)); (case r2 => first | omega | ((simp (disch := omega) only [zU_c, zU_e, zU_k, zF_c, zF_i, zF_o, zW_o, zW_i, zC_c, zC_i, zC_o]); omega)); (case r3 => first | omega | ((simp (disch := omega) only [zU_c, zU_e, zU_k, zF_c, zF_i, zF_o, zW_o, zW_i, zC_c, zC_i, zC_o]); omega)); (case r4 => first | omega | ((simp (disch := omega) only [zU_c, zU_e, zU_k, zF_c, zF_i, zF_o, zW_o, zW_i, zC_c, zC_i, zC_o]); omega)); (case r5 => first | omega | ((simp (disch := omega) only [zU_c, zU_e, zU_k, zF_c, zF_i, zF_o, zW_o, zW_i, zC_c, zC_i, zC_o]); omega)); (case r6 => first | omega | ((simp (disch := omega) only [zU_c, zU_e, zU_k, zF_c, zF_i, zF_o, zW_o, zW_i, zC_c, zC_i, zC_o]); omega))))
      (first
    | (with_reducible apply z_nm; (case he => repeat (with_reducible first | exact zv_l _ | exact zv_r | apply zv_add | apply zv_sub | apply zv_mul | apply zv_neg)))
    | (with_reducible apply z_b_ck; (case h => with_unfolding_all rfl))
    | (with_reducible apply z_b_R; (case h => first | with_unfolding_all rfl))
    | (with_reducible apply z_L; (case he => repeat (with_reducible first | exact zv_l _ | exact zv_r | apply zv_add | apply zv_sub | apply zv_mul | apply zv_neg)); (case hn => with_reducible first | assumption | exact zl_2 | exact zl_51 | exact zl_53 | exact zl_54 | exact zl_60); (case h => omega); (case hy => first | ((simp (disch := omega) only [zU_c, zU_e, zU_k, zF_c, zF_i, zF_o, zW_o, zW_i, zC_c, zC_i, zC_o]); rfl) | rfl))
    | with_reducible refine z_bz ?_
    | with_reducible refine z_bzE ?_
    | (with_reducible apply z_bzl; (case h => omega))
    | (with_reducible apply z_7results; (case r1 => first | omega | ((simp (disch := omega) only [zU_c, zU_e, zU_k, zF_c, zF_i, zF_o, zW_o, zW_i, zC_c, zC_i, zC_o]); omega)))
    | (with_reducible apply z_7resultAt; (case e1 => repeat (with_reducible first | exact zv_l _ | exact zv_r | apply zv_add | apply zv_sub | apply zv_mul | apply zv_neg)); (case r1 => first | omega | ((simp (disch := omega) only [zU_c, zU_e, zU_k, zF_c, zF_i, zF_o, zW_o, zW_i, zC_c, zC_i, zC_o]); omega)))
    | (with_reducible apply z_7brings; (case e1 => repeat (with_reducible first | exact zv_l _ | exact zv_r | apply zv_add | apply zv_sub | apply zv_mul | apply zv_neg)); (case e2 => repeat (with_reducible first | exact zv_l _ | exact zv_r | apply zv_add | apply zv_sub | apply zv_mul | apply zv_neg)); (case e3 => repeat (with_reducible first | exact zv_l _ | exact zv_r | apply zv_add | apply zv_sub | apply zv_mul | apply zv_neg)); (case r1 => first | omega | ((simp (disch := omega) only [zU_c, zU_e, zU_k, zF_c, zF_i, zF_o, zW_o, zW_i, zC_c, zC_i, zC_o]); omega)); (case r2 => first | omega | ((simp (disch := omega) only [zU_c, zU_e, zU_k, zF_c, zF_i, zF_o, zW_o, zW_i, zC_c, zC_i, zC_o]); omega)); (case r3 => first | omega | ((simp (disch := omega) only [zU_c, zU_e, zU_k, zF_c, zF_i, zF_o, zW_o, zW_i, zC_c, zC_i, zC_o]); omega)); (case r4 => first | omega | ((simp (disch := omega) only [zU_c, zU_e, zU_k, zF_c, zF_i, zF_o, zW_o, zW_i, zC_c, zC_i, zC_o]); omega)); (case r5 => first | omega | ((simp (disch := omega) only [zU_c, zU_e, zU_k, zF_c, zF_i, zF_o, zW_o, zW_i, zC_c, zC_i, zC_o]); omega)); (case r6 => first | omega | ((simp (disch := omega) only [zU_c, zU_e, zU_k, zF_c, zF_i, zF_o, zW_o, zW_i, zC_c, zC_i, zC_o]); omega))))
      (first
    | (with_reducible apply z_nm; (case he => repeat (with_reducible first | exact zv_l _ | exact zv_r | apply zv_add | apply zv_sub | apply zv_mul | apply zv_neg)))
    | (with_reducible apply z_b_ck; (case h => with_unfolding_all rfl))
    | (with_reducible apply z_b_R; (case h => first | with_unfolding_all rfl))
    | (with_reducible apply z_L; (case he => repeat (with_reducible first | exact zv_l _ | exact zv_r | apply zv_add | apply zv_sub | apply zv_mul | apply zv_neg)); (case hn => with_reducible first | assumption | exact zl_2 | exact zl_51 | exact zl_53 | exact zl_54 | exact zl_60); (case h => omega); (case hy => first | ((simp (disch := omega) only [zU_c, zU_e, zU_k, zF_c, zF_i, zF_o, zW_o, zW_i, zC_c, zC_i, zC_o]); rfl) | rfl))
    | with_reducible refine z_bz ?_
    | with_reducible refine z_bzE ?_
    | (with_reducible apply z_bzl; (case h => omega))
    | (with_reducible apply z_7results; (case r1 => first | omega | ((simp (disch := omega) only [zU_c, zU_e, zU_k, zF_c, zF_i, zF_o, zW_o, zW_i, zC_c, zC_i, zC_o]); omega)))
    | (with_reducible apply z_7resultAt; (case e1 => repeat (with_reducible first | exact zv_l _ | exact zv_r | apply zv_add | apply zv_sub | apply zv_mul | apply zv_neg)); (case r1 => first | omega | ((simp (disch := omega) only [zU_c, zU_e, zU_k, zF_c, zF_i, zF_o, zW_o, zW_i, zC_c, zC_i, zC_o]); omega)))
    | (with_reducible apply z_7brings; (case e1 => repeat (with_reducible first | exact zv_l _ | exact zv_r | apply zv_add | apply zv_sub | apply zv_mul | apply zv_neg)); (case e2 => repeat (with_reducible first | exact zv_l _ | exact zv_r | apply zv_add | apply zv_sub | apply zv_mul | apply zv_neg)); (case e3 => repeat (with_reducible first | exact zv_l _ | exact zv_r | apply zv_add | apply zv_sub | apply zv_mul | apply zv_neg)); (case r1 => first | omega | ((simp (disch := omega) only [zU_c, zU_e, zU_k, zF_c, zF_i, zF_o, zW_o, zW_i, zC_c, zC_i, zC_o]); omega)); (case r2 => first | omega | ((simp (disch := omega) only [zU_c, zU_e, zU_k, zF_c, zF_i, zF_o, zW_o, zW_i, zC_c, zC_i, zC_o]); omega)); (case r3 => first | omega | ((simp (disch := omega) only [zU_c, zU_e, zU_k, zF_c, zF_i, zF_o, zW_o, zW_i, zC_c, zC_i, zC_o]); omega)); (case r4 => first | omega | ((simp (disch := omega) only [zU_c, zU_e, zU_k, zF_c, zF_i, zF_o, zW_o, zW_i, zC_c, zC_i, zC_o]); omega)); (case r5 => first | omega | ((simp (disch := omega) only [zU_c, zU_e, zU_k, zF_c, zF_i, zF_o, zW_o, zW_i, zC_c, zC_i, zC_o]); omega)); (case r6 => first | omega | ((simp (disch := omega) only [zU_c, zU_e, zU_k, zF_c, zF_i, zF_o, zW_o, zW_i, zC_c, zC_i, zC_o]); omega))))
      (first
    | (with_reducible apply z_nm; (case he => repeat (with_reducible first | exact zv_l _ | exact zv_r | apply zv_add | apply zv_sub | apply zv_mul | apply zv_neg)))
    | (with_reducible apply z_b_ck; (case h => with_unfolding_all rfl))
    | (with_reducible apply z_b_R; (case h => first | with_unfolding_all rfl))
    | (with_reducible apply z_L; (case he => repeat (with_reducible first | exact zv_l _ | exact zv_r | apply zv_add | apply zv_sub | apply zv_mul | apply zv_neg)); (case hn => with_reducible first | assumption | exact zl_2 | exact zl_51 | exact zl_53 | exact zl_54 | exact zl_60); (case h => omega); (case hy => first | ((simp (disch := omega) only [zU_c, zU_e, zU_k, zF_c, zF_i, zF_o, zW_o, zW_i, zC_c, zC_i, zC_o]); rfl) | rfl))
    | with_reducible refine z_bz ?_
    | with_reducible refine z_bzE ?_
    | (with_reducible apply z_bzl; (case h => omega))
    | (with_reducible apply z_7results; (case r1 => first | omega | ((simp (disch := omega) only [zU_c, zU_e, zU_k, zF_c, zF_i, zF_o, zW_o, zW_i, zC_c, zC_i, zC_o]); omega)))
    | (with_reducible apply z_7resultAt; (case e1 => repeat (with_reducible first | exact zv_l _ | exact zv_r | apply zv_add | apply zv_sub | apply zv_mul | apply zv_neg)); (case r1 => first | omega | ((simp (disch := omega) only [zU_c, zU_e, zU_k, zF_c, zF_i, zF_o, zW_o, zW_i, zC_c, zC_i, zC_o]); omega)))
    | (with_reducible apply z_7brings; (case e1 => repeat (with_reducible first | exact zv_l _ | exact zv_r | apply zv_add | apply zv_sub | apply zv_mul | apply zv_neg)); (case e2 => repeat (with_reducible first | exact zv_l _ | exact zv_r | apply zv_add | apply zv_sub | apply zv_mul | apply zv_neg)); (case e3 => repeat (with_reducible first | exact zv_l _ | exact zv_r | apply zv_add | apply zv_sub | apply zv_mul | apply zv_neg)); (case r1 => first | omega | ((simp (disch := omega) only [zU_c, zU_e, zU_k, zF_c, zF_i, zF_o, zW_o, zW_i, zC_c, zC_i, zC_o]); omega)); (case r2 => first | omega | ((simp (disch := omega) only [zU_c, zU_e, zU_k, zF_c, zF_i, zF_o, zW_o, zW_i, zC_c, zC_i, zC_o]); omega)); (case r3 => first | omega | ((simp (disch := omega) only [zU_c, zU_e, zU_k, zF_c, zF_i, zF_o, zW_o, zW_i, zC_c, zC_i, zC_o]); omega)); (case r4 => first | omega | ((simp (disch := omega) only [zU_c, zU_e, zU_k, zF_c, zF_i, zF_o, zW_o, zW_i, zC_c, zC_i, zC_o]); omega)); (case r5 => first | omega | ((simp (disch := omega) only [zU_c, zU_e, zU_k, zF_c, zF_i, zF_o, zW_o, zW_i, zC_c, zC_i, zC_o]); omega)); (case r6 => first | omega | ((simp (disch := omega) only [zU_c, zU_e, zU_k, zF_c, zF_i, zF_o, zW_o, zW_i, zC_c, zC_i, zC_o]); omega))))
      refine z_le (x := m1 54 i) (y := m1 54 t) rfl rfl (by omega) (by omega) (fun hle => ?_) (fun hle => ?_)
      · repeat' (first
    | (with_reducible apply z_nm; (case he => repeat (with_reducible first | exact zv_l _ | exact zv_r | apply zv_add | apply zv_sub | apply zv_mul | apply zv_neg)))
    | (with_reducible apply z_b_ck; (case h => with_unfolding_all rfl))
    | (with_reducible apply z_b_R; (case h => first | with_unfolding_all rfl))
    | (with_reducible apply z_L; (case he => repeat (with_reducible first | exact zv_l _ | exact zv_r | apply zv_add | apply zv_sub | apply zv_mul | apply zv_neg)); (case hn => with_reducible first | assumption | exact zl_2 | exact zl_51 | exact zl_53 | exact zl_54 | exact zl_60); (case h => omega); (case hy => first | ((simp (disch := omega) only [zU_c, zU_e, zU_k, zF_c, zF_i, zF_o, zW_o, zW_i, zC_c, zC_i, zC_o]); rfl) | rfl))
    | with_reducible refine z_bz ?_
    | with_reducible refine z_bzE ?_
    | (with_reducible apply z_bzl; (case h => omega))
    | (with_reducible apply z_7results; (case r1 => first | omega | ((simp (disch := omega) only [zU_c, zU_e, zU_k, zF_c, zF_i, zF_o, zW_o, zW_i, zC_c, zC_i, zC_o]); omega)))
    | (with_reducible apply z_7resultAt; (case e1 => repeat (with_reducible first | exact zv_l _ | exact zv_r | apply zv_add | apply zv_sub | apply zv_mul | apply zv_neg)); (case r1 => first | omega | ((simp (disch := omega) only [zU_c, zU_e, zU_k, zF_c, zF_i, zF_o, zW_o, zW_i, zC_c, zC_i, zC_o]); omega)))
    | (with_reducible apply z_7brings; (case e1 => repeat (with_reducible first | exact zv_l _ | exact zv_r | apply zv_add | apply zv_sub | apply zv_mul | apply zv_neg)); (case e2 => repeat (with_reducible first | exact zv_l _ | exact zv_r | apply zv_add | apply zv_sub | apply zv_mul | apply zv_neg)); (case e3 => repeat (with_reducible first | exact zv_l _ | exact zv_r | apply zv_add | apply zv_sub | apply zv_mul | apply zv_neg)); (case r1 => first | omega | ((simp (disch := omega) only [zU_c, zU_e, zU_k, zF_c, zF_i, zF_o, zW_o, zW_i, zC_c, zC_i, zC_o]); omega)); (case r2 => first | omega | ((simp (disch := omega) only [zU_c, zU_e, zU_k, zF_c, zF_i, zF_o, zW_o, zW_i, zC_c, zC_i, zC_o]); omega)); (case r3 => first | omega | ((simp (disch := omega) only [zU_c, zU_e, zU_k, zF_c, zF_i, zF_o, zW_o, zW_i, zC_c, zC_i, zC_o]); omega)); (case r4 => first | omega | ((simp (disch := omega) only [zU_c, zU_e, zU_k, zF_c, zF_i, zF_o, zW_o, zW_i, zC_c, zC_i, zC_o]); omega)); (case r5 => first | omega | ((simp (disch := omega) only [zU_c, zU_e, zU_k, zF_c, zF_i, zF_o, zW_o, zW_i, zC_c, zC_i, zC_o]); omega)); (case r6 => first | omega | ((simp (disch := omega) only [zU_c, zU_e, zU_k, zF_c, zF_i, zF_o, zW_o, zW_i, zC_c, zC_i, zC_o]); omega))))
        refine hk2 _ _ _ (by omega) ⟨i + 1, rfl, by omega, by omega, rfl, rfl, fun u u0 u1 => ?_⟩
        by_cases hq : u = i
        · rw [hq]
          exact hle
        · exact hu u u0 (by omega)
      · refine ⟨_, _, rfl, ?_, rfl⟩
        rw [zE_p ⟨i, ⟨h0, by omega⟩, by omega⟩]
        rfl
  · have hlt : g < m 51 1 := by omega
    have hag := hag hlt
    obtain ⟨n', en⟩ : ∃ n', (m 51 1 - g).toNat = n' + 1 := ⟨(m 51 1 - g).toNat - 1, by omega⟩
    have en2 : (m 51 1 - (g + 1)).toNat = n' := by omega
    have eg : (g + 1).toNat = g.toNat + 1 := by omega
    have eg2 : ((g.toNat : Nat) : Int) = g := by omega
    have hbit := zLeft_bit (m := m) (k := g.toNat) (by omega)
    rw [eg2] at hbit
    rw [en]
    (first
    | (with_reducible apply z_nm; (case he => repeat (with_reducible first | exact zv_l _ | exact zv_r | apply zv_add | apply zv_sub | apply zv_mul | apply zv_neg)))
    | (with_reducible apply z_b_ck; (case h => with_unfolding_all rfl))
    | (with_reducible apply z_b_R; (case h => first | with_unfolding_all rfl))
    | (with_reducible apply z_L; (case he => repeat (with_reducible first | exact zv_l _ | exact zv_r | apply zv_add | apply zv_sub | apply zv_mul | apply zv_neg)); (case hn => with_reducible first | assumption | exact zl_2 | exact zl_51 | exact zl_53 | exact zl_54 | exact zl_60); (case h => omega); (case hy => first | ((simp (disch := omega) only [zU_c, zU_e, zU_k, zF_c, zF_i, zF_o, zW_o, zW_i, zC_c, zC_i, zC_o]); rfl) | rfl))
    | with_reducible refine z_bz ?_
    | with_reducible refine z_bzE ?_
    | (with_reducible apply z_bzl; (case h => omega))
    | (with_reducible apply z_7results; (case r1 => first | omega | ((simp (disch := omega) only [zU_c, zU_e, zU_k, zF_c, zF_i, zF_o, zW_o, zW_i, zC_c, zC_i, zC_o]); omega)))
    | (with_reducible apply z_7resultAt; (case e1 => repeat (with_reducible first | exact zv_l _ | exact zv_r | apply zv_add | apply zv_sub | apply zv_mul | apply zv_neg)); (case r1 => first | omega | ((simp (disch := omega) only [zU_c, zU_e, zU_k, zF_c, zF_i, zF_o, zW_o, zW_i, zC_c, zC_i, zC_o]); omega)))
    | (with_reducible apply z_7brings; (case e1 => repeat (with_reducible first | exact zv_l _ | exact zv_r | apply zv_add | apply zv_sub | apply zv_mul | apply zv_neg)); (case e2 => repeat (with_reducible first | exact zv_l _ | exact zv_r | apply zv_add | apply zv_sub | apply zv_mul | apply zv_neg)); (case e3 => repeat (with_reducible first | exact zv_l _ | exact zv_r | apply zv_add | apply zv_sub | apply zv_mul | apply zv_neg)); (case r1 => first | omega | ((simp (disch := omega) only [zU_c, zU_e, zU_k, zF_c, zF_i, zF_o, zW_o, zW_i, zC_c, zC_i, zC_o]); omega)); (case r2 => first | omega | ((simp (disch := omega) only [zU_c, zU_e, zU_k, zF_c, zF_i, zF_o, zW_o, zW_i, zC_c, zC_i, zC_o]); omega)); (case r3 => first | omega | ((simp (disch := omega) only [zU_c, zU_e, zU_k, zF_c, zF_i, zF_o, zW_o, zW_i, zC_c, zC_i, zC_o]); omega)); (case r4 => first | omega | ((simp (disch := omega) only [zU_c, zU_e, zU_k, zF_c, zF_i, zF_o, zW_o, zW_i, zC_c, zC_i, zC_o]); omega)); (case r5 => first | omega | ((simp (disch := omega) only [zU_c, zU_e, zU_k, zF_c, zF_i, zF_o, zW_o, zW_i, zC_c, zC_i, zC_o]); omega)); (case r6 => first | omega | ((simp (disch := omega) only [zU_c, zU_e, zU_k, zF_c, zF_i, zF_o, zW_o, zW_i, zC_c, zC_i, zC_o]); omega))))
    (first
    | (with_reducible apply z_nm; (case he => repeat (with_reducible first | exact zv_l _ | exact zv_r | apply zv_add | apply zv_sub | apply zv_mul | apply zv_neg)))
    | (with_reducible apply z_b_ck; (case h => with_unfolding_all rfl))
    | (with_reducible apply z_b_R; (case h => first | with_unfolding_all rfl))
    | (with_reducible apply z_L; (case he => repeat (with_reducible first | exact zv_l _ | exact zv_r | apply zv_add | apply zv_sub | apply zv_mul | apply zv_neg)); (case hn => with_reducible first | assumption | exact zl_2 | exact zl_51 | exact zl_53 | exact zl_54 | exact zl_60); (case h => omega); (case hy => first | ((simp (disch := omega) only [zU_c, zU_e, zU_k, zF_c, zF_i, zF_o, zW_o, zW_i, zC_c, zC_i, zC_o]); rfl) | rfl))
    | with_reducible refine z_bz ?_
    | with_reducible refine z_bzE ?_
    | (with_reducible apply z_bzl; (case h => omega))
    | (with_reducible apply z_7results; (case r1 => first | omega | ((simp (disch := omega) only [zU_c, zU_e, zU_k, zF_c, zF_i, zF_o, zW_o, zW_i, zC_c, zC_i, zC_o]); omega)))
    | (with_reducible apply z_7resultAt; (case e1 => repeat (with_reducible first | exact zv_l _ | exact zv_r | apply zv_add | apply zv_sub | apply zv_mul | apply zv_neg)); (case r1 => first | omega | ((simp (disch := omega) only [zU_c, zU_e, zU_k, zF_c, zF_i, zF_o, zW_o, zW_i, zC_c, zC_i, zC_o]); omega)))
    | (with_reducible apply z_7brings; (case e1 => repeat (with_reducible first | exact zv_l _ | exact zv_r | apply zv_add | apply zv_sub | apply zv_mul | apply zv_neg)); (case e2 => repeat (with_reducible first | exact zv_l _ | exact zv_r | apply zv_add | apply zv_sub | apply zv_mul | apply zv_neg)); (case e3 => repeat (with_reducible first | exact zv_l _ | exact zv_r | apply zv_add | apply zv_sub | apply zv_mul | apply zv_neg)); (case r1 => first | omega | ((simp (disch := omega) only [zU_c, zU_e, zU_k, zF_c, zF_i, zF_o, zW_o, zW_i, zC_c, zC_i, zC_o]); omega)); (case r2 => first | omega | ((simp (disch := omega) only [zU_c, zU_e, zU_k, zF_c, zF_i, zF_o, zW_o, zW_i, zC_c, zC_i, zC_o]); omega)); (case r3 => first | omega | ((simp (disch := omega) only [zU_c, zU_e, zU_k, zF_c, zF_i, zF_o, zW_o, zW_i, zC_c, zC_i, zC_o]); omega)); (case r4 => first | omega | ((simp (disch := omega) only [zU_c, zU_e, zU_k, zF_c, zF_i, zF_o, zW_o, zW_i, zC_c, zC_i, zC_o]); omega)); (case r5 => first | omega | ((simp (disch := omega) only [zU_c, zU_e, zU_k, zF_c, zF_i, zF_o, zW_o, zW_i, zC_c, zC_i, zC_o]); omega)); (case r6 => first | omega | ((simp (disch := omega) only [zU_c, zU_e, zU_k, zF_c, zF_i, zF_o, zW_o, zW_i, zC_c, zC_i, zC_o]); omega))))
    refine z_eq (x := m 53 g) (y := -1) rfl rfl (by omega) (by omega) (fun hl => ?_) (fun hl => ?_)
    · rw [decide_eq_true hl] at hbit
      obtain ⟨g1, g2, g3, g4, g5⟩ := hR.2.2 g hg.1 hlt
      have eL : zSg (zLeft (zV m) 3) (n' + 1) g.toNat = g.toNat :: zSg (zLeft (zV m) 3) n' (g.toNat + 1) := if_pos hbit
      rw [eL]
      have hPs : zPs (m 51 2) (if m 51 2 = 0 then 0 else 1) (m 51 0) t (zGl7 m (g.toNat :: zSg (zLeft (zV m) 3) n' (g.toNat + 1))) (m 54) ↔ ∃ i : Nat, i < (if m 51 2 = 0 then 2 else 3) ∧ zPs (m 51 2) (if m 51 2 = 0 then 0 else 1) (m 51 0) t (zGl7 m (zSg (zLeft (zV m) 3) n' (g.toNat + 1))) (fun u => m 54 u + zGn (m 51 2) (m 51 (51 + g)) (m 51 (60 + g)) (zRA i) u) := by
        show (∃ x, zOx (if m 51 2 = 0 then 0 else 1) x ∧ zPs (m 51 2) (if m 51 2 = 0 then 0 else 1) (m 51 0) t (zGl7 m (zSg (zLeft (zV m) 3) n' (g.toNat + 1))) (fun u => m 54 u + zGn (m 51 2) (m 51 (51 + ((g.toNat : Nat) : Int))) (m 51 (60 + ((g.toNat : Nat) : Int))) x u)) ↔ _
        rw [eg2, zOx_RA (P := fun x => zPs (m 51 2) (if m 51 2 = 0 then 0 else 1) (m 51 0) t (zGl7 m (zSg (zLeft (zV m) 3) n' (g.toNat + 1))) (fun u => m 54 u + zGn (m 51 2) (m 51 (51 + g)) (m 51 (60 + g)) x u))]
        by_cases hk0 : m 51 2 = 0
        · rw [if_pos hk0, if_pos rfl, if_pos hk0]
        · rw [if_neg hk0, if_neg (by omega), if_neg hk0]
      rw [zE_iff hPs]
      generalize hPd : (fun i : Nat => zPs (m 51 2) (if m 51 2 = 0 then 0 else 1) (m 51 0) t (zGl7 m (zSg (zLeft (zV m) 3) n' (g.toNat + 1))) (fun u => m 54 u + zGn (m 51 2) (m 51 (51 + g)) (m 51 (60 + g)) (zRA i) u)) = P
      have hPd2 : ∀ i, zPs (m 51 2) (if m 51 2 = 0 then 0 else 1) (m 51 0) t (zGl7 m (zSg (zLeft (zV m) 3) n' (g.toNat + 1))) (fun u => m 54 u + zGn (m 51 2) (m 51 (51 + g)) (m 51 (60 + g)) (zRA i) u) = P i := fun i => by rw [← hPd]
      simp only [hPd2]
      generalize hRd : (if m 51 2 = 0 then 2 else 3) = R
      have hR23 : R = 2 ∨ R = 3 := by
        rw [← hRd]
        split
        · exact Or.inl rfl
        · exact Or.inr rfl
      refine z_lp (fun n v m2 => ∃ (s : Int) (i : Nat), v = (50, zI t, zI g, zI s, zI (i : Int)) ∧ i ≤ R ∧ n = 3 - i ∧ s = zE (∃ j : Nat, j < i ∧ P j) ∧ m2 = m) (fun _ _ v m2 => v = zI (zE (∃ i : Nat, i < R ∧ P i)) ∧ m2 = m) ?_ 600 3 _ _ (by omega) ⟨0, 0, rfl, by omega, rfl, (zE_n (fun q => by obtain ⟨j, hj, -⟩ := q; omega)).symm, rfl⟩
      rintro n v m2 k2 ⟨s, i, rfl, iR, rfl, hs, rfl⟩ hk2
      have hs01 : s = 0 ∨ s = 1 := by
        rw [hs]
        exact zE_01 _
      unfold f_X7_canBePassed_71
      dsimp only
      refine z_7results hK ?_
      have eR : (if m2 51 2 = 0 then (2 : Int) else 3) = (R : Int) := by
        rw [← hRd]
        split <;> rfl
      rw [eR]
      refine z_le (x := (R : Int)) (y := (i : Int)) rfl rfl (by omega) (by omega) (fun hle => ?_) (fun hle => ?_)
      · have : i = R := by omega
        subst this
        refine z_bzl2 hs01 ?_
        exact ⟨_, _, rfl, by rw [hs], rfl⟩
      · refine z_eq (x := s) (y := 0) rfl rfl (by omega) (by omega) (fun h0 => ?_) (fun h0 => ?_)
        · have hno : ¬ ∃ j : Nat, j < i ∧ P j := fun q => by
            rw [zE_p q] at hs
            omega
          have hra : 0 ≤ zRA i ∧ zRA i ≤ 2 := by
            unfold zRA
            split <;> omega
          have era : (if (i : Int) = 2 then (0 : Int) else (i : Int) + 1) = zRA i := by
            unfold zRA
            by_cases hq : i = 2
            · rw [if_pos hq, if_pos (by omega)]
            · rw [if_neg hq, if_neg (by omega)]
          refine z_7resultAt rfl (by omega) ?_
          rw [era]
          refine z_7brings (k := g) (res := zRA i) (x := 1) rfl rfl (zv_l 1) (by omega) hra (by omega) (by omega) g4 hK ?_
          have hgr : ∀ u, 0 ≤ zG7 m2 g (zRA i) u ∧ zG7 m2 g (zRA i) u ≤ 3 := fun u => by
            have := zGn_0 (o := m2 51 (51 + g)) (p := m2 51 (60 + g)) (x := zRA i) (u := u) hK
            have := zGn_le (x := zRA i) (u := u) hK g4
            unfold zG7
            split at this <;> omega
          have e51 : ∀ j, zAw m2 54 (fun t => zG7 m2 g (zRA i) t * 1) 51 j = m2 51 j := fun j => zAw_c (by omega)
          have e53 : ∀ j, zAw m2 54 (fun t => zG7 m2 g (zRA i) t * 1) 53 j = m2 53 j := fun j => zAw_c (by omega)
          have e54 : zAw m2 54 (fun t => zG7 m2 g (zRA i) t * 1) 54 = fun u => m2 54 u + zGn (m2 51 2) (m2 51 (51 + g)) (m2 51 (60 + g)) (zRA i) u := by
            funext u
            rw [zAw_q, Int.mul_one]
            rfl
          have eLf : zLeft (zV (zAw m2 54 (fun t => zG7 m2 g (zRA i) t * 1))) 3 = zLeft (zV m2) 3 := rfl
          (first
    | (with_reducible apply z_nm; (case he => repeat (with_reducible first | exact zv_l _ | exact zv_r | apply zv_add | apply zv_sub | apply zv_mul | apply zv_neg)))
    | (with_reducible apply z_b_ck; (case h => with_unfolding_all rfl))
    | (with_reducible apply z_b_R; (case h => first | with_unfolding_all rfl))
    | (with_reducible apply z_L; (case he => repeat (with_reducible first | exact zv_l _ | exact zv_r | apply zv_add | apply zv_sub | apply zv_mul | apply zv_neg)); (case hn => with_reducible first | assumption | exact zl_2 | exact zl_51 | exact zl_53 | exact zl_54 | exact zl_60); (case h => omega); (case hy => first | ((simp (disch := omega) only [zU_c, zU_e, zU_k, zF_c, zF_i, zF_o, zW_o, zW_i, zC_c, zC_i, zC_o]); rfl) | rfl))
    | with_reducible refine z_bz ?_
    | with_reducible refine z_bzE ?_
    | (with_reducible apply z_bzl; (case h => omega))
    | (with_reducible apply z_7results; (case r1 => first | omega | ((simp (disch := omega) only [zU_c, zU_e, zU_k, zF_c, zF_i, zF_o, zW_o, zW_i, zC_c, zC_i, zC_o]); omega)))
    | (with_reducible apply z_7resultAt; (case e1 => repeat (with_reducible first | exact zv_l _ | exact zv_r | apply zv_add | apply zv_sub | apply zv_mul | apply zv_neg)); (case r1 => first | omega | ((simp (disch := omega) only [zU_c, zU_e, zU_k, zF_c, zF_i, zF_o, zW_o, zW_i, zC_c, zC_i, zC_o]); omega)))
    | (with_reducible apply z_7brings; (case e1 => repeat (with_reducible first | exact zv_l _ | exact zv_r | apply zv_add | apply zv_sub | apply zv_mul | apply zv_neg)); (case e2 => repeat (with_reducible first | exact zv_l _ | exact zv_r | apply zv_add | apply zv_sub | apply zv_mul | apply zv_neg)); (case e3 => repeat (with_reducible first | exact zv_l _ | exact zv_r | apply zv_add | apply zv_sub | apply zv_mul | apply zv_neg)); (case r1 => first | omega | ((simp (disch := omega) only [zU_c, zU_e, zU_k, zF_c, zF_i, zF_o, zW_o, zW_i, zC_c, zC_i, zC_o]); omega)); (case r2 => first | omega | ((simp (disch := omega) only [zU_c, zU_e, zU_k, zF_c, zF_i, zF_o, zW_o, zW_i, zC_c, zC_i, zC_o]); omega)); (case r3 => first | omega | ((simp (disch := omega) only [zU_c, zU_e, zU_k, zF_c, zF_i, zF_o, zW_o, zW_i, zC_c, zC_i, zC_o]); omega)); (case r4 => first | omega | ((simp (disch := omega) only [zU_c, zU_e, zU_k, zF_c, zF_i, zF_o, zW_o, zW_i, zC_c, zC_i, zC_o]); omega)); (case r5 => first | omega | ((simp (disch := omega) only [zU_c, zU_e, zU_k, zF_c, zF_i, zF_o, zW_o, zW_i, zC_c, zC_i, zC_o]); omega)); (case r6 => first | omega | ((simp (disch := omega) only [zU_c, zU_e, zU_k, zF_c, zF_i, zF_o, zW_o, zW_i, zC_c, zC_i, zC_o]); omega))))
          rw [show zI g + 1 = zI (g + 1) from zv_add rfl (zv_l 1)]
          refine z_call (hrec (zAw m2 54 (fun t => zG7 m2 g (zRA i) t * 1)) (zRw_X e51 hR) (fun k k0 k1 => by rw [e51] at k1; rw [e53]; exact hA k k0 k1) eLf e51 (fun u u0 u1 => ?_) hlt) (fun v m4 hv => ?_)
          · rw [e51] at u1
            have q1 := hp u u0 u1
            have q2 := hgr u
            rw [zAw_q, e51]
            omega
          · obtain ⟨rfl, rfl⟩ := hv
            rw [e51, e51, e51, eLf, en2, eg, zGl7_51 e51, e54, hPd2]
            refine z_7resultAt rfl (by omega) ?_
            rw [era]
            refine z_7brings (k := g) (res := zRA i) (x := -1) rfl rfl (show (-1 : Int32) = zI (-1) from rfl) (by omega) hra (by rw [e51]; omega) (by rw [e51]; omega) (by rw [e51, e51]; exact g4) (by rw [e51]; exact hK) ?_
            repeat' (first
    | (with_reducible apply z_nm; (case he => repeat (with_reducible first | exact zv_l _ | exact zv_r | apply zv_add | apply zv_sub | apply zv_mul | apply zv_neg)))
    | (with_reducible apply z_b_ck; (case h => with_unfolding_all rfl))
    | (with_reducible apply z_b_R; (case h => first | with_unfolding_all rfl))
    | (with_reducible apply z_L; (case he => repeat (with_reducible first | exact zv_l _ | exact zv_r | apply zv_add | apply zv_sub | apply zv_mul | apply zv_neg)); (case hn => with_reducible first | assumption | exact zl_2 | exact zl_51 | exact zl_53 | exact zl_54 | exact zl_60); (case h => omega); (case hy => first | ((simp (disch := omega) only [zU_c, zU_e, zU_k, zF_c, zF_i, zF_o, zW_o, zW_i, zC_c, zC_i, zC_o]); rfl) | rfl))
    | with_reducible refine z_bz ?_
    | with_reducible refine z_bzE ?_
    | (with_reducible apply z_bzl; (case h => omega))
    | (with_reducible apply z_7results; (case r1 => first | omega | ((simp (disch := omega) only [zU_c, zU_e, zU_k, zF_c, zF_i, zF_o, zW_o, zW_i, zC_c, zC_i, zC_o]); omega)))
    | (with_reducible apply z_7resultAt; (case e1 => repeat (with_reducible first | exact zv_l _ | exact zv_r | apply zv_add | apply zv_sub | apply zv_mul | apply zv_neg)); (case r1 => first | omega | ((simp (disch := omega) only [zU_c, zU_e, zU_k, zF_c, zF_i, zF_o, zW_o, zW_i, zC_c, zC_i, zC_o]); omega)))
    | (with_reducible apply z_7brings; (case e1 => repeat (with_reducible first | exact zv_l _ | exact zv_r | apply zv_add | apply zv_sub | apply zv_mul | apply zv_neg)); (case e2 => repeat (with_reducible first | exact zv_l _ | exact zv_r | apply zv_add | apply zv_sub | apply zv_mul | apply zv_neg)); (case e3 => repeat (with_reducible first | exact zv_l _ | exact zv_r | apply zv_add | apply zv_sub | apply zv_mul | apply zv_neg)); (case r1 => first | omega | ((simp (disch := omega) only [zU_c, zU_e, zU_k, zF_c, zF_i, zF_o, zW_o, zW_i, zC_c, zC_i, zC_o]); omega)); (case r2 => first | omega | ((simp (disch := omega) only [zU_c, zU_e, zU_k, zF_c, zF_i, zF_o, zW_o, zW_i, zC_c, zC_i, zC_o]); omega)); (case r3 => first | omega | ((simp (disch := omega) only [zU_c, zU_e, zU_k, zF_c, zF_i, zF_o, zW_o, zW_i, zC_c, zC_i, zC_o]); omega)); (case r4 => first | omega | ((simp (disch := omega) only [zU_c, zU_e, zU_k, zF_c, zF_i, zF_o, zW_o, zW_i, zC_c, zC_i, zC_o]); omega)); (case r5 => first | omega | ((simp (disch := omega) only [zU_c, zU_e, zU_k, zF_c, zF_i, zF_o, zW_o, zW_i, zC_c, zC_i, zC_o]); omega)); (case r6 => first | omega | ((simp (disch := omega) only [zU_c, zU_e, zU_k, zF_c, zF_i, zF_o, zW_o, zW_i, zC_c, zC_i, zC_o]); omega))))
            have hback : zAw (zAw m2 54 (fun t => zG7 m2 g (zRA i) t * 1)) 54 (fun t => zG7 (zAw m2 54 (fun t => zG7 m2 g (zRA i) t * 1)) g (zRA i) t * -1) = m2 := by
              funext c j
              by_cases hc : c = 54
              · subst hc
                rw [zAw_q, zAw_q]
                have : zG7 (zAw m2 54 (fun t => zG7 m2 g (zRA i) t * 1)) g (zRA i) j = zG7 m2 g (zRA i) j := rfl
                rw [this]
                omega
              · rw [zAw_c hc, zAw_c hc]
            rw [hback]
            refine hk2 _ _ _ (by omega) ⟨zE (P i), i + 1, rfl, by omega, rfl, zE_iff ⟨fun q => ⟨i, by omega, q⟩, fun q => ?_⟩, rfl⟩
            obtain ⟨j, hj, q⟩ := q
            by_cases hji : j = i
            · rw [← hji]
              exact q
            · exact absurd ⟨j, by omega, q⟩ hno
        · refine z_bzl2 hs01 ?_
          refine ⟨_, _, rfl, ?_, rfl⟩
          have hyes : ∃ j : Nat, j < i ∧ P j := by
            refine Classical.byContradiction (fun q => h0 ?_)
            rw [hs, zE_n q]
          obtain ⟨j, hj, q⟩ := hyes
          rw [hs, zE_p ⟨j, hj, q⟩, zE_p ⟨j, by omega, q⟩]
    · rw [decide_eq_false hl] at hbit
      have eL : zSg (zLeft (zV m) 3) (n' + 1) g.toNat = zSg (zLeft (zV m) 3) n' (g.toNat + 1) := if_neg (by rw [hbit]; simp)
      rw [eL]
      (first
    | (with_reducible apply z_nm; (case he => repeat (with_reducible first | exact zv_l _ | exact zv_r | apply zv_add | apply zv_sub | apply zv_mul | apply zv_neg)))
    | (with_reducible apply z_b_ck; (case h => with_unfolding_all rfl))
    | (with_reducible apply z_b_R; (case h => first | with_unfolding_all rfl))
    | (with_reducible apply z_L; (case he => repeat (with_reducible first | exact zv_l _ | exact zv_r | apply zv_add | apply zv_sub | apply zv_mul | apply zv_neg)); (case hn => with_reducible first | assumption | exact zl_2 | exact zl_51 | exact zl_53 | exact zl_54 | exact zl_60); (case h => omega); (case hy => first | ((simp (disch := omega) only [zU_c, zU_e, zU_k, zF_c, zF_i, zF_o, zW_o, zW_i, zC_c, zC_i, zC_o]); rfl) | rfl))
    | with_reducible refine z_bz ?_
    | with_reducible refine z_bzE ?_
    | (with_reducible apply z_bzl; (case h => omega))
    | (with_reducible apply z_7results; (case r1 => first | omega | ((simp (disch := omega) only [zU_c, zU_e, zU_k, zF_c, zF_i, zF_o, zW_o, zW_i, zC_c, zC_i, zC_o]); omega)))
    | (with_reducible apply z_7resultAt; (case e1 => repeat (with_reducible first | exact zv_l _ | exact zv_r | apply zv_add | apply zv_sub | apply zv_mul | apply zv_neg)); (case r1 => first | omega | ((simp (disch := omega) only [zU_c, zU_e, zU_k, zF_c, zF_i, zF_o, zW_o, zW_i, zC_c, zC_i, zC_o]); omega)))
    | (with_reducible apply z_7brings; (case e1 => repeat (with_reducible first | exact zv_l _ | exact zv_r | apply zv_add | apply zv_sub | apply zv_mul | apply zv_neg)); (case e2 => repeat (with_reducible first | exact zv_l _ | exact zv_r | apply zv_add | apply zv_sub | apply zv_mul | apply zv_neg)); (case e3 => repeat (with_reducible first | exact zv_l _ | exact zv_r | apply zv_add | apply zv_sub | apply zv_mul | apply zv_neg)); (case r1 => first | omega | ((simp (disch := omega) only [zU_c, zU_e, zU_k, zF_c, zF_i, zF_o, zW_o, zW_i, zC_c, zC_i, zC_o]); omega)); (case r2 => first | omega | ((simp (disch := omega) only [zU_c, zU_e, zU_k, zF_c, zF_i, zF_o, zW_o, zW_i, zC_c, zC_i, zC_o]); omega)); (case r3 => first | omega | ((simp (disch := omega) only [zU_c, zU_e, zU_k, zF_c, zF_i, zF_o, zW_o, zW_i, zC_c, zC_i, zC_o]); omega)); (case r4 => first | omega | ((simp (disch := omega) only [zU_c, zU_e, zU_k, zF_c, zF_i, zF_o, zW_o, zW_i, zC_c, zC_i, zC_o]); omega)); (case r5 => first | omega | ((simp (disch := omega) only [zU_c, zU_e, zU_k, zF_c, zF_i, zF_o, zW_o, zW_i, zC_c, zC_i, zC_o]); omega)); (case r6 => first | omega | ((simp (disch := omega) only [zU_c, zU_e, zU_k, zF_c, zF_i, zF_o, zW_o, zW_i, zC_c, zC_i, zC_o]); omega))))
      rw [show zI g + 1 = zI (g + 1) from zv_add rfl (zv_l 1)]
      refine z_call (hrec m hR hA rfl (fun _ => rfl) (fun u u0 u1 => by have := hp u u0 u1; omega) hlt) (fun v m4 hv => ?_)
      obtain ⟨rfl, rfl⟩ := hv
      rw [en2, eg]
      (first
    | (with_reducible apply z_nm; (case he => repeat (with_reducible first | exact zv_l _ | exact zv_r | apply zv_add | apply zv_sub | apply zv_mul | apply zv_neg)))
    | (with_reducible apply z_b_ck; (case h => with_unfolding_all rfl))
    | (with_reducible apply z_b_R; (case h => first | with_unfolding_all rfl))
    | (with_reducible apply z_L; (case he => repeat (with_reducible first | exact zv_l _ | exact zv_r | apply zv_add | apply zv_sub | apply zv_mul | apply zv_neg)); (case hn => with_reducible first | assumption | exact zl_2 | exact zl_51 | exact zl_53 | exact zl_54 | exact zl_60); (case h => omega); (case hy => first | ((simp (disch := omega) only [zU_c, zU_e, zU_k, zF_c, zF_i, zF_o, zW_o, zW_i, zC_c, zC_i, zC_o]); rfl) | rfl))
    | with_reducible refine z_bz ?_
    | with_reducible refine z_bzE ?_
    | (with_reducible apply z_bzl; (case h => omega))
    | (with_reducible apply z_7results; (case r1 => first | omega | ((simp (disch := omega) only [zU_c, zU_e, zU_k, zF_c, zF_i, zF_o, zW_o, zW_i, zC_c, zC_i, zC_o]); omega)))
    | (with_reducible apply z_7resultAt; (case e1 => repeat (with_reducible first | exact zv_l _ | exact zv_r | apply zv_add | apply zv_sub | apply zv_mul | apply zv_neg)); (case r1 => first | omega | ((simp (disch := omega) only [zU_c, zU_e, zU_k, zF_c, zF_i, zF_o, zW_o, zW_i, zC_c, zC_i, zC_o]); omega)))
    | (with_reducible apply z_7brings; (case e1 => repeat (with_reducible first | exact zv_l _ | exact zv_r | apply zv_add | apply zv_sub | apply zv_mul | apply zv_neg)); (case e2 => repeat (with_reducible first | exact zv_l _ | exact zv_r | apply zv_add | apply zv_sub | apply zv_mul | apply zv_neg)); (case e3 => repeat (with_reducible first | exact zv_l _ | exact zv_r | apply zv_add | apply zv_sub | apply zv_mul | apply zv_neg)); (case r1 => first | omega | ((simp (disch := omega) only [zU_c, zU_e, zU_k, zF_c, zF_i, zF_o, zW_o, zW_i, zC_c, zC_i, zC_o]); omega)); (case r2 => first | omega | ((simp (disch := omega) only [zU_c, zU_e, zU_k, zF_c, zF_i, zF_o, zW_o, zW_i, zC_c, zC_i, zC_o]); omega)); (case r3 => first | omega | ((simp (disch := omega) only [zU_c, zU_e, zU_k, zF_c, zF_i, zF_o, zW_o, zW_i, zC_c, zC_i, zC_o]); omega)); (case r4 => first | omega | ((simp (disch := omega) only [zU_c, zU_e, zU_k, zF_c, zF_i, zF_o, zW_o, zW_i, zC_c, zC_i, zC_o]); omega)); (case r5 => first | omega | ((simp (disch := omega) only [zU_c, zU_e, zU_k, zF_c, zF_i, zF_o, zW_o, zW_i, zC_c, zC_i, zC_o]); omega)); (case r6 => first | omega | ((simp (disch := omega) only [zU_c, zU_e, zU_k, zF_c, zF_i, zF_o, zW_o, zW_i, zC_c, zC_i, zC_o]); omega))))
      exact ⟨_, _, rfl, rfl, rfl⟩
theorem s7_passedE {m : zMe} {t : Int} (hR : zRw m) (hA : zAs m) (ht : 0 ≤ t ∧ t < m 51 0) (hp : ∀ u, 0 ≤ u → u < m 51 0 → 0 ≤ m 54 u ∧ m 54 u ≤ 63) : zOk (f_X7_canBePassed 12 50 (zI t) (zI 0) (zM m)) (fun v m1 => v = zI (zE (zPs (m 51 2) (if m 51 2 = 0 then 0 else 1) (m 51 0) t (zGl7 m (zSg (zLeft (zV m) 3) (m 51 1).toNat 0)) (m 54))) ∧ m1 = m) := by
  have hN := hR.1.2.1
  have hT := hR.1.1
  have h := z_lp (b := fun ks a h => f_X7_canBePassed_r ks a.1 a.2.1 a.2.2 h) (fun n v m1 => ∃ g : Int, v = (50, zI t, zI g) ∧ n = (m1 51 1 - g).toNat ∧ zRw m1 ∧ zAs m1 ∧ (0 ≤ t ∧ t < m1 51 0) ∧ (0 ≤ g ∧ g ≤ m1 51 1) ∧ (∀ u, 0 ≤ u → u < m1 51 0 → 0 ≤ m1 54 u ∧ m1 54 u + 3 * (m1 51 1 - g) ≤ 100)) (fun v m1 a m2 => ∀ g : Int, v = (50, zI t, zI g) → (0 ≤ g ∧ g ≤ 9) → (a = zI (zE (zPs (m1 51 2) (if m1 51 2 = 0 then 0 else 1) (m1 51 0) t (zGl7 m1 (zSg (zLeft (zV m1) 3) (m1 51 1 - g).toNat g.toNat)) (m1 54))) ∧ m2 = m1)) (fun n v m1 k hI hk => ?_) 12 (m 51 1 - 0).toNat (50, zI t, zI 0) m (by omega) ⟨0, rfl, rfl, hR, hA, ht, ⟨Int.le_refl 0, hN.1⟩, fun u u0 u1 => by have := hp u u0 u1; omega⟩
  · refine h.mono (fun v m1 q => ?_)
    have := q 0 rfl (by omega)
    rw [show (m 51 1 - 0).toNat = (m 51 1).toNat by omega] at this
    exact this
  · obtain ⟨g, rfl, rfl, hR1, hA1, ht1, hg1, hp1⟩ := hI
    have hN1 := hR1.1.2.1
    refine zOk.mono (s7_passed_r hR1 hA1 ht1 hg1 hp1 (fun m' hR' hA' _ h51 hp' hlt => ?_)) (fun a m2 q g' e' hg' => ?_)
    · exact (hk _ _ _ (by rw [h51]; omega) ⟨g + 1, rfl, rfl, hR', hA', by rw [h51]; exact ht1, by rw [h51]; omega, hp'⟩).mono (fun a m2 q => q (g + 1) rfl (by omega))
    · have e : g' = g := by
        have e1 : (zI t, zI g) = (zI t, zI g') := (Prod.mk.inj e').2
        have e'' : zI g = zI g' := (Prod.mk.inj e1).2
        exact ((zI_inj (by omega) (by omega)).mp e'').symm
      subst e
      exact q
/-! the worst run for t -/
def zCt (K u : Int) : List (Int × Int) → Int
  | [] => 0
  | e :: es => (if e.1 = u ∨ e.2 = u then K + 1 else 0) + zCt K u es
theorem zPs_yes {K d T t u : Int} (hu : 0 ≤ u ∧ u < T) (hn : ¬ u = t) (L : List (Int × Int)) (hL : ∀ e, e ∈ L → ¬ e.1 = e.2) (f : Int → Int) (h : f t < f u + zCt K u L) : zPs K d T t L f := by
  induction L generalizing f with
  | nil => exact ⟨u, hu, by have : zCt K u [] = 0 := rfl; omega⟩
  | cons e es ih =>
    have hne := hL e (by simp)
    have hc : zCt K u (e :: es) = (if e.1 = u ∨ e.2 = u then K + 1 else 0) + zCt K u es := rfl
    rw [hc] at h
    have hgo : ∀ x, zOx d x → zGn K e.1 e.2 x t = 0 → (if e.1 = u ∨ e.2 = u then K + 1 else 0) ≤ zGn K e.1 e.2 x u → zPs K d T t (e :: es) f := fun x hx h1 h2 => ⟨x, hx, ih (fun y hy => hL y (by simp [hy])) _ (by
      show f t + zGn K e.1 e.2 x t < f u + zGn K e.1 e.2 x u + zCt K u es
      omega)⟩
    by_cases h1 : e.1 = u
    · refine hgo 1 (Or.inl rfl) ?_ ?_
      · unfold zGn
        rw [if_neg (by omega)]
        split <;> simp
      · unfold zGn
        rw [if_pos (Or.inl h1), if_pos h1.symm, if_neg (show ¬ u = e.2 by omega)]
        simp
    · by_cases h2 : e.2 = u
      · refine hgo 2 (Or.inr (Or.inl rfl)) ?_ ?_
        · unfold zGn
          rw [if_neg (show ¬ t = e.2 by omega)]
          split <;> simp
        · unfold zGn
          rw [if_pos (Or.inr h2), if_neg (show ¬ u = e.1 by omega), if_pos h2.symm]
          simp
      · by_cases h3 : e.1 = t
        · refine hgo 2 (Or.inr (Or.inl rfl)) ?_ ?_
          · unfold zGn
            rw [if_pos h3.symm, if_neg (show ¬ t = e.2 by omega)]
            simp
          · unfold zGn
            rw [if_neg (show ¬ (e.1 = u ∨ e.2 = u) by omega), if_neg (show ¬ u = e.1 by omega), if_neg (show ¬ u = e.2 by omega)]
            simp
        · refine hgo 1 (Or.inl rfl) ?_ ?_
          · unfold zGn
            rw [if_neg (show ¬ t = e.1 by omega)]
            split <;> simp
          · unfold zGn
            rw [if_neg (show ¬ (e.1 = u ∨ e.2 = u) by omega), if_neg (show ¬ u = e.1 by omega), if_neg (show ¬ u = e.2 by omega)]
            simp
theorem zPs_no {K d T t : Int} (hK : 0 ≤ K ∧ K ≤ 2) (L : List (Int × Int)) (hL : ∀ e, e ∈ L → ¬ e.1 = e.2) (f : Int → Int) (h : ∀ u, 0 ≤ u → u < T → ¬ u = t → f u + zCt K u L ≤ f t) : ¬ zPs K d T t L f := by
  induction L generalizing f with
  | nil =>
    rintro ⟨u, ⟨u0, u1⟩, hq⟩
    by_cases hu : u = t
    · rw [hu] at hq
      omega
    · have := h u u0 u1 hu
      have : zCt K u [] = 0 := rfl
      omega
  | cons e es ih =>
    rintro ⟨x, hx, hq⟩
    refine ih (fun y hy => hL y (by simp [hy])) _ (fun u u0 u1 hu => ?_) hq
    have h1 := h u u0 u1 hu
    have hc : zCt K u (e :: es) = (if e.1 = u ∨ e.2 = u then K + 1 else 0) + zCt K u es := rfl
    rw [hc] at h1
    have h2 := zGn_le (x := x) (u := u) hK (hL e (by simp))
    have h3 := zGn_0 (o := e.1) (p := e.2) (x := x) (u := t) hK
    show f u + zGn K e.1 e.2 x u + zCt K u es ≤ f t + zGn K e.1 e.2 x t
    omega
/-- all games left -/
def zLa (m : zMe) (r : Nat) : Nat → List Nat
  | 0 => []
  | n + 1 => if m (r + 7) (n : Int) = -1 then zLa m r n ++ [n] else zLa m r n
theorem zLa_in {m : zMe} {r n x : Nat} (h : x ∈ zLa m r n) : x < n := by
  induction n with
  | zero => exact absurd h (by simp [zLa])
  | succ n ih =>
    unfold zLa at h
    split at h
    · rcases List.mem_append.mp h with q | q
      · have := ih q
        omega
      · have := List.mem_singleton.mp q
        omega
    · have := ih h
      omega
theorem zSg_La {m : zMe} {r b n : Nat} (h : ∀ k, k < n → (b.testBit k = true ↔ m (r + 7) (k : Int) = -1)) : zSg b n 0 = zLa m r n := by
  induction n with
  | zero => rfl
  | succ n ih =>
    have eL : zLa m r (n + 1) = if m (r + 7) (n : Int) = -1 then zLa m r n ++ [n] else zLa m r n := rfl
    rw [zSg_snoc, ih (fun k hk => h k (by omega)), eL, Nat.zero_add]
    have hn := h n (by omega)
    by_cases hq : m (r + 7) (n : Int) = -1
    · rw [if_pos hq, if_pos (hn.mpr hq)]
    · rw [if_neg hq, if_neg (fun w => hq (hn.mp w)), List.append_nil]
theorem zCt_app (K u : Int) (L L' : List (Int × Int)) : zCt K u (L ++ L') = zCt K u L + zCt K u L' := by
  induction L with
  | nil =>
    show zCt K u L' = 0 + zCt K u L'
    omega
  | cons e es ih =>
    show (if e.1 = u ∨ e.2 = u then K + 1 else 0) + zCt K u (es ++ L') = (if e.1 = u ∨ e.2 = u then K + 1 else 0) + zCt K u es + zCt K u L'
    rw [ih]
    omega
theorem zCt_Own {m : zMe} {r : Nat} (hW : zWf m r) (u : Int) : zCt (m r 2) u (zGl m r (zLa m r (m r 1).toNat)) = (m r 2 + 1) * (zPop (zOwn m r u) : Nat) := by
  have hN := hW.1.2.1
  unfold zOwn
  rw [zPop_Bn (by omega), zPn_Sm, ← zSm_mul]
  generalize (m r 1).toNat = n
  induction n with
  | zero => rfl
  | succ n ih =>
    have eL : zLa m r (n + 1) = if m (r + 7) (n : Int) = -1 then zLa m r n ++ [n] else zLa m r n := rfl
    have eS : zSm (n + 1) (fun k => (m r 2 + 1) * (if decide (m (r + 7) (k : Int) = -1 ∧ (m (r + 4) (k : Int) = u ∨ m (r + 5) (k : Int) = u)) = true then 1 else 0)) = zSm n (fun k => (m r 2 + 1) * (if decide (m (r + 7) (k : Int) = -1 ∧ (m (r + 4) (k : Int) = u ∨ m (r + 5) (k : Int) = u)) = true then 1 else 0)) + (m r 2 + 1) * (if decide (m (r + 7) (n : Int) = -1 ∧ (m (r + 4) (n : Int) = u ∨ m (r + 5) (n : Int) = u)) = true then 1 else 0) := rfl
    rw [eS, ← ih, eL]
    by_cases h : m (r + 7) (n : Int) = -1
    · rw [if_pos h]
      unfold zGl
      rw [List.map_append, zCt_app]
      congr 1
      show (if m (r + 4) (n : Int) = u ∨ m (r + 5) (n : Int) = u then m r 2 + 1 else 0) + (0 : Int) = _
      by_cases h2 : m (r + 4) (n : Int) = u ∨ m (r + 5) (n : Int) = u
      · rw [if_pos h2, decide_eq_true ⟨h, h2⟩, if_pos rfl]
        omega
      · rw [if_neg h2, decide_eq_false (fun w => h2 w.2), if_neg (by simp)]
        omega
    · rw [if_neg h, decide_eq_false (fun w => h w.1), if_neg (by simp)]
      omega
theorem zPs_Su {m : zMe} {r : Nat} {t : Int} (hW : zWf m r) (ht : 0 ≤ t ∧ t < m r 0) {d : Int} {f : Int → Int} (hf : ∀ u, 0 ≤ u → u < m r 0 → f u = zPt m r u) : ¬ zPs (m r 2) d (m r 0) t (zGl m r (zLa m r (m r 1).toNat)) f ↔ zSu m r t := by
  have hN := hW.1.2.1
  have hL : ∀ e, e ∈ zGl m r (zLa m r (m r 1).toNat) → ¬ e.1 = e.2 := fun e he => by
    obtain ⟨k, hk, rfl⟩ := List.mem_map.mp he
    have hk := zLa_in hk
    exact (hW.2.2.1 (k : Int) (by omega) (by omega)).2.2.2.1
  constructor
  · intro h u u0 u1 hu
    refine Int.not_lt.mp (fun q => h ?_)
    refine zPs_yes ⟨u0, u1⟩ hu _ hL f ?_
    rw [zCt_Own hW, hf t ht.1 ht.2, hf u u0 u1]
    exact q
  · intro h
    refine zPs_no hW.1.2.2 _ hL f (fun u u0 u1 hu => ?_)
    rw [zCt_Own hW, hf t ht.1 ht.2, hf u u0 u1]
    exact h u u0 u1 hu
