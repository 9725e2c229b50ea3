/-! tables of the reference, exact; the pair -/
/-- key of a row of the reference, and of its points -/
def zRk (m : zMe) (j : Nat) : Int := zKy (fun u => if u < m 51 0 then m 58 (6 * (j : Int) + u) else 0) 6
def zRp (m : zMe) : Int → Int := fun u => if u < m 51 0 then m 54 u else 0
/-- all but the rows is as it was -/
def zTx (m m2 : zMe) : Prop := ∀ c j, ¬ c = 58 → ¬ (c = 50 ∧ j = 17) → m2 c j = m c j
def zRo58 (m : zMe) : Prop := ∀ j : Nat, (j : Int) < m 50 17 → ∀ u, 0 ≤ u → u < m 51 0 → 0 ≤ m 58 (6 * (j : Int) + u) ∧ m 58 (6 * (j : Int) + u) < 64
set_option maxRecDepth 100000 in
set_option maxHeartbeats 1000000 in
theorem s7_nr73E {m : zMe} (r1 : 0 ≤ m 51 0 ∧ m 51 0 ≤ 6) (r2 : 0 ≤ m 50 17 ∧ m 50 17 ≤ 80) : zOk (lp f_X7_notesRow_73 600 (50, zI 0) (zM m)) (fun (_ : Unit) m1 => zTx m m1 ∧ m1 50 17 = m 50 17 + 1 ∧ (∀ j, j < 6 * m 50 17 → m1 58 j = m 58 j) ∧ ∀ u, 0 ≤ u → u < m 51 0 → m1 58 (6 * m 50 17 + u) = m 54 u) := by
  refine z_lp (fun n v m1 => ∃ i : Int, v = (50, zI i) ∧ 0 ≤ i ∧ i ≤ m 51 0 ∧ n = (m 51 0 - i).toNat ∧ (∀ c j, ¬ c = 58 → m1 c j = m c j) ∧ (∀ j, j < 6 * m 50 17 → m1 58 j = m 58 j) ∧ ∀ u, 0 ≤ u → u < i → m1 58 (6 * m 50 17 + u) = m 54 u) (fun _ _ _ m1 => zTx m m1 ∧ m1 50 17 = m 50 17 + 1 ∧ (∀ j, j < 6 * m 50 17 → m1 58 j = m 58 j) ∧ ∀ u, 0 ≤ u → u < m 51 0 → m1 58 (6 * m 50 17 + u) = m 54 u) ?_ 600 (m 51 0).toNat _ _ (by omega) ⟨0, rfl, by omega, by omega, by omega, fun _ _ _ => rfl, fun _ _ => rfl, fun u u0 u1 => by exfalso; omega⟩
  rintro n v m1 k ⟨i, rfl, h0, h1, rfl, hX, hlow, hrow⟩ hk
  have e0 : m1 51 0 = m 51 0 := hX 51 0 (by omega)
  have e17 : m1 50 17 = m 50 17 := hX 50 17 (by omega)
  have e54 : m1 54 i = m 54 i := hX 54 i (by omega)
  unfold f_X7_notesRow_73
  dsimp only
  (first
    | (with_reducible apply z_nm; (case he => repeat (with_reducible first | exact zv_l _ | exact zv_r | apply zv_add | apply zv_sub | apply zv_mul)))
    | (with_reducible apply z_I; (case h => first | with_unfolding_all rfl); (case hy => first | ((simp (disch := omega) only [zU_c, zU_e, zU_k, zF_c, zF_i, zF_o, zW_o, zW_i, zC_c, zC_i, zC_o]); rfl) | rfl))
    | (with_reducible apply z_b_R; (case h => first | with_unfolding_all rfl))
    | (with_reducible apply z_PU; (case he => repeat (with_reducible first | exact zv_l _ | exact zv_r | apply zv_add | apply zv_sub | apply zv_mul)); (case h => with_reducible first | exact zp_50_17 _))
    | (with_reducible apply z_L; (case he => repeat (with_reducible first | exact zv_l _ | exact zv_r | apply zv_add | apply zv_sub | apply zv_mul)); (case hn => with_reducible first | assumption | exact zl_6 | exact zl_17 | exact zl_51 | exact zl_54 | exact zl_58); (case h => omega); (case hy => first | ((simp (disch := omega) only [zU_c, zU_e, zU_k, zF_c, zF_i, zF_o, zW_o, zW_i, zC_c, zC_i, zC_o]); rfl) | rfl))
    | (with_reducible apply z_S; (case he => repeat (with_reducible first | exact zv_l _ | exact zv_r | apply zv_add | apply zv_sub | apply zv_mul)); (case hg => repeat (with_reducible first | exact zv_l _ | exact zv_r | apply zv_add | apply zv_sub | apply zv_mul)); (case hn => with_reducible first | assumption | exact zl_6 | exact zl_17 | exact zl_51 | exact zl_54 | exact zl_58); (case h => omega)))
  (first
    | (with_reducible apply z_nm; (case he => repeat (with_reducible first | exact zv_l _ | exact zv_r | apply zv_add | apply zv_sub | apply zv_mul)))
    | (with_reducible apply z_I; (case h => first | with_unfolding_all rfl); (case hy => first | ((simp (disch := omega) only [zU_c, zU_e, zU_k, zF_c, zF_i, zF_o, zW_o, zW_i, zC_c, zC_i, zC_o]); rfl) | rfl))
    | (with_reducible apply z_b_R; (case h => first | with_unfolding_all rfl))
    | (with_reducible apply z_PU; (case he => repeat (with_reducible first | exact zv_l _ | exact zv_r | apply zv_add | apply zv_sub | apply zv_mul)); (case h => with_reducible first | exact zp_50_17 _))
    | (with_reducible apply z_L; (case he => repeat (with_reducible first | exact zv_l _ | exact zv_r | apply zv_add | apply zv_sub | apply zv_mul)); (case hn => with_reducible first | assumption | exact zl_6 | exact zl_17 | exact zl_51 | exact zl_54 | exact zl_58); (case h => omega); (case hy => first | ((simp (disch := omega) only [zU_c, zU_e, zU_k, zF_c, zF_i, zF_o, zW_o, zW_i, zC_c, zC_i, zC_o]); rfl) | rfl))
    | (with_reducible apply z_S; (case he => repeat (with_reducible first | exact zv_l _ | exact zv_r | apply zv_add | apply zv_sub | apply zv_mul)); (case hg => repeat (with_reducible first | exact zv_l _ | exact zv_r | apply zv_add | apply zv_sub | apply zv_mul)); (case hn => with_reducible first | assumption | exact zl_6 | exact zl_17 | exact zl_51 | exact zl_54 | exact zl_58); (case h => omega)))
  (first
    | (with_reducible apply z_B; all_goals (intro _; try (exfalso; omega)))
    | (with_reducible apply z_E; all_goals intro _)
    | (with_reducible apply z_lt; (case ha => repeat (with_reducible first | exact zv_l _ | exact zv_r | apply zv_add | apply zv_sub | apply zv_mul)); (case hb => repeat (with_reducible first | exact zv_l _ | exact zv_r | apply zv_add | apply zv_sub | apply zv_mul)); (case hx => omega); (case hy => omega); all_goals (intro _; try (exfalso; omega)))
    | (with_reducible apply z_le; (case ha => repeat (with_reducible first | exact zv_l _ | exact zv_r | apply zv_add | apply zv_sub | apply zv_mul)); (case hb => repeat (with_reducible first | exact zv_l _ | exact zv_r | apply zv_add | apply zv_sub | apply zv_mul)); (case hx => omega); (case hy => omega); all_goals (intro _; try (exfalso; omega)))
    | (with_reducible apply z_eq; (case ha => repeat (with_reducible first | exact zv_l _ | exact zv_r | apply zv_add | apply zv_sub | apply zv_mul)); (case hb => repeat (with_reducible first | exact zv_l _ | exact zv_r | apply zv_add | apply zv_sub | apply zv_mul)); (case hx => omega); (case hy => omega); all_goals (intro _; try (exfalso; omega))))
  · (first
    | (with_reducible apply z_nm; (case he => repeat (with_reducible first | exact zv_l _ | exact zv_r | apply zv_add | apply zv_sub | apply zv_mul)))
    | (with_reducible apply z_I; (case h => first | with_unfolding_all rfl); (case hy => first | ((simp (disch := omega) only [zU_c, zU_e, zU_k, zF_c, zF_i, zF_o, zW_o, zW_i, zC_c, zC_i, zC_o]); rfl) | rfl))
    | (with_reducible apply z_b_R; (case h => first | with_unfolding_all rfl))
    | (with_reducible apply z_PU; (case he => repeat (with_reducible first | exact zv_l _ | exact zv_r | apply zv_add | apply zv_sub | apply zv_mul)); (case h => with_reducible first | exact zp_50_17 _))
    | (with_reducible apply z_L; (case he => repeat (with_reducible first | exact zv_l _ | exact zv_r | apply zv_add | apply zv_sub | apply zv_mul)); (case hn => with_reducible first | assumption | exact zl_6 | exact zl_17 | exact zl_51 | exact zl_54 | exact zl_58); (case h => omega); (case hy => first | ((simp (disch := omega) only [zU_c, zU_e, zU_k, zF_c, zF_i, zF_o, zW_o, zW_i, zC_c, zC_i, zC_o]); rfl) | rfl))
    | (with_reducible apply z_S; (case he => repeat (with_reducible first | exact zv_l _ | exact zv_r | apply zv_add | apply zv_sub | apply zv_mul)); (case hg => repeat (with_reducible first | exact zv_l _ | exact zv_r | apply zv_add | apply zv_sub | apply zv_mul)); (case hn => with_reducible first | assumption | exact zl_6 | exact zl_17 | exact zl_51 | exact zl_54 | exact zl_58); (case h => omega)))
    (first
    | (with_reducible apply z_nm; (case he => repeat (with_reducible first | exact zv_l _ | exact zv_r | apply zv_add | apply zv_sub | apply zv_mul)))
    | (with_reducible apply z_I; (case h => first | with_unfolding_all rfl); (case hy => first | ((simp (disch := omega) only [zU_c, zU_e, zU_k, zF_c, zF_i, zF_o, zW_o, zW_i, zC_c, zC_i, zC_o]); rfl) | rfl))
    | (with_reducible apply z_b_R; (case h => first | with_unfolding_all rfl))
    | (with_reducible apply z_PU; (case he => repeat (with_reducible first | exact zv_l _ | exact zv_r | apply zv_add | apply zv_sub | apply zv_mul)); (case h => with_reducible first | exact zp_50_17 _))
    | (with_reducible apply z_L; (case he => repeat (with_reducible first | exact zv_l _ | exact zv_r | apply zv_add | apply zv_sub | apply zv_mul)); (case hn => with_reducible first | assumption | exact zl_6 | exact zl_17 | exact zl_51 | exact zl_54 | exact zl_58); (case h => omega); (case hy => first | ((simp (disch := omega) only [zU_c, zU_e, zU_k, zF_c, zF_i, zF_o, zW_o, zW_i, zC_c, zC_i, zC_o]); rfl) | rfl))
    | (with_reducible apply z_S; (case he => repeat (with_reducible first | exact zv_l _ | exact zv_r | apply zv_add | apply zv_sub | apply zv_mul)); (case hg => repeat (with_reducible first | exact zv_l _ | exact zv_r | apply zv_add | apply zv_sub | apply zv_mul)); (case hn => with_reducible first | assumption | exact zl_6 | exact zl_17 | exact zl_51 | exact zl_54 | exact zl_58); (case h => omega)))
    refine ⟨_, _, rfl, fun c j a b => ?_, ?_, fun j hj => ?_, fun u u0 u1 => ?_⟩
    · by_cases h50 : c = 50
      · subst h50
        rw [zU_k (by omega), hX _ _ a]
      · rw [zU_c h50, hX _ _ a]
    · rw [zU_e, e17]
    · rw [zU_c (by omega)]
      exact hlow j hj
    · rw [zU_c (by omega)]
      exact hrow u u0 (by omega)
  · (first
    | (with_reducible apply z_nm; (case he => repeat (with_reducible first | exact zv_l _ | exact zv_r | apply zv_add | apply zv_sub | apply zv_mul)))
    | (with_reducible apply z_I; (case h => first | with_unfolding_all rfl); (case hy => first | ((simp (disch := omega) only [zU_c, zU_e, zU_k, zF_c, zF_i, zF_o, zW_o, zW_i, zC_c, zC_i, zC_o]); rfl) | rfl))
    | (with_reducible apply z_b_R; (case h => first | with_unfolding_all rfl))
    | (with_reducible apply z_PU; (case he => repeat (with_reducible first | exact zv_l _ | exact zv_r | apply zv_add | apply zv_sub | apply zv_mul)); (case h => with_reducible first | exact zp_50_17 _))
    | (with_reducible apply z_L; (case he => repeat (with_reducible first | exact zv_l _ | exact zv_r | apply zv_add | apply zv_sub | apply zv_mul)); (case hn => with_reducible first | assumption | exact zl_6 | exact zl_17 | exact zl_51 | exact zl_54 | exact zl_58); (case h => omega); (case hy => first | ((simp (disch := omega) only [zU_c, zU_e, zU_k, zF_c, zF_i, zF_o, zW_o, zW_i, zC_c, zC_i, zC_o]); rfl) | rfl))
    | (with_reducible apply z_S; (case he => repeat (with_reducible first | exact zv_l _ | exact zv_r | apply zv_add | apply zv_sub | apply zv_mul)); (case hg => repeat (with_reducible first | exact zv_l _ | exact zv_r | apply zv_add | apply zv_sub | apply zv_mul)); (case hn => with_reducible first | assumption | exact zl_6 | exact zl_17 | exact zl_51 | exact zl_54 | exact zl_58); (case h => omega)))
    (first
    | (with_reducible apply z_nm; (case he => repeat (with_reducible first | exact zv_l _ | exact zv_r | apply zv_add | apply zv_sub | apply zv_mul)))
    | (with_reducible apply z_I; (case h => first | with_unfolding_all rfl); (case hy => first | ((simp (disch := omega) only [zU_c, zU_e, zU_k, zF_c, zF_i, zF_o, zW_o, zW_i, zC_c, zC_i, zC_o]); rfl) | rfl))
    | (with_reducible apply z_b_R; (case h => first | with_unfolding_all rfl))
    | (with_reducible apply z_PU; (case he => repeat (with_reducible first | exact zv_l _ | exact zv_r | apply zv_add | apply zv_sub | apply zv_mul)); (case h => with_reducible first | exact zp_50_17 _))
    | (with_reducible apply z_L; (case he => repeat (with_reducible first | exact zv_l _ | exact zv_r | apply zv_add | apply zv_sub | apply zv_mul)); (case hn => with_reducible first | assumption | exact zl_6 | exact zl_17 | exact zl_51 | exact zl_54 | exact zl_58); (case h => omega); (case hy => first | ((simp (disch := omega) only [zU_c, zU_e, zU_k, zF_c, zF_i, zF_o, zW_o, zW_i, zC_c, zC_i, zC_o]); rfl) | rfl))
    | (with_reducible apply z_S; (case he => repeat (with_reducible first | exact zv_l _ | exact zv_r | apply zv_add | apply zv_sub | apply zv_mul)); (case hg => repeat (with_reducible first | exact zv_l _ | exact zv_r | apply zv_add | apply zv_sub | apply zv_mul)); (case hn => with_reducible first | assumption | exact zl_6 | exact zl_17 | exact zl_51 | exact zl_54 | exact zl_58); (case h => omega)))
    (first
    | (with_reducible apply z_nm; (case he => repeat (with_reducible first | exact zv_l _ | exact zv_r | apply zv_add | apply zv_sub | apply zv_mul)))
    | (with_reducible apply z_I; (case h => first | with_unfolding_all rfl); (case hy => first | ((simp (disch := omega) only [zU_c, zU_e, zU_k, zF_c, zF_i, zF_o, zW_o, zW_i, zC_c, zC_i, zC_o]); rfl) | rfl))
    | (with_reducible apply z_b_R; (case h => first | with_unfolding_all rfl))
    | (with_reducible apply z_PU; (case he => repeat (with_reducible first | exact zv_l _ | exact zv_r | apply zv_add | apply zv_sub | apply zv_mul)); (case h => with_reducible first | exact zp_50_17 _))
    | (with_reducible apply z_L; (case he => repeat (with_reducible first | exact zv_l _ | exact zv_r | apply zv_add | apply zv_sub | apply zv_mul)); (case hn => with_reducible first | assumption | exact zl_6 | exact zl_17 | exact zl_51 | exact zl_54 | exact zl_58); (case h => omega); (case hy => first | ((simp (disch := omega) only [zU_c, zU_e, zU_k, zF_c, zF_i, zF_o, zW_o, zW_i, zC_c, zC_i, zC_o]); rfl) | rfl))
    | (with_reducible apply z_S; (case he => repeat (with_reducible first | exact zv_l _ | exact zv_r | apply zv_add | apply zv_sub | apply zv_mul)); (case hg => repeat (with_reducible first | exact zv_l _ | exact zv_r | apply zv_add | apply zv_sub | apply zv_mul)); (case hn => with_reducible first | assumption | exact zl_6 | exact zl_17 | exact zl_51 | exact zl_54 | exact zl_58); (case h => omega)))
    (first
    | (with_reducible apply z_nm; (case he => repeat (with_reducible first | exact zv_l _ | exact zv_r | apply zv_add | apply zv_sub | apply zv_mul)))
    | (with_reducible apply z_I; (case h => first | with_unfolding_all rfl); (case hy => first | ((simp (disch := omega) only [zU_c, zU_e, zU_k, zF_c, zF_i, zF_o, zW_o, zW_i, zC_c, zC_i, zC_o]); rfl) | rfl))
    | (with_reducible apply z_b_R; (case h => first | with_unfolding_all rfl))
    | (with_reducible apply z_PU; (case he => repeat (with_reducible first | exact zv_l _ | exact zv_r | apply zv_add | apply zv_sub | apply zv_mul)); (case h => with_reducible first | exact zp_50_17 _))
    | (with_reducible apply z_L; (case he => repeat (with_reducible first | exact zv_l _ | exact zv_r | apply zv_add | apply zv_sub | apply zv_mul)); (case hn => with_reducible first | assumption | exact zl_6 | exact zl_17 | exact zl_51 | exact zl_54 | exact zl_58); (case h => omega); (case hy => first | ((simp (disch := omega) only [zU_c, zU_e, zU_k, zF_c, zF_i, zF_o, zW_o, zW_i, zC_c, zC_i, zC_o]); rfl) | rfl))
    | (with_reducible apply z_S; (case he => repeat (with_reducible first | exact zv_l _ | exact zv_r | apply zv_add | apply zv_sub | apply zv_mul)); (case hg => repeat (with_reducible first | exact zv_l _ | exact zv_r | apply zv_add | apply zv_sub | apply zv_mul)); (case hn => with_reducible first | assumption | exact zl_6 | exact zl_17 | exact zl_51 | exact zl_54 | exact zl_58); (case h => omega)))
    refine z_S (x := 6 * m1 50 17 + i) (zv_add (zv_mul (zv_l 6) rfl) rfl) rfl zl_58 (by omega) ?_
    (first
    | (with_reducible apply z_nm; (case he => repeat (with_reducible first | exact zv_l _ | exact zv_r | apply zv_add | apply zv_sub | apply zv_mul)))
    | (with_reducible apply z_I; (case h => first | with_unfolding_all rfl); (case hy => first | ((simp (disch := omega) only [zU_c, zU_e, zU_k, zF_c, zF_i, zF_o, zW_o, zW_i, zC_c, zC_i, zC_o]); rfl) | rfl))
    | (with_reducible apply z_b_R; (case h => first | with_unfolding_all rfl))
    | (with_reducible apply z_PU; (case he => repeat (with_reducible first | exact zv_l _ | exact zv_r | apply zv_add | apply zv_sub | apply zv_mul)); (case h => with_reducible first | exact zp_50_17 _))
    | (with_reducible apply z_L; (case he => repeat (with_reducible first | exact zv_l _ | exact zv_r | apply zv_add | apply zv_sub | apply zv_mul)); (case hn => with_reducible first | assumption | exact zl_6 | exact zl_17 | exact zl_51 | exact zl_54 | exact zl_58); (case h => omega); (case hy => first | ((simp (disch := omega) only [zU_c, zU_e, zU_k, zF_c, zF_i, zF_o, zW_o, zW_i, zC_c, zC_i, zC_o]); rfl) | rfl))
    | (with_reducible apply z_S; (case he => repeat (with_reducible first | exact zv_l _ | exact zv_r | apply zv_add | apply zv_sub | apply zv_mul)); (case hg => repeat (with_reducible first | exact zv_l _ | exact zv_r | apply zv_add | apply zv_sub | apply zv_mul)); (case hn => with_reducible first | assumption | exact zl_6 | exact zl_17 | exact zl_51 | exact zl_54 | exact zl_58); (case h => omega)))
    refine hk _ _ _ (by omega) ⟨i + 1, rfl, by omega, by omega, rfl, fun c j hc => ?_, fun j hj => ?_, fun u u0 u1 => ?_⟩
    · rw [zU_c hc, hX _ _ hc]
    · rw [zU_k (by omega)]
      exact hlow j hj
    · by_cases hu : u = i
      · subst hu
        rw [e17, zU_e]
        exact e54
      · rw [zU_k (by omega)]
        exact hrow u u0 (by omega)
set_option maxRecDepth 100000 in
set_option maxHeartbeats 1000000 in
theorem s7_notesRowE {m : zMe} (r1 : 0 ≤ m 51 0 ∧ m 51 0 ≤ 6) (r2 : 0 ≤ m 50 17 ∧ m 50 17 ≤ 80) (hp : ∀ u, 0 ≤ u → u < m 51 0 → 0 ≤ m 54 u ∧ m 54 u < 64) (hs : zRo58 m) : zOk (f_X7_notesRow 50 (zM m)) (fun (_ : Unit) m1 => ((∃ j : Nat, (j : Int) < m 50 17 ∧ ∀ u, 0 ≤ u → u < m 51 0 → m 58 (6 * (j : Int) + u) = m 54 u) ∧ m1 = m) ∨ ((¬ ∃ j : Nat, (j : Int) < m 50 17 ∧ ∀ u, 0 ≤ u → u < m 51 0 → m 58 (6 * (j : Int) + u) = m 54 u) ∧ zTx m m1 ∧ m1 50 17 = m 50 17 + 1 ∧ (∀ j, j < 6 * m 50 17 → m1 58 j = m 58 j) ∧ ∀ u, 0 ≤ u → u < m 51 0 → m1 58 (6 * m 50 17 + u) = m 54 u)) := by
  unfold f_X7_notesRow
  (first
    | (with_reducible apply z_nm; (case he => repeat (with_reducible first | exact zv_l _ | exact zv_r | apply zv_add | apply zv_sub | apply zv_mul)))
    | (with_reducible apply z_b_ck; (case h => with_unfolding_all rfl))
    | (with_reducible apply z_I; (case h => first | with_unfolding_all rfl); (case hy => first | ((simp (disch := omega) only [zU_c, zU_e, zU_k, zF_c, zF_i, zF_o, zW_o, zW_i, zC_c, zC_i, zC_o]); rfl) | rfl))
    | (with_reducible apply z_b_R; (case h => first | with_unfolding_all rfl))
    | (with_reducible apply z_L; (case he => repeat (with_reducible first | exact zv_l _ | exact zv_r | apply zv_add | apply zv_sub | apply zv_mul)); (case hn => with_reducible first | assumption | exact zl_6 | exact zl_17 | exact zl_51 | exact zl_54 | exact zl_58); (case h => omega); (case hy => first | ((simp (disch := omega) only [zU_c, zU_e, zU_k, zF_c, zF_i, zF_o, zW_o, zW_i, zC_c, zC_i, zC_o]); rfl) | rfl))
    | (with_reducible apply z_7notesRow; (case r1 => first | omega | ((simp (disch := omega) only [zU_c, zU_e, zU_k, zF_c, zF_i, zF_o, zW_o, zW_i, zC_c, zC_i, zC_o]); omega)); (case r2 => first | omega | ((simp (disch := omega) only [zU_c, zU_e, zU_k, zF_c, zF_i, zF_o, zW_o, zW_i, zC_c, zC_i, zC_o]); omega)); intro _ _ _))
  refine z_lp (fun n v m1 => ∃ i : Nat, v = (50, zI (i : Int)) ∧ (i : Int) ≤ m 50 17 ∧ n = (m 50 17 - i).toNat ∧ m1 = m ∧ ∀ j : Nat, j < i → ¬ ∀ u, 0 ≤ u → u < m 51 0 → m 58 (6 * (j : Int) + u) = m 54 u) (fun _ _ _ m1 => ((∃ j : Nat, (j : Int) < m 50 17 ∧ ∀ u, 0 ≤ u → u < m 51 0 → m 58 (6 * (j : Int) + u) = m 54 u) ∧ m1 = m) ∨ ((¬ ∃ j : Nat, (j : Int) < m 50 17 ∧ ∀ u, 0 ≤ u → u < m 51 0 → m 58 (6 * (j : Int) + u) = m 54 u) ∧ zTx m m1 ∧ m1 50 17 = m 50 17 + 1 ∧ (∀ j, j < 6 * m 50 17 → m1 58 j = m 58 j) ∧ ∀ u, 0 ≤ u → u < m 51 0 → m1 58 (6 * m 50 17 + u) = m 54 u)) ?_ 600 (m 50 17).toNat _ _ (by omega) ⟨0, rfl, by omega, by omega, rfl, fun j hj => absurd hj (by omega)⟩
  rintro n v m1 k ⟨i, rfl, h1, rfl, rfl, hno⟩ hk
  unfold f_X7_notesRow_2
  dsimp only
  (first
    | (with_reducible apply z_nm; (case he => repeat (with_reducible first | exact zv_l _ | exact zv_r | apply zv_add | apply zv_sub | apply zv_mul)))
    | (with_reducible apply z_b_ck; (case h => with_unfolding_all rfl))
    | (with_reducible apply z_I; (case h => first | with_unfolding_all rfl); (case hy => first | ((simp (disch := omega) only [zU_c, zU_e, zU_k, zF_c, zF_i, zF_o, zW_o, zW_i, zC_c, zC_i, zC_o]); rfl) | rfl))
    | (with_reducible apply z_b_R; (case h => first | with_unfolding_all rfl))
    | (with_reducible apply z_L; (case he => repeat (with_reducible first | exact zv_l _ | exact zv_r | apply zv_add | apply zv_sub | apply zv_mul)); (case hn => with_reducible first | assumption | exact zl_6 | exact zl_17 | exact zl_51 | exact zl_54 | exact zl_58); (case h => omega); (case hy => first | ((simp (disch := omega) only [zU_c, zU_e, zU_k, zF_c, zF_i, zF_o, zW_o, zW_i, zC_c, zC_i, zC_o]); rfl) | rfl))
    | (with_reducible apply z_7notesRow; (case r1 => first | omega | ((simp (disch := omega) only [zU_c, zU_e, zU_k, zF_c, zF_i, zF_o, zW_o, zW_i, zC_c, zC_i, zC_o]); omega)); (case r2 => first | omega | ((simp (disch := omega) only [zU_c, zU_e, zU_k, zF_c, zF_i, zF_o, zW_o, zW_i, zC_c, zC_i, zC_o]); omega)); intro _ _ _))
  refine z_le (x := m1 50 17) (y := (i : Int)) rfl rfl (by omega) (by omega) (fun hle => ?_) (fun hle => ?_)
  · refine (s7_nr73E r1 r2).mono (fun _ m2 h => Or.inr ⟨fun q => ?_, h⟩)
    obtain ⟨j, hj, e⟩ := q
    exact hno j (by omega) e
  · refine z_lp (fun n v m2 => ∃ s j : Int, v = (50, zI (i : Int), zI s, zI j) ∧ (s = 0 ∨ s = 1) ∧ 0 ≤ j ∧ j ≤ m1 51 0 ∧ n = (m1 51 0 - j).toNat ∧ m2 = m1 ∧ (s = 1 ↔ ∀ u, 0 ≤ u → u < j → m1 58 (6 * (i : Int) + u) = m1 54 u)) (fun _ _ _ m2 => ((∃ j : Nat, (j : Int) < m1 50 17 ∧ ∀ u, 0 ≤ u → u < m1 51 0 → m1 58 (6 * (j : Int) + u) = m1 54 u) ∧ m2 = m1) ∨ ((¬ ∃ j : Nat, (j : Int) < m1 50 17 ∧ ∀ u, 0 ≤ u → u < m1 51 0 → m1 58 (6 * (j : Int) + u) = m1 54 u) ∧ zTx m1 m2 ∧ m2 50 17 = m1 50 17 + 1 ∧ (∀ j, j < 6 * m1 50 17 → m2 58 j = m1 58 j) ∧ ∀ u, 0 ≤ u → u < m1 51 0 → m2 58 (6 * m1 50 17 + u) = m1 54 u)) ?_ 600 (m1 51 0).toNat _ _ (by omega) ⟨1, 0, rfl, Or.inr rfl, by omega, by omega, by omega, rfl, ⟨fun _ u u0 u1 => by exfalso; omega, fun _ => rfl⟩⟩
    rintro n v m2 k2 ⟨s, j, rfl, hs01, j0, j1, rfl, rfl, hseq⟩ hk2
    unfold f_X7_notesRow_14
    dsimp only
    (first
    | (with_reducible apply z_nm; (case he => repeat (with_reducible first | exact zv_l _ | exact zv_r | apply zv_add | apply zv_sub | apply zv_mul)))
    | (with_reducible apply z_b_ck; (case h => with_unfolding_all rfl))
    | (with_reducible apply z_I; (case h => first | with_unfolding_all rfl); (case hy => first | ((simp (disch := omega) only [zU_c, zU_e, zU_k, zF_c, zF_i, zF_o, zW_o, zW_i, zC_c, zC_i, zC_o]); rfl) | rfl))
    | (with_reducible apply z_b_R; (case h => first | with_unfolding_all rfl))
    | (with_reducible apply z_L; (case he => repeat (with_reducible first | exact zv_l _ | exact zv_r | apply zv_add | apply zv_sub | apply zv_mul)); (case hn => with_reducible first | assumption | exact zl_6 | exact zl_17 | exact zl_51 | exact zl_54 | exact zl_58); (case h => omega); (case hy => first | ((simp (disch := omega) only [zU_c, zU_e, zU_k, zF_c, zF_i, zF_o, zW_o, zW_i, zC_c, zC_i, zC_o]); rfl) | rfl))
    | (with_reducible apply z_7notesRow; (case r1 => first | omega | ((simp (disch := omega) only [zU_c, zU_e, zU_k, zF_c, zF_i, zF_o, zW_o, zW_i, zC_c, zC_i, zC_o]); omega)); (case r2 => first | omega | ((simp (disch := omega) only [zU_c, zU_e, zU_k, zF_c, zF_i, zF_o, zW_o, zW_i, zC_c, zC_i, zC_o]); omega)); intro _ _ _))
    (first
    | (with_reducible apply z_nm; (case he => repeat (with_reducible first | exact zv_l _ | exact zv_r | apply zv_add | apply zv_sub | apply zv_mul)))
    | (with_reducible apply z_b_ck; (case h => with_unfolding_all rfl))
    | (with_reducible apply z_I; (case h => first | with_unfolding_all rfl); (case hy => first | ((simp (disch := omega) only [zU_c, zU_e, zU_k, zF_c, zF_i, zF_o, zW_o, zW_i, zC_c, zC_i, zC_o]); rfl) | rfl))
    | (with_reducible apply z_b_R; (case h => first | with_unfolding_all rfl))
    | (with_reducible apply z_L; (case he => repeat (with_reducible first | exact zv_l _ | exact zv_r | apply zv_add | apply zv_sub | apply zv_mul)); (case hn => with_reducible first | assumption | exact zl_6 | exact zl_17 | exact zl_51 | exact zl_54 | exact zl_58); (case h => omega); (case hy => first | ((simp (disch := omega) only [zU_c, zU_e, zU_k, zF_c, zF_i, zF_o, zW_o, zW_i, zC_c, zC_i, zC_o]); rfl) | rfl))
    | (with_reducible apply z_7notesRow; (case r1 => first | omega | ((simp (disch := omega) only [zU_c, zU_e, zU_k, zF_c, zF_i, zF_o, zW_o, zW_i, zC_c, zC_i, zC_o]); omega)); (case r2 => first | omega | ((simp (disch := omega) only [zU_c, zU_e, zU_k, zF_c, zF_i, zF_o, zW_o, zW_i, zC_c, zC_i, zC_o]); omega)); intro _ _ _))
    refine z_le (x := m2 51 0) (y := j) rfl rfl (by omega) (by omega) (fun hTj => ?_) (fun hTj => ?_)
    · have ej : j = m2 51 0 := by omega
      rw [ej] at hseq
      refine z_eq (x := s) (y := 0) rfl rfl (by omega) (by omega) (fun h0 => ?_) (fun h0 => ?_)
      · repeat' (first
    | (with_reducible apply z_nm; (case he => repeat (with_reducible first | exact zv_l _ | exact zv_r | apply zv_add | apply zv_sub | apply zv_mul)))
    | (with_reducible apply z_b_ck; (case h => with_unfolding_all rfl))
    | (with_reducible apply z_I; (case h => first | with_unfolding_all rfl); (case hy => first | ((simp (disch := omega) only [zU_c, zU_e, zU_k, zF_c, zF_i, zF_o, zW_o, zW_i, zC_c, zC_i, zC_o]); rfl) | rfl))
    | (with_reducible apply z_b_R; (case h => first | with_unfolding_all rfl))
    | (with_reducible apply z_L; (case he => repeat (with_reducible first | exact zv_l _ | exact zv_r | apply zv_add | apply zv_sub | apply zv_mul)); (case hn => with_reducible first | assumption | exact zl_6 | exact zl_17 | exact zl_51 | exact zl_54 | exact zl_58); (case h => omega); (case hy => first | ((simp (disch := omega) only [zU_c, zU_e, zU_k, zF_c, zF_i, zF_o, zW_o, zW_i, zC_c, zC_i, zC_o]); rfl) | rfl))
    | (with_reducible apply z_7notesRow; (case r1 => first | omega | ((simp (disch := omega) only [zU_c, zU_e, zU_k, zF_c, zF_i, zF_o, zW_o, zW_i, zC_c, zC_i, zC_o]); omega)); (case r2 => first | omega | ((simp (disch := omega) only [zU_c, zU_e, zU_k, zF_c, zF_i, zF_o, zW_o, zW_i, zC_c, zC_i, zC_o]); omega)); intro _ _ _))
        refine hk _ _ _ (by omega) ⟨i + 1, rfl, by omega, rfl, rfl, fun j' hj' e => ?_⟩
        by_cases hji : j' = i
        · subst hji
          have := hseq.mpr e
          omega
        · exact hno j' (by omega) e
      · have hlt : (i : Int) < m2 50 17 := by omega
        exact ⟨_, _, rfl, Or.inl ⟨⟨i, hlt, hseq.mp (by omega)⟩, rfl⟩⟩
    · refine z_eq (x := s) (y := 0) rfl rfl (by omega) (by omega) (fun h0 => ?_) (fun h0 => ?_)
      · repeat' (first
    | (with_reducible apply z_nm; (case he => repeat (with_reducible first | exact zv_l _ | exact zv_r | apply zv_add | apply zv_sub | apply zv_mul)))
    | (with_reducible apply z_b_ck; (case h => with_unfolding_all rfl))
    | (with_reducible apply z_I; (case h => first | with_unfolding_all rfl); (case hy => first | ((simp (disch := omega) only [zU_c, zU_e, zU_k, zF_c, zF_i, zF_o, zW_o, zW_i, zC_c, zC_i, zC_o]); rfl) | rfl))
    | (with_reducible apply z_b_R; (case h => first | with_unfolding_all rfl))
    | (with_reducible apply z_L; (case he => repeat (with_reducible first | exact zv_l _ | exact zv_r | apply zv_add | apply zv_sub | apply zv_mul)); (case hn => with_reducible first | assumption | exact zl_6 | exact zl_17 | exact zl_51 | exact zl_54 | exact zl_58); (case h => omega); (case hy => first | ((simp (disch := omega) only [zU_c, zU_e, zU_k, zF_c, zF_i, zF_o, zW_o, zW_i, zC_c, zC_i, zC_o]); rfl) | rfl))
    | (with_reducible apply z_7notesRow; (case r1 => first | omega | ((simp (disch := omega) only [zU_c, zU_e, zU_k, zF_c, zF_i, zF_o, zW_o, zW_i, zC_c, zC_i, zC_o]); omega)); (case r2 => first | omega | ((simp (disch := omega) only [zU_c, zU_e, zU_k, zF_c, zF_i, zF_o, zW_o, zW_i, zC_c, zC_i, zC_o]); omega)); intro _ _ _))
        refine hk2 _ _ _ (by omega) ⟨0, j + 1, rfl, Or.inl rfl, by omega, by omega, rfl, rfl, ⟨fun q => by exfalso; omega, fun q => ?_⟩⟩
        have := hseq.mpr (fun u u0 u1 => q u u0 (by omega))
        omega
      · have hq1 := hseq.mp (by omega)
        have h58 := hs i (by omega) j j0 (by omega)
        have h54 := hp j j0 (by omega)
        (first
    | (with_reducible apply z_nm; (case he => repeat (with_reducible first | exact zv_l _ | exact zv_r | apply zv_add | apply zv_sub | apply zv_mul)))
    | (with_reducible apply z_b_ck; (case h => with_unfolding_all rfl))
    | (with_reducible apply z_I; (case h => first | with_unfolding_all rfl); (case hy => first | ((simp (disch := omega) only [zU_c, zU_e, zU_k, zF_c, zF_i, zF_o, zW_o, zW_i, zC_c, zC_i, zC_o]); rfl) | rfl))
    | (with_reducible apply z_b_R; (case h => first | with_unfolding_all rfl))
    | (with_reducible apply z_L; (case he => repeat (with_reducible first | exact zv_l _ | exact zv_r | apply zv_add | apply zv_sub | apply zv_mul)); (case hn => with_reducible first | assumption | exact zl_6 | exact zl_17 | exact zl_51 | exact zl_54 | exact zl_58); (case h => omega); (case hy => first | ((simp (disch := omega) only [zU_c, zU_e, zU_k, zF_c, zF_i, zF_o, zW_o, zW_i, zC_c, zC_i, zC_o]); rfl) | rfl))
    | (with_reducible apply z_7notesRow; (case r1 => first | omega | ((simp (disch := omega) only [zU_c, zU_e, zU_k, zF_c, zF_i, zF_o, zW_o, zW_i, zC_c, zC_i, zC_o]); omega)); (case r2 => first | omega | ((simp (disch := omega) only [zU_c, zU_e, zU_k, zF_c, zF_i, zF_o, zW_o, zW_i, zC_c, zC_i, zC_o]); omega)); intro _ _ _))
        refine z_L (x := 6 * (i : Int) + j) (y := m2 58 (6 * (i : Int) + j)) (zv_add (zv_mul (zv_l 6) rfl) rfl) zl_58 (by omega) rfl ?_
        (first
    | (with_reducible apply z_nm; (case he => repeat (with_reducible first | exact zv_l _ | exact zv_r | apply zv_add | apply zv_sub | apply zv_mul)))
    | (with_reducible apply z_b_ck; (case h => with_unfolding_all rfl))
    | (with_reducible apply z_I; (case h => first | with_unfolding_all rfl); (case hy => first | ((simp (disch := omega) only [zU_c, zU_e, zU_k, zF_c, zF_i, zF_o, zW_o, zW_i, zC_c, zC_i, zC_o]); rfl) | rfl))
    | (with_reducible apply z_b_R; (case h => first | with_unfolding_all rfl))
    | (with_reducible apply z_L; (case he => repeat (with_reducible first | exact zv_l _ | exact zv_r | apply zv_add | apply zv_sub | apply zv_mul)); (case hn => with_reducible first | assumption | exact zl_6 | exact zl_17 | exact zl_51 | exact zl_54 | exact zl_58); (case h => omega); (case hy => first | ((simp (disch := omega) only [zU_c, zU_e, zU_k, zF_c, zF_i, zF_o, zW_o, zW_i, zC_c, zC_i, zC_o]); rfl) | rfl))
    | (with_reducible apply z_7notesRow; (case r1 => first | omega | ((simp (disch := omega) only [zU_c, zU_e, zU_k, zF_c, zF_i, zF_o, zW_o, zW_i, zC_c, zC_i, zC_o]); omega)); (case r2 => first | omega | ((simp (disch := omega) only [zU_c, zU_e, zU_k, zF_c, zF_i, zF_o, zW_o, zW_i, zC_c, zC_i, zC_o]); omega)); intro _ _ _))
        (first
    | (with_reducible apply z_nm; (case he => repeat (with_reducible first | exact zv_l _ | exact zv_r | apply zv_add | apply zv_sub | apply zv_mul)))
    | (with_reducible apply z_b_ck; (case h => with_unfolding_all rfl))
    | (with_reducible apply z_I; (case h => first | with_unfolding_all rfl); (case hy => first | ((simp (disch := omega) only [zU_c, zU_e, zU_k, zF_c, zF_i, zF_o, zW_o, zW_i, zC_c, zC_i, zC_o]); rfl) | rfl))
    | (with_reducible apply z_b_R; (case h => first | with_unfolding_all rfl))
    | (with_reducible apply z_L; (case he => repeat (with_reducible first | exact zv_l _ | exact zv_r | apply zv_add | apply zv_sub | apply zv_mul)); (case hn => with_reducible first | assumption | exact zl_6 | exact zl_17 | exact zl_51 | exact zl_54 | exact zl_58); (case h => omega); (case hy => first | ((simp (disch := omega) only [zU_c, zU_e, zU_k, zF_c, zF_i, zF_o, zW_o, zW_i, zC_c, zC_i, zC_o]); rfl) | rfl))
    | (with_reducible apply z_7notesRow; (case r1 => first | omega | ((simp (disch := omega) only [zU_c, zU_e, zU_k, zF_c, zF_i, zF_o, zW_o, zW_i, zC_c, zC_i, zC_o]); omega)); (case r2 => first | omega | ((simp (disch := omega) only [zU_c, zU_e, zU_k, zF_c, zF_i, zF_o, zW_o, zW_i, zC_c, zC_i, zC_o]); omega)); intro _ _ _))
        refine z_eq (x := m2 58 (6 * (i : Int) + j)) (y := m2 54 j) rfl rfl (by omega) (by omega) (fun he => ?_) (fun he => ?_)
        · repeat' (first
    | (with_reducible apply z_nm; (case he => repeat (with_reducible first | exact zv_l _ | exact zv_r | apply zv_add | apply zv_sub | apply zv_mul)))
    | (with_reducible apply z_b_ck; (case h => with_unfolding_all rfl))
    | (with_reducible apply z_I; (case h => first | with_unfolding_all rfl); (case hy => first | ((simp (disch := omega) only [zU_c, zU_e, zU_k, zF_c, zF_i, zF_o, zW_o, zW_i, zC_c, zC_i, zC_o]); rfl) | rfl))
    | (with_reducible apply z_b_R; (case h => first | with_unfolding_all rfl))
    | (with_reducible apply z_L; (case he => repeat (with_reducible first | exact zv_l _ | exact zv_r | apply zv_add | apply zv_sub | apply zv_mul)); (case hn => with_reducible first | assumption | exact zl_6 | exact zl_17 | exact zl_51 | exact zl_54 | exact zl_58); (case h => omega); (case hy => first | ((simp (disch := omega) only [zU_c, zU_e, zU_k, zF_c, zF_i, zF_o, zW_o, zW_i, zC_c, zC_i, zC_o]); rfl) | rfl))
    | (with_reducible apply z_7notesRow; (case r1 => first | omega | ((simp (disch := omega) only [zU_c, zU_e, zU_k, zF_c, zF_i, zF_o, zW_o, zW_i, zC_c, zC_i, zC_o]); omega)); (case r2 => first | omega | ((simp (disch := omega) only [zU_c, zU_e, zU_k, zF_c, zF_i, zF_o, zW_o, zW_i, zC_c, zC_i, zC_o]); omega)); intro _ _ _))
          refine hk2 _ _ _ (by omega) ⟨1, j + 1, rfl, Or.inr rfl, by omega, by omega, rfl, rfl, ⟨fun _ u u0 u1 => ?_, fun _ => rfl⟩⟩
          by_cases hu : u = j
          · rw [hu]
            exact he
          · exact hq1 u u0 (by omega)
        · repeat' (first
    | (with_reducible apply z_nm; (case he => repeat (with_reducible first | exact zv_l _ | exact zv_r | apply zv_add | apply zv_sub | apply zv_mul)))
    | (with_reducible apply z_b_ck; (case h => with_unfolding_all rfl))
    | (with_reducible apply z_I; (case h => first | with_unfolding_all rfl); (case hy => first | ((simp (disch := omega) only [zU_c, zU_e, zU_k, zF_c, zF_i, zF_o, zW_o, zW_i, zC_c, zC_i, zC_o]); rfl) | rfl))
    | (with_reducible apply z_b_R; (case h => first | with_unfolding_all rfl))
    | (with_reducible apply z_L; (case he => repeat (with_reducible first | exact zv_l _ | exact zv_r | apply zv_add | apply zv_sub | apply zv_mul)); (case hn => with_reducible first | assumption | exact zl_6 | exact zl_17 | exact zl_51 | exact zl_54 | exact zl_58); (case h => omega); (case hy => first | ((simp (disch := omega) only [zU_c, zU_e, zU_k, zF_c, zF_i, zF_o, zW_o, zW_i, zC_c, zC_i, zC_o]); rfl) | rfl))
    | (with_reducible apply z_7notesRow; (case r1 => first | omega | ((simp (disch := omega) only [zU_c, zU_e, zU_k, zF_c, zF_i, zF_o, zW_o, zW_i, zC_c, zC_i, zC_o]); omega)); (case r2 => first | omega | ((simp (disch := omega) only [zU_c, zU_e, zU_k, zF_c, zF_i, zF_o, zW_o, zW_i, zC_c, zC_i, zC_o]); omega)); intro _ _ _))
          refine hk2 _ _ _ (by omega) ⟨0, j + 1, rfl, Or.inl rfl, by omega, by omega, rfl, rfl, ⟨fun q => by exfalso; omega, fun q => absurd (q j j0 (by omega)) he⟩⟩
theorem zRk_eq {m : zMe} (r1 : 0 ≤ m 51 0 ∧ m 51 0 ≤ 6) (hp : ∀ u, 0 ≤ u → u < m 51 0 → 0 ≤ m 54 u ∧ m 54 u < 64) {j : Nat} (hs : ∀ u, 0 ≤ u → u < m 51 0 → 0 ≤ m 58 (6 * (j : Int) + u) ∧ m 58 (6 * (j : Int) + u) < 64) : zRk m j = zKy (zRp m) 6 ↔ ∀ u, 0 ≤ u → u < m 51 0 → m 58 (6 * (j : Int) + u) = m 54 u := by
  unfold zRk zRp
  constructor
  · intro h u u0 u1
    have hi := zKy_inj (fun k hk => ?_) (fun k hk => ?_) h u.toNat (by omega)
    · rw [Int.toNat_of_nonneg u0, if_pos u1, if_pos u1] at hi
      exact hi
    · by_cases hq : (k : Int) < m 51 0
      · rw [if_pos hq]
        exact hs (k : Int) (by omega) hq
      · rw [if_neg hq]
        omega
    · by_cases hq : (k : Int) < m 51 0
      · rw [if_pos hq]
        exact hp (k : Int) (by omega) hq
      · rw [if_neg hq]
        omega
  · intro h
    refine zKy_congr (fun k hk => ?_)
    by_cases hq : (k : Int) < m 51 0
    · rw [if_pos hq, if_pos hq]
      exact h (k : Int) (by omega) hq
    · rw [if_neg hq, if_neg hq]
def zTn (m : zMe) (g : Int) : Nat := (zSg (zLeft (zV m) 3) (m 51 1 - g).toNat g.toNat).length
def zTaq (m : zMe) (g : Int) : Prop := zRw m ∧ zAs m ∧ (0 ≤ g ∧ g ≤ m 51 1) ∧ (0 ≤ m 50 17 ∧ m 50 17 + ((3 ^ zTn m g : Nat) : Int) ≤ 81) ∧ (∀ u, 0 ≤ u → u < m 51 0 → 0 ≤ m 54 u ∧ m 54 u + 3 * zTn m g ≤ 63) ∧ zRo58 m
def zTap (m : zMe) (g : Int) (m2 : zMe) : Prop := zTx m m2 ∧ (m 50 17 ≤ m2 50 17 ∧ m2 50 17 ≤ m 50 17 + ((3 ^ zTn m g : Nat) : Int)) ∧ zRo58 m2 ∧ ∀ P, zDf (zRk m) (m 50 17).toNat P → zDf (zRk m2) (m2 50 17).toNat (fun x => P x ∨ zQk (m 51 2) (if m 51 2 = 0 then 0 else 1) (zGl7 m (zSg (zLeft (zV m) 3) (m 51 1 - g).toNat g.toNat)) (zRp m) x)
theorem zLeft_53 {m m1 : zMe} (h51 : m1 51 1 = m 51 1) (h53 : ∀ j, m1 53 j = m 53 j) : zLeft (zV m1) 3 = zLeft (zV m) 3 := by
  have e7 : ∀ q : zMe, zLeft (zV q) 3 = zBn (q 51 1).toNat (fun k => decide (q 53 (k : Int) = -1)) := fun q => rfl
  rw [e7, e7, h51]
  simp only [h53]
set_option maxRecDepth 100000 in
set_option maxHeartbeats 2000000 in
theorem s7_tabE {m : zMe} {g : Int} (h : zTaq m g) : zOk (f_X7_tablesFrom 12 50 (zI g) (zM m)) (fun (_ : Unit) m2 => zTap m g m2) := by
  have hN9 := h.1.1.2.1
  refine z_lp (fun n v m1 => ∃ g : Int, v = (50, zI g) ∧ n = (m1 51 1 - g).toNat ∧ zTaq m1 g) (fun v m1 _ m2 => ∀ g : Int, v = (50, zI g) → (0 ≤ g ∧ g ≤ 9) → zTap m1 g m2) ?_ 12 (m 51 1 - g).toNat (50, zI g) m (by have := h.2.2.1; omega) ⟨g, rfl, rfl, h⟩ |>.mono (fun v m' q => q g rfl (by have := h.2.2.1; omega))
  clear hN9 h g m
  rintro n v m k ⟨g, rfl, rfl, h⟩ hrec
  obtain ⟨hR, hA, hg, h81, hrow, hseen⟩ := id h
  have hN := hR.1.2.1
  have hT := hR.1.1
  have hK := hR.1.2.2
  suffices hgoal : zOk (f_X7_tablesFrom_r k 50 (zI g) (zM m)) (fun (_ : Unit) m2 => zTap m g m2) from hgoal.mono (fun a m2 q i' e' hi' => by
    have e : i' = g := by
      have e'' : zI g = zI i' := (Prod.mk.inj e').2
      exact ((zI_inj (by omega) (by omega)).mp e'').symm
    subst e
    exact q)
  unfold f_X7_tablesFrom_r
  (first
    | (with_reducible apply z_nm; (case he => repeat (with_reducible first | exact zv_l _ | exact zv_r | apply zv_add | apply zv_sub | apply zv_mul | apply zv_neg)))
    | (with_reducible apply z_b_ck; (case h => with_unfolding_all rfl))
    | (with_reducible apply z_b_R; (case h => first | with_unfolding_all rfl))
    | (with_reducible apply z_L; (case he => repeat (with_reducible first | exact zv_l _ | exact zv_r | apply zv_add | apply zv_sub | apply zv_mul | apply zv_neg)); (case hn => with_reducible first | assumption | exact zl_2 | exact zl_6 | exact zl_9 | exact zl_12 | exact zl_17 | exact zl_51 | exact zl_53 | exact zl_54 | exact zl_58 | exact zl_60); (case h => omega); (case hy => first | ((simp (disch := omega) only [zU_c, zU_e, zU_k, zF_c, zF_i, zF_o, zW_o, zW_i, zC_c, zC_i, zC_o]); rfl) | rfl))
    | (with_reducible apply z_7results; (case r1 => first | omega | ((simp (disch := omega) only [zU_c, zU_e, zU_k, zF_c, zF_i, zF_o, zW_o, zW_i, zC_c, zC_i, zC_o]); omega)))
    | (with_reducible apply z_7resultAt; (case e1 => repeat (with_reducible first | exact zv_l _ | exact zv_r | apply zv_add | apply zv_sub | apply zv_mul | apply zv_neg)); (case r1 => first | omega | ((simp (disch := omega) only [zU_c, zU_e, zU_k, zF_c, zF_i, zF_o, zW_o, zW_i, zC_c, zC_i, zC_o]); omega)))
    | (with_reducible apply z_7brings; (case e1 => repeat (with_reducible first | exact zv_l _ | exact zv_r | apply zv_add | apply zv_sub | apply zv_mul | apply zv_neg)); (case e2 => repeat (with_reducible first | exact zv_l _ | exact zv_r | apply zv_add | apply zv_sub | apply zv_mul | apply zv_neg)); (case e3 => repeat (with_reducible first | exact zv_l _ | exact zv_r | apply zv_add | apply zv_sub | apply zv_mul | apply zv_neg)); (case r1 => first | omega | ((simp (disch := omega) only [zU_c, zU_e, zU_k, zF_c, zF_i, zF_o, zW_o, zW_i, zC_c, zC_i, zC_o]); omega)); (case r2 => first | omega | ((simp (disch := omega) only [zU_c, zU_e, zU_k, zF_c, zF_i, zF_o, zW_o, zW_i, zC_c, zC_i, zC_o]); omega)); (case r3 => first | omega | ((simp (disch := omega) only [zU_c, zU_e, zU_k, zF_c, zF_i, zF_o, zW_o, zW_i, zC_c, zC_i, zC_o]); omega)); (case r4 => first | omega | ((simp (disch := omega) only [zU_c, zU_e, zU_k, zF_c, zF_i, zF_o, zW_o, zW_i, zC_c, zC_i, zC_o]); omega)); (case r5 => first | omega | ((simp (disch := omega) only [zU_c, zU_e, zU_k, zF_c, zF_i, zF_o, zW_o, zW_i, zC_c, zC_i, zC_o]); omega)); (case r6 => first | omega | ((simp (disch := omega) only [zU_c, zU_e, zU_k, zF_c, zF_i, zF_o, zW_o, zW_i, zC_c, zC_i, zC_o]); omega)))
    | (with_reducible apply z_7notesRow; (case r1 => first | omega | ((simp (disch := omega) only [zU_c, zU_e, zU_k, zF_c, zF_i, zF_o, zW_o, zW_i, zC_c, zC_i, zC_o]); omega)); (case r2 => first | omega | ((simp (disch := omega) only [zU_c, zU_e, zU_k, zF_c, zF_i, zF_o, zW_o, zW_i, zC_c, zC_i, zC_o]); omega)); intro _ _ _))
  (first
    | (with_reducible apply z_nm; (case he => repeat (with_reducible first | exact zv_l _ | exact zv_r | apply zv_add | apply zv_sub | apply zv_mul | apply zv_neg)))
    | (with_reducible apply z_b_ck; (case h => with_unfolding_all rfl))
    | (with_reducible apply z_b_R; (case h => first | with_unfolding_all rfl))
    | (with_reducible apply z_L; (case he => repeat (with_reducible first | exact zv_l _ | exact zv_r | apply zv_add | apply zv_sub | apply zv_mul | apply zv_neg)); (case hn => with_reducible first | assumption | exact zl_2 | exact zl_6 | exact zl_9 | exact zl_12 | exact zl_17 | exact zl_51 | exact zl_53 | exact zl_54 | exact zl_58 | exact zl_60); (case h => omega); (case hy => first | ((simp (disch := omega) only [zU_c, zU_e, zU_k, zF_c, zF_i, zF_o, zW_o, zW_i, zC_c, zC_i, zC_o]); rfl) | rfl))
    | (with_reducible apply z_7results; (case r1 => first | omega | ((simp (disch := omega) only [zU_c, zU_e, zU_k, zF_c, zF_i, zF_o, zW_o, zW_i, zC_c, zC_i, zC_o]); omega)))
    | (with_reducible apply z_7resultAt; (case e1 => repeat (with_reducible first | exact zv_l _ | exact zv_r | apply zv_add | apply zv_sub | apply zv_mul | apply zv_neg)); (case r1 => first | omega | ((simp (disch := omega) only [zU_c, zU_e, zU_k, zF_c, zF_i, zF_o, zW_o, zW_i, zC_c, zC_i, zC_o]); omega)))
    | (with_reducible apply z_7brings; (case e1 => repeat (with_reducible first | exact zv_l _ | exact zv_r | apply zv_add | apply zv_sub | apply zv_mul | apply zv_neg)); (case e2 => repeat (with_reducible first | exact zv_l _ | exact zv_r | apply zv_add | apply zv_sub | apply zv_mul | apply zv_neg)); (case e3 => repeat (with_reducible first | exact zv_l _ | exact zv_r | apply zv_add | apply zv_sub | apply zv_mul | apply zv_neg)); (case r1 => first | omega | ((simp (disch := omega) only [zU_c, zU_e, zU_k, zF_c, zF_i, zF_o, zW_o, zW_i, zC_c, zC_i, zC_o]); omega)); (case r2 => first | omega | ((simp (disch := omega) only [zU_c, zU_e, zU_k, zF_c, zF_i, zF_o, zW_o, zW_i, zC_c, zC_i, zC_o]); omega)); (case r3 => first | omega | ((simp (disch := omega) only [zU_c, zU_e, zU_k, zF_c, zF_i, zF_o, zW_o, zW_i, zC_c, zC_i, zC_o]); omega)); (case r4 => first | omega | ((simp (disch := omega) only [zU_c, zU_e, zU_k, zF_c, zF_i, zF_o, zW_o, zW_i, zC_c, zC_i, zC_o]); omega)); (case r5 => first | omega | ((simp (disch := omega) only [zU_c, zU_e, zU_k, zF_c, zF_i, zF_o, zW_o, zW_i, zC_c, zC_i, zC_o]); omega)); (case r6 => first | omega | ((simp (disch := omega) only [zU_c, zU_e, zU_k, zF_c, zF_i, zF_o, zW_o, zW_i, zC_c, zC_i, zC_o]); omega)))
    | (with_reducible apply z_7notesRow; (case r1 => first | omega | ((simp (disch := omega) only [zU_c, zU_e, zU_k, zF_c, zF_i, zF_o, zW_o, zW_i, zC_c, zC_i, zC_o]); omega)); (case r2 => first | omega | ((simp (disch := omega) only [zU_c, zU_e, zU_k, zF_c, zF_i, zF_o, zW_o, zW_i, zC_c, zC_i, zC_o]); omega)); intro _ _ _))
  (first
    | (with_reducible apply z_nm; (case he => repeat (with_reducible first | exact zv_l _ | exact zv_r | apply zv_add | apply zv_sub | apply zv_mul | apply zv_neg)))
    | (with_reducible apply z_b_ck; (case h => with_unfolding_all rfl))
    | (with_reducible apply z_b_R; (case h => first | with_unfolding_all rfl))
    | (with_reducible apply z_L; (case he => repeat (with_reducible first | exact zv_l _ | exact zv_r | apply zv_add | apply zv_sub | apply zv_mul | apply zv_neg)); (case hn => with_reducible first | assumption | exact zl_2 | exact zl_6 | exact zl_9 | exact zl_12 | exact zl_17 | exact zl_51 | exact zl_53 | exact zl_54 | exact zl_58 | exact zl_60); (case h => omega); (case hy => first | ((simp (disch := omega) only [zU_c, zU_e, zU_k, zF_c, zF_i, zF_o, zW_o, zW_i, zC_c, zC_i, zC_o]); rfl) | rfl))
    | (with_reducible apply z_7results; (case r1 => first | omega | ((simp (disch := omega) only [zU_c, zU_e, zU_k, zF_c, zF_i, zF_o, zW_o, zW_i, zC_c, zC_i, zC_o]); omega)))
    | (with_reducible apply z_7resultAt; (case e1 => repeat (with_reducible first | exact zv_l _ | exact zv_r | apply zv_add | apply zv_sub | apply zv_mul | apply zv_neg)); (case r1 => first | omega | ((simp (disch := omega) only [zU_c, zU_e, zU_k, zF_c, zF_i, zF_o, zW_o, zW_i, zC_c, zC_i, zC_o]); omega)))
    | (with_reducible apply z_7brings; (case e1 => repeat (with_reducible first | exact zv_l _ | exact zv_r | apply zv_add | apply zv_sub | apply zv_mul | apply zv_neg)); (case e2 => repeat (with_reducible first | exact zv_l _ | exact zv_r | apply zv_add | apply zv_sub | apply zv_mul | apply zv_neg)); (case e3 => repeat (with_reducible first | exact zv_l _ | exact zv_r | apply zv_add | apply zv_sub | apply zv_mul | apply zv_neg)); (case r1 => first | omega | ((simp (disch := omega) only [zU_c, zU_e, zU_k, zF_c, zF_i, zF_o, zW_o, zW_i, zC_c, zC_i, zC_o]); omega)); (case r2 => first | omega | ((simp (disch := omega) only [zU_c, zU_e, zU_k, zF_c, zF_i, zF_o, zW_o, zW_i, zC_c, zC_i, zC_o]); omega)); (case r3 => first | omega | ((simp (disch := omega) only [zU_c, zU_e, zU_k, zF_c, zF_i, zF_o, zW_o, zW_i, zC_c, zC_i, zC_o]); omega)); (case r4 => first | omega | ((simp (disch := omega) only [zU_c, zU_e, zU_k, zF_c, zF_i, zF_o, zW_o, zW_i, zC_c, zC_i, zC_o]); omega)); (case r5 => first | omega | ((simp (disch := omega) only [zU_c, zU_e, zU_k, zF_c, zF_i, zF_o, zW_o, zW_i, zC_c, zC_i, zC_o]); omega)); (case r6 => first | omega | ((simp (disch := omega) only [zU_c, zU_e, zU_k, zF_c, zF_i, zF_o, zW_o, zW_i, zC_c, zC_i, zC_o]); omega)))
    | (with_reducible apply z_7notesRow; (case r1 => first | omega | ((simp (disch := omega) only [zU_c, zU_e, zU_k, zF_c, zF_i, zF_o, zW_o, zW_i, zC_c, zC_i, zC_o]); omega)); (case r2 => first | omega | ((simp (disch := omega) only [zU_c, zU_e, zU_k, zF_c, zF_i, zF_o, zW_o, zW_i, zC_c, zC_i, zC_o]); omega)); intro _ _ _))
  refine z_eq (x := g) (y := m 51 1) rfl rfl (by omega) (by omega) (fun hgN => ?_) (fun hgN => ?_)
  · have en : (m 51 1 - g).toNat = 0 := by omega
    have eT : zTn m g = 0 := by
      unfold zTn
      rw [en]
      rfl
    unfold zTap
    have e1 : (3 ^ 0 : Nat) = 1 := rfl
    rw [eT, e1] at h81 ⊢
    rw [eT] at hrow
    rw [en]
    have hp64 : ∀ u, 0 ≤ u → u < m 51 0 → 0 ≤ m 54 u ∧ m 54 u < 64 := fun u u0 u1 => by
      have := hrow u u0 u1
      omega
    have eQ : ∀ x, zQk (m 51 2) (if m 51 2 = 0 then 0 else 1) (zGl7 m (zSg (zLeft (zV m) 3) 0 g.toNat)) (zRp m) x ↔ x = zKy (zRp m) 6 := fun x => zQk_n
    have eN : ((m 50 17).toNat : Int) = m 50 17 := Int.toNat_of_nonneg h81.1
    have hmem : ∀ P, zDf (zRk m) (m 50 17).toNat P → ((∃ j : Nat, (j : Int) < m 50 17 ∧ ∀ u, 0 ≤ u → u < m 51 0 → m 58 (6 * (j : Int) + u) = m 54 u) ↔ P (zKy (zRp m) 6)) := fun P hP => by
      rw [← hP.2 (zKy (zRp m) 6)]
      constructor
      · rintro ⟨j, hj, e⟩
        exact ⟨j, by omega, (zRk_eq hT hp64 (hseen j hj)).mpr e⟩
      · rintro ⟨j, hj, e⟩
        have hj' : (j : Int) < m 50 17 := by omega
        exact ⟨j, hj', (zRk_eq hT hp64 (hseen j hj')).mp e⟩
    refine z_call (s7_notesRowE hT (by omega) hp64 hseen) (fun _ m1 hv => ?_)
    rcases hv with ⟨hold, rfl⟩ | ⟨hnew, hX, h17, hlow, hrw⟩
    · refine ⟨_, _, rfl, fun _ _ _ _ => rfl, by omega, hseen, fun P hP => zDf_iff (fun x => ?_) hP⟩
      have hp := (hmem P hP).mp hold
      rw [eQ]
      constructor
      · exact fun q => Or.inl q
      · rintro (q | q)
        · exact q
        · rw [q]
          exact hp
    · have e510 : m1 51 0 = m 51 0 := hX 51 0 (by omega) (by omega)
      have hkl : ∀ j : Nat, j < (m 50 17).toNat → zRk m1 j = zRk m j := fun j hj => by
        unfold zRk
        refine zKy_congr (fun u hu => ?_)
        rw [e510, hlow _ (by omega)]
      have hkn : zRk m1 (m 50 17).toNat = zKy (zRp m) 6 := by
        unfold zRk zRp
        refine zKy_congr (fun u hu => ?_)
        rw [e510, eN]
        by_cases hq : (u : Int) < m 51 0
        · rw [if_pos hq, if_pos hq]
          exact hrw (u : Int) (by omega) hq
        · rw [if_neg hq, if_neg hq]
      refine ⟨_, _, rfl, hX, by rw [h17]; omega, fun j hj u u0 u1 => ?_, fun P hP => ?_⟩
      · rw [h17] at hj
        rw [e510] at u1
        by_cases hq : (j : Int) = m 50 17
        · rw [hq, hrw u u0 u1]
          exact hp64 u u0 u1
        · rw [hlow _ (by omega)]
          exact hseen j (by omega) u u0 u1
      · rw [h17, show (m 50 17 + 1).toNat = (m 50 17).toNat + 1 by omega]
        exact zDf_iff (fun x => by rw [eQ]) (zDf_add hP (fun q => hnew ((hmem P hP).mpr q)) hkl hkn)
  · have hlt : g < m 51 1 := by omega
    obtain ⟨n', en⟩ : ∃ n', (m 51 1 - g).toNat = n' + 1 := ⟨(m 51 1 - g).toNat - 1, by omega⟩
    have en2 : (m 51 1 - (g + 1)).toNat = n' := by omega
    have eg : (g + 1).toNat = g.toNat + 1 := by omega
    have eg2 : ((g.toNat : Nat) : Int) = g := by omega
    have hbit := zLeft_bit (m := m) (k := g.toNat) (by omega)
    rw [eg2] at hbit
    obtain ⟨g1, g2, g3, g4, g5⟩ := hR.2.2 g hg.1 hlt
    have hag := hA g hg.1 hlt
    (first
    | (with_reducible apply z_nm; (case he => repeat (with_reducible first | exact zv_l _ | exact zv_r | apply zv_add | apply zv_sub | apply zv_mul | apply zv_neg)))
    | (with_reducible apply z_b_ck; (case h => with_unfolding_all rfl))
    | (with_reducible apply z_b_R; (case h => first | with_unfolding_all rfl))
    | (with_reducible apply z_L; (case he => repeat (with_reducible first | exact zv_l _ | exact zv_r | apply zv_add | apply zv_sub | apply zv_mul | apply zv_neg)); (case hn => with_reducible first | assumption | exact zl_2 | exact zl_6 | exact zl_9 | exact zl_12 | exact zl_17 | exact zl_51 | exact zl_53 | exact zl_54 | exact zl_58 | exact zl_60); (case h => omega); (case hy => first | ((simp (disch := omega) only [zU_c, zU_e, zU_k, zF_c, zF_i, zF_o, zW_o, zW_i, zC_c, zC_i, zC_o]); rfl) | rfl))
    | (with_reducible apply z_7results; (case r1 => first | omega | ((simp (disch := omega) only [zU_c, zU_e, zU_k, zF_c, zF_i, zF_o, zW_o, zW_i, zC_c, zC_i, zC_o]); omega)))
    | (with_reducible apply z_7resultAt; (case e1 => repeat (with_reducible first | exact zv_l _ | exact zv_r | apply zv_add | apply zv_sub | apply zv_mul | apply zv_neg)); (case r1 => first | omega | ((simp (disch := omega) only [zU_c, zU_e, zU_k, zF_c, zF_i, zF_o, zW_o, zW_i, zC_c, zC_i, zC_o]); omega)))
    | (with_reducible apply z_7brings; (case e1 => repeat (with_reducible first | exact zv_l _ | exact zv_r | apply zv_add | apply zv_sub | apply zv_mul | apply zv_neg)); (case e2 => repeat (with_reducible first | exact zv_l _ | exact zv_r | apply zv_add | apply zv_sub | apply zv_mul | apply zv_neg)); (case e3 => repeat (with_reducible first | exact zv_l _ | exact zv_r | apply zv_add | apply zv_sub | apply zv_mul | apply zv_neg)); (case r1 => first | omega | ((simp (disch := omega) only [zU_c, zU_e, zU_k, zF_c, zF_i, zF_o, zW_o, zW_i, zC_c, zC_i, zC_o]); omega)); (case r2 => first | omega | ((simp (disch := omega) only [zU_c, zU_e, zU_k, zF_c, zF_i, zF_o, zW_o, zW_i, zC_c, zC_i, zC_o]); omega)); (case r3 => first | omega | ((simp (disch := omega) only [zU_c, zU_e, zU_k, zF_c, zF_i, zF_o, zW_o, zW_i, zC_c, zC_i, zC_o]); omega)); (case r4 => first | omega | ((simp (disch := omega) only [zU_c, zU_e, zU_k, zF_c, zF_i, zF_o, zW_o, zW_i, zC_c, zC_i, zC_o]); omega)); (case r5 => first | omega | ((simp (disch := omega) only [zU_c, zU_e, zU_k, zF_c, zF_i, zF_o, zW_o, zW_i, zC_c, zC_i, zC_o]); omega)); (case r6 => first | omega | ((simp (disch := omega) only [zU_c, zU_e, zU_k, zF_c, zF_i, zF_o, zW_o, zW_i, zC_c, zC_i, zC_o]); omega)))
    | (with_reducible apply z_7notesRow; (case r1 => first | omega | ((simp (disch := omega) only [zU_c, zU_e, zU_k, zF_c, zF_i, zF_o, zW_o, zW_i, zC_c, zC_i, zC_o]); omega)); (case r2 => first | omega | ((simp (disch := omega) only [zU_c, zU_e, zU_k, zF_c, zF_i, zF_o, zW_o, zW_i, zC_c, zC_i, zC_o]); omega)); intro _ _ _))
    (first
    | (with_reducible apply z_nm; (case he => repeat (with_reducible first | exact zv_l _ | exact zv_r | apply zv_add | apply zv_sub | apply zv_mul | apply zv_neg)))
    | (with_reducible apply z_b_ck; (case h => with_unfolding_all rfl))
    | (with_reducible apply z_b_R; (case h => first | with_unfolding_all rfl))
    | (with_reducible apply z_L; (case he => repeat (with_reducible first | exact zv_l _ | exact zv_r | apply zv_add | apply zv_sub | apply zv_mul | apply zv_neg)); (case hn => with_reducible first | assumption | exact zl_2 | exact zl_6 | exact zl_9 | exact zl_12 | exact zl_17 | exact zl_51 | exact zl_53 | exact zl_54 | exact zl_58 | exact zl_60); (case h => omega); (case hy => first | ((simp (disch := omega) only [zU_c, zU_e, zU_k, zF_c, zF_i, zF_o, zW_o, zW_i, zC_c, zC_i, zC_o]); rfl) | rfl))
    | (with_reducible apply z_7results; (case r1 => first | omega | ((simp (disch := omega) only [zU_c, zU_e, zU_k, zF_c, zF_i, zF_o, zW_o, zW_i, zC_c, zC_i, zC_o]); omega)))
    | (with_reducible apply z_7resultAt; (case e1 => repeat (with_reducible first | exact zv_l _ | exact zv_r | apply zv_add | apply zv_sub | apply zv_mul | apply zv_neg)); (case r1 => first | omega | ((simp (disch := omega) only [zU_c, zU_e, zU_k, zF_c, zF_i, zF_o, zW_o, zW_i, zC_c, zC_i, zC_o]); omega)))
    | (with_reducible apply z_7brings; (case e1 => repeat (with_reducible first | exact zv_l _ | exact zv_r | apply zv_add | apply zv_sub | apply zv_mul | apply zv_neg)); (case e2 => repeat (with_reducible first | exact zv_l _ | exact zv_r | apply zv_add | apply zv_sub | apply zv_mul | apply zv_neg)); (case e3 => repeat (with_reducible first | exact zv_l _ | exact zv_r | apply zv_add | apply zv_sub | apply zv_mul | apply zv_neg)); (case r1 => first | omega | ((simp (disch := omega) only [zU_c, zU_e, zU_k, zF_c, zF_i, zF_o, zW_o, zW_i, zC_c, zC_i, zC_o]); omega)); (case r2 => first | omega | ((simp (disch := omega) only [zU_c, zU_e, zU_k, zF_c, zF_i, zF_o, zW_o, zW_i, zC_c, zC_i, zC_o]); omega)); (case r3 => first | omega | ((simp (disch := omega) only [zU_c, zU_e, zU_k, zF_c, zF_i, zF_o, zW_o, zW_i, zC_c, zC_i, zC_o]); omega)); (case r4 => first | omega | ((simp (disch := omega) only [zU_c, zU_e, zU_k, zF_c, zF_i, zF_o, zW_o, zW_i, zC_c, zC_i, zC_o]); omega)); (case r5 => first | omega | ((simp (disch := omega) only [zU_c, zU_e, zU_k, zF_c, zF_i, zF_o, zW_o, zW_i, zC_c, zC_i, zC_o]); omega)); (case r6 => first | omega | ((simp (disch := omega) only [zU_c, zU_e, zU_k, zF_c, zF_i, zF_o, zW_o, zW_i, zC_c, zC_i, zC_o]); omega)))
    | (with_reducible apply z_7notesRow; (case r1 => first | omega | ((simp (disch := omega) only [zU_c, zU_e, zU_k, zF_c, zF_i, zF_o, zW_o, zW_i, zC_c, zC_i, zC_o]); omega)); (case r2 => first | omega | ((simp (disch := omega) only [zU_c, zU_e, zU_k, zF_c, zF_i, zF_o, zW_o, zW_i, zC_c, zC_i, zC_o]); omega)); intro _ _ _))
    refine z_eq (x := m 53 g) (y := -1) rfl rfl (by omega) (by omega) (fun hl => ?_) (fun hl => ?_)
    · rw [decide_eq_true hl] at hbit
      have eL : zSg (zLeft (zV m) 3) (n' + 1) g.toNat = g.toNat :: zSg (zLeft (zV m) 3) n' (g.toNat + 1) := if_pos hbit
      have eT : zTn m g = (zSg (zLeft (zV m) 3) n' (g.toNat + 1)).length + 1 := by
        unfold zTn
        rw [en, eL, List.length_cons]
      have eG : zGl7 m (zSg (zLeft (zV m) 3) (n' + 1) g.toNat) = (m 51 (51 + g), m 51 (60 + g)) :: zGl7 m (zSg (zLeft (zV m) 3) n' (g.toNat + 1)) := by
        rw [eL]
        show (m 51 (51 + ((g.toNat : Nat) : Int)), m 51 (60 + ((g.toNat : Nat) : Int))) :: zGl7 m (zSg (zLeft (zV m) 3) n' (g.toNat + 1)) = _
        rw [eg2]
      unfold zTap
      rw [en, eG]
      rw [eT] at h81 hrow ⊢
      have ep : (3 ^ ((zSg (zLeft (zV m) 3) n' (g.toNat + 1)).length + 1) : Nat) = 3 * 3 ^ (zSg (zLeft (zV m) 3) n' (g.toNat + 1)).length := by rw [Nat.pow_succ]; omega
      rw [ep] at h81 ⊢
      have hpp : 0 < 3 ^ (zSg (zLeft (zV m) 3) n' (g.toNat + 1)).length := Nat.pow_pos (by omega)
      generalize hPd : 3 ^ (zSg (zLeft (zV m) 3) n' (g.toNat + 1)).length = P3 at h81 hpp ⊢
      generalize hdd : (if m 51 2 = 0 then (0 : Int) else 1) = d
      generalize hRd : (if m 51 2 = 0 then 2 else 3) = R
      have hR23 : R = 2 ∨ R = 3 := by
        rw [← hRd]
        split
        · exact Or.inl rfl
        · exact Or.inr rfl
      have hdR : (if d = 0 then 2 else 3) = R := by
        rw [← hRd, ← hdd]
        by_cases hk0 : m 51 2 = 0
        · rw [if_pos hk0, if_pos hk0, if_pos rfl]
        · rw [if_neg hk0, if_neg hk0, if_neg (by omega)]
      refine z_lp (fun n v m1 => ∃ i : Nat, v = (50, zI g, zI (i : Int)) ∧ i ≤ R ∧ n = 3 - i ∧ zTx m m1 ∧ (m 50 17 ≤ m1 50 17 ∧ ((i = 0 ∧ m1 50 17 ≤ m 50 17) ∨ (i = 1 ∧ m1 50 17 ≤ m 50 17 + P3) ∨ (i = 2 ∧ m1 50 17 ≤ m 50 17 + 2 * P3) ∨ (i = 3 ∧ m1 50 17 ≤ m 50 17 + 3 * P3))) ∧ zRo58 m1 ∧ ∀ P, zDf (zRk m) (m 50 17).toNat P → zDf (zRk m1) (m1 50 17).toNat (fun x => P x ∨ ∃ j : Nat, j < i ∧ zQk (m 51 2) d (zGl7 m (zSg (zLeft (zV m) 3) n' (g.toNat + 1))) (fun u => zRp m u + zGn (m 51 2) (m 51 (51 + g)) (m 51 (60 + g)) (zRA j) u) x)) (fun _ _ _ m2 => zTx m m2 ∧ (m 50 17 ≤ m2 50 17 ∧ m2 50 17 ≤ m 50 17 + ((3 * P3 : Nat) : Int)) ∧ zRo58 m2 ∧ ∀ P, zDf (zRk m) (m 50 17).toNat P → zDf (zRk m2) (m2 50 17).toNat (fun x => P x ∨ zQk (m 51 2) d ((m 51 (51 + g), m 51 (60 + g)) :: zGl7 m (zSg (zLeft (zV m) 3) n' (g.toNat + 1))) (zRp m) x)) ?_ 600 3 _ _ (by omega) ⟨0, rfl, by omega, rfl, fun _ _ _ _ => rfl, by omega, hseen, fun P hP => zDf_iff (fun x => ⟨fun q => Or.inl q, fun q => q.elim id (fun w => by obtain ⟨y, hy, -⟩ := w; exfalso; omega)⟩) hP⟩
      rintro n v m1 k2 ⟨i, rfl, iR, rfl, hX, hcnt, hsn, hdf⟩ hk2
      have e51 : ∀ j, m1 51 j = m 51 j := fun j => hX 51 j (by omega) (by omega)
      have e53 : ∀ j, m1 53 j = m 53 j := fun j => hX 53 j (by omega) (by omega)
      have e54 : ∀ j, m1 54 j = m 54 j := fun j => hX 54 j (by omega) (by omega)
      unfold f_X7_tablesFrom_35
      dsimp only
      refine z_7results (by rw [e51]; exact hK) ?_
      have eR : (if m1 51 2 = 0 then (2 : Int) else 3) = (R : Int) := by
        rw [e51, ← hRd]
        split <;> rfl
      rw [eR]
      refine z_le (x := (R : Int)) (y := (i : Int)) rfl rfl (by omega) (by omega) (fun hle => ?_) (fun hle => ?_)
      · have : i = R := by omega
        subst this
        refine ⟨_, _, rfl, hX, ⟨hcnt.1, by omega⟩, hsn, fun P hP => zDf_iff (fun x => ?_) (hdf P hP)⟩
        rw [zQk_c, zOx_RA (P := fun y => zQk (m 51 2) d (zGl7 m (zSg (zLeft (zV m) 3) n' (g.toNat + 1))) (fun u => zRp m u + zGn (m 51 2) (m 51 (51 + g)) (m 51 (60 + g)) y u) x), hdR]
      · have hra : 0 ≤ zRA i ∧ zRA i ≤ 2 := by
          unfold zRA
          split <;> omega
        have era : (if (i : Int) = 2 then (0 : Int) else (i : Int) + 1) = zRA i := by
          unfold zRA
          by_cases hq : i = 2
          · rw [if_pos hq, if_pos (by omega)]
          · rw [if_neg hq, if_neg (by omega)]
        have hgr : ∀ u, 0 ≤ zG7 m g (zRA i) u ∧ zG7 m g (zRA i) u ≤ 3 := fun u => by
          have := zGn_0 (o := m 51 (51 + g)) (p := m 51 (60 + g)) (x := zRA i) (u := u) hK
          have := zGn_le (x := zRA i) (u := u) hK g4
          unfold zG7
          split at this <;> omega
        refine z_7resultAt rfl (by omega) ?_
        rw [era]
        refine z_7brings (k := g) (res := zRA i) (x := 1) rfl rfl (zv_l 1) (by omega) hra (by rw [e51]; omega) (by rw [e51]; omega) (by rw [e51, e51]; exact g4) (by rw [e51]; exact hK) ?_
        generalize hm2 : zAw m1 54 (fun t => zG7 m1 g (zRA i) t * 1) = m2
        have f2 : ∀ c j, ¬ c = 54 → m2 c j = m1 c j := fun c j hc => by rw [← hm2, zAw_c hc]
        have f54 : ∀ j, m2 54 j = m 54 j + zG7 m g (zRA i) j := fun j => by
          rw [← hm2, zAw_q, e54]
          unfold zG7
          rw [e51, e51, e51]
          omega
        have f51 : ∀ j, m2 51 j = m 51 j := fun j => by rw [f2 51 j (by omega), e51]
        have f53 : ∀ j, m2 53 j = m 53 j := fun j => by rw [f2 53 j (by omega), e53]
        have eLf : zLeft (zV m2) 3 = zLeft (zV m) 3 := zLeft_53 (f51 1) f53
        have eT2 : zTn m2 (g + 1) = (zSg (zLeft (zV m) 3) n' (g.toNat + 1)).length := by
          unfold zTn
          rw [eLf, f51, en2, eg]
        have hq2 : zTaq m2 (g + 1) := by
          refine ⟨zRw_X f51 hR, fun k k0 k1 => ?_, by rw [f51]; omega, ?_, fun u u0 u1 => ?_, fun j hj u u0 u1 => ?_⟩
          · rw [f51] at k1
            rw [f53]
            exact hA k k0 k1
          · rw [eT2, hPd, f2 50 17 (by omega)]
            omega
          · rw [f51] at u1
            have q1 := hrow u u0 u1
            have q2 := hgr u
            rw [f54, eT2]
            omega
          · rw [f2 50 17 (by omega)] at hj
            rw [f51] at u1
            rw [f2 58 _ (by omega)]
            exact hsn j hj u u0 (by rw [e51]; exact u1)
        (first
    | (with_reducible apply z_nm; (case he => repeat (with_reducible first | exact zv_l _ | exact zv_r | apply zv_add | apply zv_sub | apply zv_mul | apply zv_neg)))
    | (with_reducible apply z_b_ck; (case h => with_unfolding_all rfl))
    | (with_reducible apply z_b_R; (case h => first | with_unfolding_all rfl))
    | (with_reducible apply z_L; (case he => repeat (with_reducible first | exact zv_l _ | exact zv_r | apply zv_add | apply zv_sub | apply zv_mul | apply zv_neg)); (case hn => with_reducible first | assumption | exact zl_2 | exact zl_6 | exact zl_9 | exact zl_12 | exact zl_17 | exact zl_51 | exact zl_53 | exact zl_54 | exact zl_58 | exact zl_60); (case h => omega); (case hy => first | ((simp (disch := omega) only [zU_c, zU_e, zU_k, zF_c, zF_i, zF_o, zW_o, zW_i, zC_c, zC_i, zC_o]); rfl) | rfl))
    | (with_reducible apply z_7results; (case r1 => first | omega | ((simp (disch := omega) only [zU_c, zU_e, zU_k, zF_c, zF_i, zF_o, zW_o, zW_i, zC_c, zC_i, zC_o]); omega)))
    | (with_reducible apply z_7resultAt; (case e1 => repeat (with_reducible first | exact zv_l _ | exact zv_r | apply zv_add | apply zv_sub | apply zv_mul | apply zv_neg)); (case r1 => first | omega | ((simp (disch := omega) only [zU_c, zU_e, zU_k, zF_c, zF_i, zF_o, zW_o, zW_i, zC_c, zC_i, zC_o]); omega)))
    | (with_reducible apply z_7brings; (case e1 => repeat (with_reducible first | exact zv_l _ | exact zv_r | apply zv_add | apply zv_sub | apply zv_mul | apply zv_neg)); (case e2 => repeat (with_reducible first | exact zv_l _ | exact zv_r | apply zv_add | apply zv_sub | apply zv_mul | apply zv_neg)); (case e3 => repeat (with_reducible first | exact zv_l _ | exact zv_r | apply zv_add | apply zv_sub | apply zv_mul | apply zv_neg)); (case r1 => first | omega | ((simp (disch := omega) only [zU_c, zU_e, zU_k, zF_c, zF_i, zF_o, zW_o, zW_i, zC_c, zC_i, zC_o]); omega)); (case r2 => first | omega | ((simp (disch := omega) only [zU_c, zU_e, zU_k, zF_c, zF_i, zF_o, zW_o, zW_i, zC_c, zC_i, zC_o]); omega)); (case r3 => first | omega | ((simp (disch := omega) only [zU_c, zU_e, zU_k, zF_c, zF_i, zF_o, zW_o, zW_i, zC_c, zC_i, zC_o]); omega)); (case r4 => first | omega | ((simp (disch := omega) only [zU_c, zU_e, zU_k, zF_c, zF_i, zF_o, zW_o, zW_i, zC_c, zC_i, zC_o]); omega)); (case r5 => first | omega | ((simp (disch := omega) only [zU_c, zU_e, zU_k, zF_c, zF_i, zF_o, zW_o, zW_i, zC_c, zC_i, zC_o]); omega)); (case r6 => first | omega | ((simp (disch := omega) only [zU_c, zU_e, zU_k, zF_c, zF_i, zF_o, zW_o, zW_i, zC_c, zC_i, zC_o]); omega)))
    | (with_reducible apply z_7notesRow; (case r1 => first | omega | ((simp (disch := omega) only [zU_c, zU_e, zU_k, zF_c, zF_i, zF_o, zW_o, zW_i, zC_c, zC_i, zC_o]); omega)); (case r2 => first | omega | ((simp (disch := omega) only [zU_c, zU_e, zU_k, zF_c, zF_i, zF_o, zW_o, zW_i, zC_c, zC_i, zC_o]); omega)); intro _ _ _))
        rw [show zI g + 1 = zI (g + 1) from zv_add rfl (zv_l 1)]
        refine z_call (hrec (m2 51 1 - (g + 1)).toNat (50, zI (g + 1)) m2 (by rw [f51]; omega) ⟨g + 1, rfl, rfl, hq2⟩) (fun _ m3 hv => ?_)
        obtain ⟨hX3, hc3, hs3, hd3⟩ := hv (g + 1) rfl (by omega)
        rw [eT2, hPd, f2 50 17 (by omega)] at hc3
        have f3 : ∀ c j, ¬ c = 54 → ¬ c = 58 → ¬ (c = 50 ∧ j = 17) → m3 c j = m c j := fun c j a b c' => by rw [hX3 c j b c', f2 c j a, hX c j b c']
        have f351 : ∀ j, m3 51 j = m 51 j := fun j => f3 51 j (by omega) (by omega) (by omega)
        have f354 : ∀ j, m3 54 j = m 54 j + zG7 m g (zRA i) j := fun j => by rw [hX3 54 j (by omega) (by omega), f54]
        refine z_7resultAt rfl (by omega) ?_
        rw [era]
        refine z_7brings (k := g) (res := zRA i) (x := -1) rfl rfl (show (-1 : Int32) = zI (-1) from rfl) (by omega) hra (by rw [f351]; omega) (by rw [f351]; omega) (by rw [f351, f351]; exact g4) (by rw [f351]; exact hK) ?_
        generalize hm4 : zAw m3 54 (fun t => zG7 m3 g (zRA i) t * -1) = m4
        have f4 : ∀ c j, ¬ c = 54 → m4 c j = m3 c j := fun c j hc => by rw [← hm4, zAw_c hc]
        have f454 : ∀ j, m4 54 j = m 54 j := fun j => by
          have e3 : zG7 m3 g (zRA i) j = zG7 m g (zRA i) j := by
            unfold zG7
            rw [f351, f351, f351]
          rw [← hm4, zAw_q, f354, e3]
          omega
        repeat' (first
    | (with_reducible apply z_nm; (case he => repeat (with_reducible first | exact zv_l _ | exact zv_r | apply zv_add | apply zv_sub | apply zv_mul | apply zv_neg)))
    | (with_reducible apply z_b_ck; (case h => with_unfolding_all rfl))
    | (with_reducible apply z_b_R; (case h => first | with_unfolding_all rfl))
    | (with_reducible apply z_L; (case he => repeat (with_reducible first | exact zv_l _ | exact zv_r | apply zv_add | apply zv_sub | apply zv_mul | apply zv_neg)); (case hn => with_reducible first | assumption | exact zl_2 | exact zl_6 | exact zl_9 | exact zl_12 | exact zl_17 | exact zl_51 | exact zl_53 | exact zl_54 | exact zl_58 | exact zl_60); (case h => omega); (case hy => first | ((simp (disch := omega) only [zU_c, zU_e, zU_k, zF_c, zF_i, zF_o, zW_o, zW_i, zC_c, zC_i, zC_o]); rfl) | rfl))
    | (with_reducible apply z_7results; (case r1 => first | omega | ((simp (disch := omega) only [zU_c, zU_e, zU_k, zF_c, zF_i, zF_o, zW_o, zW_i, zC_c, zC_i, zC_o]); omega)))
    | (with_reducible apply z_7resultAt; (case e1 => repeat (with_reducible first | exact zv_l _ | exact zv_r | apply zv_add | apply zv_sub | apply zv_mul | apply zv_neg)); (case r1 => first | omega | ((simp (disch := omega) only [zU_c, zU_e, zU_k, zF_c, zF_i, zF_o, zW_o, zW_i, zC_c, zC_i, zC_o]); omega)))
    | (with_reducible apply z_7brings; (case e1 => repeat (with_reducible first | exact zv_l _ | exact zv_r | apply zv_add | apply zv_sub | apply zv_mul | apply zv_neg)); (case e2 => repeat (with_reducible first | exact zv_l _ | exact zv_r | apply zv_add | apply zv_sub | apply zv_mul | apply zv_neg)); (case e3 => repeat (with_reducible first | exact zv_l _ | exact zv_r | apply zv_add | apply zv_sub | apply zv_mul | apply zv_neg)); (case r1 => first | omega | ((simp (disch := omega) only [zU_c, zU_e, zU_k, zF_c, zF_i, zF_o, zW_o, zW_i, zC_c, zC_i, zC_o]); omega)); (case r2 => first | omega | ((simp (disch := omega) only [zU_c, zU_e, zU_k, zF_c, zF_i, zF_o, zW_o, zW_i, zC_c, zC_i, zC_o]); omega)); (case r3 => first | omega | ((simp (disch := omega) only [zU_c, zU_e, zU_k, zF_c, zF_i, zF_o, zW_o, zW_i, zC_c, zC_i, zC_o]); omega)); (case r4 => first | omega | ((simp (disch := omega) only [zU_c, zU_e, zU_k, zF_c, zF_i, zF_o, zW_o, zW_i, zC_c, zC_i, zC_o]); omega)); (case r5 => first | omega | ((simp (disch := omega) only [zU_c, zU_e, zU_k, zF_c, zF_i, zF_o, zW_o, zW_i, zC_c, zC_i, zC_o]); omega)); (case r6 => first | omega | ((simp (disch := omega) only [zU_c, zU_e, zU_k, zF_c, zF_i, zF_o, zW_o, zW_i, zC_c, zC_i, zC_o]); omega)))
    | (with_reducible apply z_7notesRow; (case r1 => first | omega | ((simp (disch := omega) only [zU_c, zU_e, zU_k, zF_c, zF_i, zF_o, zW_o, zW_i, zC_c, zC_i, zC_o]); omega)); (case r2 => first | omega | ((simp (disch := omega) only [zU_c, zU_e, zU_k, zF_c, zF_i, zF_o, zW_o, zW_i, zC_c, zC_i, zC_o]); omega)); intro _ _ _))
        have e417 : m4 50 17 = m3 50 17 := f4 50 17 (by omega)
        refine hk2 _ _ _ (by omega) ⟨i + 1, rfl, by omega, rfl, fun c j a b => ?_, ?_, fun j hj u u0 u1 => ?_, fun P hP => ?_⟩
        · by_cases hc : c = 54
          · rw [hc]
            exact f454 j
          · rw [f4 c j hc]
            exact f3 c j hc a b
        · rw [e417]
          omega
        · rw [e417] at hj
          rw [f4 51 0 (by omega)] at u1
          rw [f4 58 _ (by omega)]
          exact hs3 j hj u u0 u1
        · have h1 := hdf P hP
          have hk21 : ∀ j, zRk m2 j = zRk m1 j := fun j => by
            unfold zRk
            refine zKy_congr (fun u hu => ?_)
            rw [f2 51 0 (by omega), f2 58 _ (by omega)]
          have hk43 : ∀ j, zRk m4 j = zRk m3 j := fun j => by
            unfold zRk
            refine zKy_congr (fun u hu => ?_)
            rw [f4 51 0 (by omega), f4 58 _ (by omega)]
          have h2 : zDf (zRk m2) (m2 50 17).toNat (fun x => P x ∨ ∃ j : Nat, j < i ∧ zQk (m 51 2) d (zGl7 m (zSg (zLeft (zV m) 3) n' (g.toNat + 1))) (fun u => zRp m u + zGn (m 51 2) (m 51 (51 + g)) (m 51 (60 + g)) (zRA j) u) x) := by
            rw [f2 50 17 (by omega)]
            exact zDf_congr (fun j _ => hk21 j) h1
          have h3 := hd3 _ h2
          have gR : zRp m2 = fun u => zRp m u + zGn (m 51 2) (m 51 (51 + g)) (m 51 (60 + g)) (zRA i) u := by
            funext u
            unfold zRp
            rw [f51]
            by_cases hq : u < m 51 0
            · rw [if_pos hq, if_pos hq, f54]
              rfl
            · rw [if_neg hq, if_neg hq]
              unfold zGn
              rw [if_neg (by omega), if_neg (by omega)]
              rfl
          rw [f51, f51, en2, eg, eLf, zGl7_51 f51, hdd, gR] at h3
          rw [e417]
          refine zDf_congr (fun j _ => hk43 j) (zDf_iff (fun x => ?_) h3)
          constructor
          · rintro ((q | ⟨y, hy, q⟩) | q)
            · exact Or.inl q
            · exact Or.inr ⟨y, by omega, q⟩
            · exact Or.inr ⟨i, by omega, q⟩
          · rintro (q | ⟨y, hy, q⟩)
            · exact Or.inl (Or.inl q)
            · by_cases hyr : y = i
              · subst hyr
                exact Or.inr q
              · exact Or.inl (Or.inr ⟨y, by omega, q⟩)
    · rw [decide_eq_false hl] at hbit
      have eL : zSg (zLeft (zV m) 3) (n' + 1) g.toNat = zSg (zLeft (zV m) 3) n' (g.toNat + 1) := if_neg (by rw [hbit]; simp)
      have eT : zTn m g = zTn m (g + 1) := by
        unfold zTn
        rw [en, en2, eg, eL]
      have hq2 : zTaq m (g + 1) := by
        rw [eT] at h81 hrow
        exact ⟨hR, hA, by omega, h81, hrow, hseen⟩
      (first
    | (with_reducible apply z_nm; (case he => repeat (with_reducible first | exact zv_l _ | exact zv_r | apply zv_add | apply zv_sub | apply zv_mul | apply zv_neg)))
    | (with_reducible apply z_b_ck; (case h => with_unfolding_all rfl))
    | (with_reducible apply z_b_R; (case h => first | with_unfolding_all rfl))
    | (with_reducible apply z_L; (case he => repeat (with_reducible first | exact zv_l _ | exact zv_r | apply zv_add | apply zv_sub | apply zv_mul | apply zv_neg)); (case hn => with_reducible first | assumption | exact zl_2 | exact zl_6 | exact zl_9 | exact zl_12 | exact zl_17 | exact zl_51 | exact zl_53 | exact zl_54 | exact zl_58 | exact zl_60); (case h => omega); (case hy => first | ((simp (disch := omega) only [zU_c, zU_e, zU_k, zF_c, zF_i, zF_o, zW_o, zW_i, zC_c, zC_i, zC_o]); rfl) | rfl))
    | (with_reducible apply z_7results; (case r1 => first | omega | ((simp (disch := omega) only [zU_c, zU_e, zU_k, zF_c, zF_i, zF_o, zW_o, zW_i, zC_c, zC_i, zC_o]); omega)))
    | (with_reducible apply z_7resultAt; (case e1 => repeat (with_reducible first | exact zv_l _ | exact zv_r | apply zv_add | apply zv_sub | apply zv_mul | apply zv_neg)); (case r1 => first | omega | ((simp (disch := omega) only [zU_c, zU_e, zU_k, zF_c, zF_i, zF_o, zW_o, zW_i, zC_c, zC_i, zC_o]); omega)))
    | (with_reducible apply z_7brings; (case e1 => repeat (with_reducible first | exact zv_l _ | exact zv_r | apply zv_add | apply zv_sub | apply zv_mul | apply zv_neg)); (case e2 => repeat (with_reducible first | exact zv_l _ | exact zv_r | apply zv_add | apply zv_sub | apply zv_mul | apply zv_neg)); (case e3 => repeat (with_reducible first | exact zv_l _ | exact zv_r | apply zv_add | apply zv_sub | apply zv_mul | apply zv_neg)); (case r1 => first | omega | ((simp (disch := omega) only [zU_c, zU_e, zU_k, zF_c, zF_i, zF_o, zW_o, zW_i, zC_c, zC_i, zC_o]); omega)); (case r2 => first | omega | ((simp (disch := omega) only [zU_c, zU_e, zU_k, zF_c, zF_i, zF_o, zW_o, zW_i, zC_c, zC_i, zC_o]); omega)); (case r3 => first | omega | ((simp (disch := omega) only [zU_c, zU_e, zU_k, zF_c, zF_i, zF_o, zW_o, zW_i, zC_c, zC_i, zC_o]); omega)); (case r4 => first | omega | ((simp (disch := omega) only [zU_c, zU_e, zU_k, zF_c, zF_i, zF_o, zW_o, zW_i, zC_c, zC_i, zC_o]); omega)); (case r5 => first | omega | ((simp (disch := omega) only [zU_c, zU_e, zU_k, zF_c, zF_i, zF_o, zW_o, zW_i, zC_c, zC_i, zC_o]); omega)); (case r6 => first | omega | ((simp (disch := omega) only [zU_c, zU_e, zU_k, zF_c, zF_i, zF_o, zW_o, zW_i, zC_c, zC_i, zC_o]); omega)))
    | (with_reducible apply z_7notesRow; (case r1 => first | omega | ((simp (disch := omega) only [zU_c, zU_e, zU_k, zF_c, zF_i, zF_o, zW_o, zW_i, zC_c, zC_i, zC_o]); omega)); (case r2 => first | omega | ((simp (disch := omega) only [zU_c, zU_e, zU_k, zF_c, zF_i, zF_o, zW_o, zW_i, zC_c, zC_i, zC_o]); omega)); intro _ _ _))
      rw [show zI g + 1 = zI (g + 1) from zv_add rfl (zv_l 1)]
      refine z_call (hrec (m 51 1 - (g + 1)).toNat (50, zI (g + 1)) m (by omega) ⟨g + 1, rfl, rfl, hq2⟩) (fun _ m3 hv => ?_)
      have hv := hv (g + 1) rfl (by omega)
      unfold zTap at hv ⊢
      rw [← eT, en2, eg] at hv
      rw [en, eL]
      exact ⟨_, _, rfl, hv⟩
