/-! the class's load -/
def zLd (m : zMe) (q : Nat) (fr : Int) : Nat → zMe
  | 0 => m
  | k + 1 => if zGk (zLd m q fr k) 3 (m q (fr + 3 * (k : Int))) (m q (fr + 3 * (k : Int) + 1)) (m q (fr + 3 * (k : Int) + 2)) then zAg (zLd m q fr k) 3 (m q (fr + 3 * (k : Int))) (m q (fr + 3 * (k : Int) + 1)) (m q (fr + 3 * (k : Int) + 2)) else zLd m q fr k
def zLc (m : zMe) (q : Nat) (fr : Int) : Nat → Nat
  | 0 => 0
  | k + 1 => zLc m q fr k + (if zGk (zLd m q fr k) 3 (m q (fr + 3 * (k : Int))) (m q (fr + 3 * (k : Int) + 1)) (m q (fr + 3 * (k : Int) + 2)) then 1 else 0)
theorem zAg_c {m : zMe} {a b d : Int} {c : Nat} {j : Int} (h : ¬ (3 ≤ c ∧ c ≤ 10)) : zAg m 3 a b d c j = m c j := by
  unfold zAg
  simp (disch := omega) only [zU_c]
theorem zLd_c {m : zMe} {q : Nat} {fr : Int} {k c : Nat} {j : Int} (h : ¬ (3 ≤ c ∧ c ≤ 10)) : zLd m q fr k c j = m c j := by
  induction k with
  | zero => rfl
  | succ k ih =>
    unfold zLd
    split
    · rw [zAg_c h, ih]
    · exact ih
theorem zLd_Wf {m : zMe} {q : Nat} {fr : Int} {k : Nat} (hW : zWf m 3) : zWf (zLd m q fr k) 3 := by
  induction k with
  | zero => exact hW
  | succ k ih =>
    unfold zLd
    split
    · rename_i h
      exact zWf_gam ih h.2.2.2.2 h.1 h.2.1 h.2.2.1 h.2.2.2.1
    · exact ih
theorem zLc_le (m : zMe) (q : Nat) (fr : Int) (k : Nat) : zLc m q fr k ≤ k := by
  induction k with
  | zero => exact Nat.le_refl _
  | succ k ih =>
    unfold zLc
    split <;> omega
/-- what a load comes to -/
def zLp (m : zMe) (r q : Nat) (fr n : Int) (v : Int32) (m1 : zMe) (L : Nat → zMe) (C : Nat → Nat) : Prop := ∃ j : Nat, (j : Int) ≤ n ∧ (∀ k : Nat, k < j → zHo m r (fr + 3 * (k : Int)) 3) ∧ m1 = L j ∧ (((j : Int) = n ∧ v = zI (C j : Int)) ∨ ((j : Int) < n ∧ ¬ zHo m r (fr + 3 * (j : Int)) 3 ∧ v = zI (-12)))
set_option maxRecDepth 100000 in
set_option maxHeartbeats 1000000 in
theorem s6_load_l {m : zMe} {r : Nat} {fr n : Int} (hz : zS r) (hW : zWf m 3) (hsc : zSc m) (r1 : -2147483648 ≤ fr ∧ fr < 2147483648) (hn : 0 ≤ n ∧ n ≤ 9) : zOk (lp f_X6_load_74 600 (0, zI fr, zI n, r, zI 0, zI 0) (zM m)) (fun v m1 => zLp m r (r + 1) fr n v m1 (zLd m (r + 1) fr) (zLc m (r + 1) fr)) := by
  have hG : zG 3 := Or.inl rfl
  have hzl : r = 42 ∨ r = 44 ∨ r = 46 ∨ r = 48 := hz
  obtain ⟨h1, h2, h3⟩ := hsc r hz
  refine z_lp (fun nn v m1 => ∃ k : Nat, v = (0, zI fr, zI n, r, zI (zLc m (r + 1) fr k : Int), zI (k : Int)) ∧ (k : Int) ≤ n ∧ nn = (n - k).toNat ∧ m1 = zLd m (r + 1) fr k ∧ ∀ j : Nat, j < k → zHo m r (fr + 3 * (j : Int)) 3) (fun _ _ v m1 => zLp m r (r + 1) fr n v m1 (zLd m (r + 1) fr) (zLc m (r + 1) fr)) ?_ 600 n.toNat _ _ (by omega) ⟨0, rfl, by omega, by omega, rfl, fun j hj => absurd hj (by omega)⟩
  rintro nn v m1 kk ⟨k, rfl, hk1, rfl, rfl, hok⟩ hk
  have hlc := zLc_le m (r + 1) fr k
  have hW1 : zWf (zLd m (r + 1) fr k) 3 := zLd_Wf hW
  have hat : -2147483648 ≤ fr + 3 * (k : Int) ∧ fr + 3 * (k : Int) < 2147483648 := by
    by_cases hk0 : k = 0
    · subst hk0
      omega
    · have := hok 0 (by omega)
      unfold zHo at this
      omega
  unfold f_X6_load_74
  dsimp only
  (first
    | (with_reducible apply z_B; all_goals (intro _; try (exfalso; omega)))
    | (with_reducible apply z_E; all_goals intro _)
    | (with_reducible apply z_lt; (case ha => repeat (with_reducible first | exact zv_l _ | exact zv_r | apply zv_add | apply zv_sub | apply zv_mul | apply zv_neg)); (case hb => repeat (with_reducible first | exact zv_l _ | exact zv_r | apply zv_add | apply zv_sub | apply zv_mul | apply zv_neg)); (case hx => omega); (case hy => omega); all_goals (intro _; try (exfalso; omega)))
    | (with_reducible apply z_le; (case ha => repeat (with_reducible first | exact zv_l _ | exact zv_r | apply zv_add | apply zv_sub | apply zv_mul | apply zv_neg)); (case hb => repeat (with_reducible first | exact zv_l _ | exact zv_r | apply zv_add | apply zv_sub | apply zv_mul | apply zv_neg)); (case hx => omega); (case hy => omega); all_goals (intro _; try (exfalso; omega)))
    | (with_reducible apply z_eq; (case ha => repeat (with_reducible first | exact zv_l _ | exact zv_r | apply zv_add | apply zv_sub | apply zv_mul | apply zv_neg)); (case hb => repeat (with_reducible first | exact zv_l _ | exact zv_r | apply zv_add | apply zv_sub | apply zv_mul | apply zv_neg)); (case hx => omega); (case hy => omega); all_goals (intro _; try (exfalso; omega))))
  · refine ⟨_, _, rfl, k, by omega, hok, rfl, Or.inl ⟨by omega, rfl⟩⟩
  · refine z_nm (x := fr + 3 * (k : Int)) (zv_add rfl (zv_mul (zv_l 3) rfl)) ?_
    refine z_2holds hz rfl (n := 3) (zv_l 3) (by rw [zLd_c (by omega)]; exact h2) hat (by omega) ?_
    rw [zLd_c (by omega)]
    (first
    | (with_reducible apply z_B; all_goals (intro _; try (exfalso; omega)))
    | (with_reducible apply z_E; all_goals intro _)
    | (with_reducible apply z_lt; (case ha => repeat (with_reducible first | exact zv_l _ | exact zv_r | apply zv_add | apply zv_sub | apply zv_mul | apply zv_neg)); (case hb => repeat (with_reducible first | exact zv_l _ | exact zv_r | apply zv_add | apply zv_sub | apply zv_mul | apply zv_neg)); (case hx => omega); (case hy => omega); all_goals (intro _; try (exfalso; omega)))
    | (with_reducible apply z_le; (case ha => repeat (with_reducible first | exact zv_l _ | exact zv_r | apply zv_add | apply zv_sub | apply zv_mul | apply zv_neg)); (case hb => repeat (with_reducible first | exact zv_l _ | exact zv_r | apply zv_add | apply zv_sub | apply zv_mul | apply zv_neg)); (case hx => omega); (case hy => omega); all_goals (intro _; try (exfalso; omega)))
    | (with_reducible apply z_eq; (case ha => repeat (with_reducible first | exact zv_l _ | exact zv_r | apply zv_add | apply zv_sub | apply zv_mul | apply zv_neg)); (case hb => repeat (with_reducible first | exact zv_l _ | exact zv_r | apply zv_add | apply zv_sub | apply zv_mul | apply zv_neg)); (case hx => omega); (case hy => omega); all_goals (intro _; try (exfalso; omega))))
    · rename_i hh
      refine ⟨_, _, rfl, k, by omega, hok, rfl, Or.inr ⟨by omega, hh, rfl⟩⟩
    · rename_i hh
      have g0 := h3 (fr + 3 * (k : Int)) (by omega) (by omega)
      have g1 := h3 (fr + 3 * (k : Int) + 1) (by omega) (by omega)
      have g2 := h3 (fr + 3 * (k : Int) + 2) (by omega) (by omega)
      (first
    | (with_reducible apply z_nm; (case he => repeat (with_reducible first | exact zv_l _ | exact zv_r | apply zv_add | apply zv_sub | apply zv_mul | apply zv_neg)))
    | (with_reducible apply z_b_R; (case h => first | exact zs_R0 (by assumption) | with_unfolding_all rfl))
    | (with_reducible apply z_L; (case he => repeat (with_reducible first | exact zv_l _ | exact zv_r | apply zv_add | apply zv_sub | apply zv_mul | apply zv_neg)); (case hn => with_reducible first | assumption | exact zs_L (by assumption) | exact zl_2 | exact zl_9); (case h => omega); (case hy => first | ((simp (disch := omega) only [zU_c, zU_e, zU_k, zF_c, zF_i, zF_o, zW_o, zW_i, zC_c, zC_i, zC_o]); rfl) | rfl))
    | (with_reducible apply z_0addGame; (case a1 => assumption); (case e4 => repeat (with_reducible first | exact zv_l _ | exact zv_r | apply zv_add | apply zv_sub | apply zv_mul | apply zv_neg)); (case e5 => repeat (with_reducible first | exact zv_l _ | exact zv_r | apply zv_add | apply zv_sub | apply zv_mul | apply zv_neg)); (case e6 => repeat (with_reducible first | exact zv_l _ | exact zv_r | apply zv_add | apply zv_sub | apply zv_mul | apply zv_neg)); (case r1 => first | omega | ((simp (disch := omega) only [zU_c, zU_e, zU_k, zF_c, zF_i, zF_o, zW_o, zW_i, zC_c, zC_i, zC_o]); omega)); (case r2 => first | omega | ((simp (disch := omega) only [zU_c, zU_e, zU_k, zF_c, zF_i, zF_o, zW_o, zW_i, zC_c, zC_i, zC_o]); omega)); (case r3 => first | omega | ((simp (disch := omega) only [zU_c, zU_e, zU_k, zF_c, zF_i, zF_o, zW_o, zW_i, zC_c, zC_i, zC_o]); omega)); (case r4 => first | omega | ((simp (disch := omega) only [zU_c, zU_e, zU_k, zF_c, zF_i, zF_o, zW_o, zW_i, zC_c, zC_i, zC_o]); omega)); (case r5 => first | omega | ((simp (disch := omega) only [zU_c, zU_e, zU_k, zF_c, zF_i, zF_o, zW_o, zW_i, zC_c, zC_i, zC_o]); omega)))
    | (with_reducible apply z_2holds; (case a1 => assumption); (case e1 => repeat (with_reducible first | exact zv_l _ | exact zv_r | apply zv_add | apply zv_sub | apply zv_mul | apply zv_neg)); (case e2 => repeat (with_reducible first | exact zv_l _ | exact zv_r | apply zv_add | apply zv_sub | apply zv_mul | apply zv_neg)); (case r1 => first | omega | ((simp (disch := omega) only [zU_c, zU_e, zU_k, zF_c, zF_i, zF_o, zW_o, zW_i, zC_c, zC_i, zC_o]); omega)); (case r2 => first | omega | ((simp (disch := omega) only [zU_c, zU_e, zU_k, zF_c, zF_i, zF_o, zW_o, zW_i, zC_c, zC_i, zC_o]); omega)); (case r3 => first | omega | ((simp (disch := omega) only [zU_c, zU_e, zU_k, zF_c, zF_i, zF_o, zW_o, zW_i, zC_c, zC_i, zC_o]); omega))))
      refine z_b (zs_R0 hz) ?_
      refine z_L (y := m (r + 1) (fr + 3 * (k : Int))) rfl (zs_L hz) (by omega) (zLd_c (by omega)) ?_
      refine z_b (zs_R0 hz) ?_
      refine z_L (x := fr + 3 * (k : Int) + 1) (y := m (r + 1) (fr + 3 * (k : Int) + 1)) (zv_add rfl (zv_l 1)) (zs_L hz) (by omega) (zLd_c (by omega)) ?_
      refine z_b (zs_R0 hz) ?_
      refine z_L (x := fr + 3 * (k : Int) + 2) (y := m (r + 1) (fr + 3 * (k : Int) + 2)) (zv_add rfl (zv_l 2)) (zs_L hz) (by omega) (zLd_c (by omega)) ?_
      refine z_0addGame hG rfl rfl rfl hW1.1.1 hW1.1.2.1 g0 g1 g2 ?_
      have hnok : ∀ j : Nat, j < k + 1 → zHo m r (fr + 3 * (j : Int)) 3 := fun j hj => by
        by_cases hq : j = k
        · subst hq
          exact hh
        · exact hok j (by omega)
      by_cases hg : zGk (zLd m (r + 1) fr k) 3 (m (r + 1) (fr + 3 * (k : Int))) (m (r + 1) (fr + 3 * (k : Int) + 1)) (m (r + 1) (fr + 3 * (k : Int) + 2))
      · have e1 : zLd m (r + 1) fr (k + 1) = zAg (zLd m (r + 1) fr k) 3 (m (r + 1) (fr + 3 * (k : Int))) (m (r + 1) (fr + 3 * (k : Int) + 1)) (m (r + 1) (fr + 3 * (k : Int) + 2)) := if_pos hg
        have e2 : zLc m (r + 1) fr (k + 1) = zLc m (r + 1) fr k + 1 := by
          show _ + _ = _
          rw [if_pos hg]
        rw [if_pos hg, if_pos hg]
        have hN := hW1.1.2.1
        refine z_eq (x := zLd m (r + 1) fr k 3 1) (y := -1) rfl rfl (by omega) (by omega) (fun q => by exfalso; omega) (fun _ => ?_)
        repeat' (first
    | (with_reducible apply z_nm; (case he => repeat (with_reducible first | exact zv_l _ | exact zv_r | apply zv_add | apply zv_sub | apply zv_mul | apply zv_neg)))
    | (with_reducible apply z_b_R; (case h => first | exact zs_R0 (by assumption) | with_unfolding_all rfl))
    | (with_reducible apply z_L; (case he => repeat (with_reducible first | exact zv_l _ | exact zv_r | apply zv_add | apply zv_sub | apply zv_mul | apply zv_neg)); (case hn => with_reducible first | assumption | exact zs_L (by assumption) | exact zl_2 | exact zl_9); (case h => omega); (case hy => first | ((simp (disch := omega) only [zU_c, zU_e, zU_k, zF_c, zF_i, zF_o, zW_o, zW_i, zC_c, zC_i, zC_o]); rfl) | rfl))
    | (with_reducible apply z_0addGame; (case a1 => assumption); (case e4 => repeat (with_reducible first | exact zv_l _ | exact zv_r | apply zv_add | apply zv_sub | apply zv_mul | apply zv_neg)); (case e5 => repeat (with_reducible first | exact zv_l _ | exact zv_r | apply zv_add | apply zv_sub | apply zv_mul | apply zv_neg)); (case e6 => repeat (with_reducible first | exact zv_l _ | exact zv_r | apply zv_add | apply zv_sub | apply zv_mul | apply zv_neg)); (case r1 => first | omega | ((simp (disch := omega) only [zU_c, zU_e, zU_k, zF_c, zF_i, zF_o, zW_o, zW_i, zC_c, zC_i, zC_o]); omega)); (case r2 => first | omega | ((simp (disch := omega) only [zU_c, zU_e, zU_k, zF_c, zF_i, zF_o, zW_o, zW_i, zC_c, zC_i, zC_o]); omega)); (case r3 => first | omega | ((simp (disch := omega) only [zU_c, zU_e, zU_k, zF_c, zF_i, zF_o, zW_o, zW_i, zC_c, zC_i, zC_o]); omega)); (case r4 => first | omega | ((simp (disch := omega) only [zU_c, zU_e, zU_k, zF_c, zF_i, zF_o, zW_o, zW_i, zC_c, zC_i, zC_o]); omega)); (case r5 => first | omega | ((simp (disch := omega) only [zU_c, zU_e, zU_k, zF_c, zF_i, zF_o, zW_o, zW_i, zC_c, zC_i, zC_o]); omega)))
    | (with_reducible apply z_2holds; (case a1 => assumption); (case e1 => repeat (with_reducible first | exact zv_l _ | exact zv_r | apply zv_add | apply zv_sub | apply zv_mul | apply zv_neg)); (case e2 => repeat (with_reducible first | exact zv_l _ | exact zv_r | apply zv_add | apply zv_sub | apply zv_mul | apply zv_neg)); (case r1 => first | omega | ((simp (disch := omega) only [zU_c, zU_e, zU_k, zF_c, zF_i, zF_o, zW_o, zW_i, zC_c, zC_i, zC_o]); omega)); (case r2 => first | omega | ((simp (disch := omega) only [zU_c, zU_e, zU_k, zF_c, zF_i, zF_o, zW_o, zW_i, zC_c, zC_i, zC_o]); omega)); (case r3 => first | omega | ((simp (disch := omega) only [zU_c, zU_e, zU_k, zF_c, zF_i, zF_o, zW_o, zW_i, zC_c, zC_i, zC_o]); omega))))
        refine hk _ _ _ (by omega) ⟨k + 1, ?_, by omega, rfl, e1.symm, hnok⟩
        rw [e2]
        rfl
      · have e1 : zLd m (r + 1) fr (k + 1) = zLd m (r + 1) fr k := if_neg hg
        have e2 : zLc m (r + 1) fr (k + 1) = zLc m (r + 1) fr k := by
          show _ + _ = _
          rw [if_neg hg]
          rfl
        rw [if_neg hg, if_neg hg]
        refine z_eq (x := -1) (y := -1) rfl rfl (by omega) (by omega) (fun _ => ?_) (fun q => absurd rfl q)
        repeat' (first
    | (with_reducible apply z_nm; (case he => repeat (with_reducible first | exact zv_l _ | exact zv_r | apply zv_add | apply zv_sub | apply zv_mul | apply zv_neg)))
    | (with_reducible apply z_b_R; (case h => first | exact zs_R0 (by assumption) | with_unfolding_all rfl))
    | (with_reducible apply z_L; (case he => repeat (with_reducible first | exact zv_l _ | exact zv_r | apply zv_add | apply zv_sub | apply zv_mul | apply zv_neg)); (case hn => with_reducible first | assumption | exact zs_L (by assumption) | exact zl_2 | exact zl_9); (case h => omega); (case hy => first | ((simp (disch := omega) only [zU_c, zU_e, zU_k, zF_c, zF_i, zF_o, zW_o, zW_i, zC_c, zC_i, zC_o]); rfl) | rfl))
    | (with_reducible apply z_0addGame; (case a1 => assumption); (case e4 => repeat (with_reducible first | exact zv_l _ | exact zv_r | apply zv_add | apply zv_sub | apply zv_mul | apply zv_neg)); (case e5 => repeat (with_reducible first | exact zv_l _ | exact zv_r | apply zv_add | apply zv_sub | apply zv_mul | apply zv_neg)); (case e6 => repeat (with_reducible first | exact zv_l _ | exact zv_r | apply zv_add | apply zv_sub | apply zv_mul | apply zv_neg)); (case r1 => first | omega | ((simp (disch := omega) only [zU_c, zU_e, zU_k, zF_c, zF_i, zF_o, zW_o, zW_i, zC_c, zC_i, zC_o]); omega)); (case r2 => first | omega | ((simp (disch := omega) only [zU_c, zU_e, zU_k, zF_c, zF_i, zF_o, zW_o, zW_i, zC_c, zC_i, zC_o]); omega)); (case r3 => first | omega | ((simp (disch := omega) only [zU_c, zU_e, zU_k, zF_c, zF_i, zF_o, zW_o, zW_i, zC_c, zC_i, zC_o]); omega)); (case r4 => first | omega | ((simp (disch := omega) only [zU_c, zU_e, zU_k, zF_c, zF_i, zF_o, zW_o, zW_i, zC_c, zC_i, zC_o]); omega)); (case r5 => first | omega | ((simp (disch := omega) only [zU_c, zU_e, zU_k, zF_c, zF_i, zF_o, zW_o, zW_i, zC_c, zC_i, zC_o]); omega)))
    | (with_reducible apply z_2holds; (case a1 => assumption); (case e1 => repeat (with_reducible first | exact zv_l _ | exact zv_r | apply zv_add | apply zv_sub | apply zv_mul | apply zv_neg)); (case e2 => repeat (with_reducible first | exact zv_l _ | exact zv_r | apply zv_add | apply zv_sub | apply zv_mul | apply zv_neg)); (case r1 => first | omega | ((simp (disch := omega) only [zU_c, zU_e, zU_k, zF_c, zF_i, zF_o, zW_o, zW_i, zC_c, zC_i, zC_o]); omega)); (case r2 => first | omega | ((simp (disch := omega) only [zU_c, zU_e, zU_k, zF_c, zF_i, zF_o, zW_o, zW_i, zC_c, zC_i, zC_o]); omega)); (case r3 => first | omega | ((simp (disch := omega) only [zU_c, zU_e, zU_k, zF_c, zF_i, zF_o, zW_o, zW_i, zC_c, zC_i, zC_o]); omega))))
        refine hk _ _ _ (by omega) ⟨k + 1, ?_, by omega, rfl, e1.symm, hnok⟩
        rw [e2]
        rfl
/-- what load answers, by what it is asked -/
def zLq (m : zMe) (s x n : Int) (v : Int32) (m1 : zMe) (P : Prop) : Prop := (¬ ((0 ≤ s ∧ s < 4) ∧ (x = 0 ∨ x = 1) ∧ (0 ≤ n ∧ n ≤ 9)) ∧ v = zI (-2) ∧ m1 = m) ∨ (((0 ≤ s ∧ s < 4) ∧ (x = 0 ∨ x = 1) ∧ (0 ≤ n ∧ n ≤ 9)) ∧ ((m (zSh s) 1 = -1 ∧ v = zI (-11) ∧ m1 = m) ∨ (¬ m (zSh s) 1 = -1 ∧ ¬ m (zSh s) 1 = x ∧ v = zI (-13) ∧ m1 = m) ∨ (m (zSh s) 1 = x ∧ P)))
set_option maxRecDepth 100000 in
set_option maxHeartbeats 1000000 in
theorem s_6load {m : zMe} {e1 e2 e3 e4 : Int32} {s x fr n : Int} (e5 : e1 = zI s) (e6 : e2 = zI x) (e7 : e3 = zI fr) (e8 : e4 = zI n) (r1 : -2147483648 ≤ s ∧ s < 2147483648) (r2 : -2147483648 ≤ x ∧ x < 2147483648) (r3 : -2147483648 ≤ fr ∧ fr < 2147483648) (r4 : -2147483648 ≤ n ∧ n < 2147483648) (a1 : zWf m 3) (a2 : zSc m) : zOk (f_X6_load 0 e1 e2 e3 e4 (zM m)) (fun v m1 => zLq m s x n v m1 (zLp m (zSh s) (zSh s + 1) fr n v m1 (zLd m (zSh s + 1) fr) (zLc m (zSh s + 1) fr))) := by
  subst e5; subst e6; subst e7; subst e8
  unfold f_X6_load
  (first
    | (with_reducible apply z_nm; (case he => repeat (with_reducible first | exact zv_l _ | exact zv_r | apply zv_add | apply zv_neg)))
    | (with_reducible apply z_b_ck; (case h => with_unfolding_all rfl))
    | (with_reducible apply z_I; (case h => first | exact zs_I1 (by assumption) | with_unfolding_all rfl); (case hy => first | ((simp (disch := omega) only [zU_c, zU_e, zU_k, zF_c, zF_i, zF_o, zW_o, zW_i, zC_c, zC_i, zC_o]); rfl) | rfl))
    | (with_reducible apply z_b_R; (case h => first | with_unfolding_all rfl))
    | (with_reducible apply z_Q; (case he => repeat (with_reducible first | exact zv_l _ | exact zv_r | apply zv_add | apply zv_neg)); (case h => omega))
    | (with_reducible apply z_6isSheet; (case e1 => repeat (with_reducible first | exact zv_l _ | exact zv_r | apply zv_add | apply zv_neg)); (case r1 => first | omega | ((simp (disch := omega) only [zU_c, zU_e, zU_k, zF_c, zF_i, zF_o, zW_o, zW_i, zC_c, zC_i, zC_o]); omega)))
    | (with_reducible apply z_6isSort; (case e1 => repeat (with_reducible first | exact zv_l _ | exact zv_r | apply zv_add | apply zv_neg)); (case r1 => first | omega | ((simp (disch := omega) only [zU_c, zU_e, zU_k, zF_c, zF_i, zF_o, zW_o, zW_i, zC_c, zC_i, zC_o]); omega)))
    | (with_reducible apply z_2isMissing; (case a1 => assumption); (case r1 => first | omega | ((simp (disch := omega) only [zU_c, zU_e, zU_k, zF_c, zF_i, zF_o, zW_o, zW_i, zC_c, zC_i, zC_o]); omega))))
  (first
    | (with_reducible apply z_nm; (case he => repeat (with_reducible first | exact zv_l _ | exact zv_r | apply zv_add | apply zv_neg)))
    | (with_reducible apply z_b_ck; (case h => with_unfolding_all rfl))
    | (with_reducible apply z_I; (case h => first | exact zs_I1 (by assumption) | with_unfolding_all rfl); (case hy => first | ((simp (disch := omega) only [zU_c, zU_e, zU_k, zF_c, zF_i, zF_o, zW_o, zW_i, zC_c, zC_i, zC_o]); rfl) | rfl))
    | (with_reducible apply z_b_R; (case h => first | with_unfolding_all rfl))
    | (with_reducible apply z_Q; (case he => repeat (with_reducible first | exact zv_l _ | exact zv_r | apply zv_add | apply zv_neg)); (case h => omega))
    | (with_reducible apply z_6isSheet; (case e1 => repeat (with_reducible first | exact zv_l _ | exact zv_r | apply zv_add | apply zv_neg)); (case r1 => first | omega | ((simp (disch := omega) only [zU_c, zU_e, zU_k, zF_c, zF_i, zF_o, zW_o, zW_i, zC_c, zC_i, zC_o]); omega)))
    | (with_reducible apply z_6isSort; (case e1 => repeat (with_reducible first | exact zv_l _ | exact zv_r | apply zv_add | apply zv_neg)); (case r1 => first | omega | ((simp (disch := omega) only [zU_c, zU_e, zU_k, zF_c, zF_i, zF_o, zW_o, zW_i, zC_c, zC_i, zC_o]); omega)))
    | (with_reducible apply z_2isMissing; (case a1 => assumption); (case r1 => first | omega | ((simp (disch := omega) only [zU_c, zU_e, zU_k, zF_c, zF_i, zF_o, zW_o, zW_i, zC_c, zC_i, zC_o]); omega))))
  (first
    | (with_reducible apply z_B; all_goals (intro _; try (exfalso; omega)))
    | (with_reducible apply z_E; all_goals intro _)
    | (with_reducible apply z_lt; (case ha => repeat (with_reducible first | exact zv_l _ | exact zv_r | apply zv_add | apply zv_neg)); (case hb => repeat (with_reducible first | exact zv_l _ | exact zv_r | apply zv_add | apply zv_neg)); (case hx => omega); (case hy => omega); all_goals (intro _; try (exfalso; omega)))
    | (with_reducible apply z_le; (case ha => repeat (with_reducible first | exact zv_l _ | exact zv_r | apply zv_add | apply zv_neg)); (case hb => repeat (with_reducible first | exact zv_l _ | exact zv_r | apply zv_add | apply zv_neg)); (case hx => omega); (case hy => omega); all_goals (intro _; try (exfalso; omega)))
    | (with_reducible apply z_eq; (case ha => repeat (with_reducible first | exact zv_l _ | exact zv_r | apply zv_add | apply zv_neg)); (case hb => repeat (with_reducible first | exact zv_l _ | exact zv_r | apply zv_add | apply zv_neg)); (case hx => omega); (case hy => omega); all_goals (intro _; try (exfalso; omega))))
  · exact ⟨_, _, rfl, Or.inl ⟨by omega, rfl, rfl⟩⟩
  · rename_i hs
    have hz := zS_Sh hs
    have hsc := a2 _ hz
    (first
    | (with_reducible apply z_nm; (case he => repeat (with_reducible first | exact zv_l _ | exact zv_r | apply zv_add | apply zv_neg)))
    | (with_reducible apply z_b_ck; (case h => with_unfolding_all rfl))
    | (with_reducible apply z_I; (case h => first | exact zs_I1 (by assumption) | with_unfolding_all rfl); (case hy => first | ((simp (disch := omega) only [zU_c, zU_e, zU_k, zF_c, zF_i, zF_o, zW_o, zW_i, zC_c, zC_i, zC_o]); rfl) | rfl))
    | (with_reducible apply z_b_R; (case h => first | with_unfolding_all rfl))
    | (with_reducible apply z_Q; (case he => repeat (with_reducible first | exact zv_l _ | exact zv_r | apply zv_add | apply zv_neg)); (case h => omega))
    | (with_reducible apply z_6isSheet; (case e1 => repeat (with_reducible first | exact zv_l _ | exact zv_r | apply zv_add | apply zv_neg)); (case r1 => first | omega | ((simp (disch := omega) only [zU_c, zU_e, zU_k, zF_c, zF_i, zF_o, zW_o, zW_i, zC_c, zC_i, zC_o]); omega)))
    | (with_reducible apply z_6isSort; (case e1 => repeat (with_reducible first | exact zv_l _ | exact zv_r | apply zv_add | apply zv_neg)); (case r1 => first | omega | ((simp (disch := omega) only [zU_c, zU_e, zU_k, zF_c, zF_i, zF_o, zW_o, zW_i, zC_c, zC_i, zC_o]); omega)))
    | (with_reducible apply z_2isMissing; (case a1 => assumption); (case r1 => first | omega | ((simp (disch := omega) only [zU_c, zU_e, zU_k, zF_c, zF_i, zF_o, zW_o, zW_i, zC_c, zC_i, zC_o]); omega))))
    (first
    | (with_reducible apply z_B; all_goals (intro _; try (exfalso; omega)))
    | (with_reducible apply z_E; all_goals intro _)
    | (with_reducible apply z_lt; (case ha => repeat (with_reducible first | exact zv_l _ | exact zv_r | apply zv_add | apply zv_neg)); (case hb => repeat (with_reducible first | exact zv_l _ | exact zv_r | apply zv_add | apply zv_neg)); (case hx => omega); (case hy => omega); all_goals (intro _; try (exfalso; omega)))
    | (with_reducible apply z_le; (case ha => repeat (with_reducible first | exact zv_l _ | exact zv_r | apply zv_add | apply zv_neg)); (case hb => repeat (with_reducible first | exact zv_l _ | exact zv_r | apply zv_add | apply zv_neg)); (case hx => omega); (case hy => omega); all_goals (intro _; try (exfalso; omega)))
    | (with_reducible apply z_eq; (case ha => repeat (with_reducible first | exact zv_l _ | exact zv_r | apply zv_add | apply zv_neg)); (case hb => repeat (with_reducible first | exact zv_l _ | exact zv_r | apply zv_add | apply zv_neg)); (case hx => omega); (case hy => omega); all_goals (intro _; try (exfalso; omega))))
    · exact ⟨_, _, rfl, Or.inl ⟨by omega, rfl, rfl⟩⟩
    · (first
    | (with_reducible apply z_B; all_goals (intro _; try (exfalso; omega)))
    | (with_reducible apply z_E; all_goals intro _)
    | (with_reducible apply z_lt; (case ha => repeat (with_reducible first | exact zv_l _ | exact zv_r | apply zv_add | apply zv_neg)); (case hb => repeat (with_reducible first | exact zv_l _ | exact zv_r | apply zv_add | apply zv_neg)); (case hx => omega); (case hy => omega); all_goals (intro _; try (exfalso; omega)))
    | (with_reducible apply z_le; (case ha => repeat (with_reducible first | exact zv_l _ | exact zv_r | apply zv_add | apply zv_neg)); (case hb => repeat (with_reducible first | exact zv_l _ | exact zv_r | apply zv_add | apply zv_neg)); (case hx => omega); (case hy => omega); all_goals (intro _; try (exfalso; omega)))
    | (with_reducible apply z_eq; (case ha => repeat (with_reducible first | exact zv_l _ | exact zv_r | apply zv_add | apply zv_neg)); (case hb => repeat (with_reducible first | exact zv_l _ | exact zv_r | apply zv_add | apply zv_neg)); (case hx => omega); (case hy => omega); all_goals (intro _; try (exfalso; omega))))
      · exact ⟨_, _, rfl, Or.inl ⟨by omega, rfl, rfl⟩⟩
      · (first
    | (with_reducible apply z_B; all_goals (intro _; try (exfalso; omega)))
    | (with_reducible apply z_E; all_goals intro _)
    | (with_reducible apply z_lt; (case ha => repeat (with_reducible first | exact zv_l _ | exact zv_r | apply zv_add | apply zv_neg)); (case hb => repeat (with_reducible first | exact zv_l _ | exact zv_r | apply zv_add | apply zv_neg)); (case hx => omega); (case hy => omega); all_goals (intro _; try (exfalso; omega)))
    | (with_reducible apply z_le; (case ha => repeat (with_reducible first | exact zv_l _ | exact zv_r | apply zv_add | apply zv_neg)); (case hb => repeat (with_reducible first | exact zv_l _ | exact zv_r | apply zv_add | apply zv_neg)); (case hx => omega); (case hy => omega); all_goals (intro _; try (exfalso; omega)))
    | (with_reducible apply z_eq; (case ha => repeat (with_reducible first | exact zv_l _ | exact zv_r | apply zv_add | apply zv_neg)); (case hb => repeat (with_reducible first | exact zv_l _ | exact zv_r | apply zv_add | apply zv_neg)); (case hx => omega); (case hy => omega); all_goals (intro _; try (exfalso; omega))))
        · (first
    | (with_reducible apply z_nm; (case he => repeat (with_reducible first | exact zv_l _ | exact zv_r | apply zv_add | apply zv_neg)))
    | (with_reducible apply z_b_ck; (case h => with_unfolding_all rfl))
    | (with_reducible apply z_I; (case h => first | exact zs_I1 (by assumption) | with_unfolding_all rfl); (case hy => first | ((simp (disch := omega) only [zU_c, zU_e, zU_k, zF_c, zF_i, zF_o, zW_o, zW_i, zC_c, zC_i, zC_o]); rfl) | rfl))
    | (with_reducible apply z_b_R; (case h => first | with_unfolding_all rfl))
    | (with_reducible apply z_Q; (case he => repeat (with_reducible first | exact zv_l _ | exact zv_r | apply zv_add | apply zv_neg)); (case h => omega))
    | (with_reducible apply z_6isSheet; (case e1 => repeat (with_reducible first | exact zv_l _ | exact zv_r | apply zv_add | apply zv_neg)); (case r1 => first | omega | ((simp (disch := omega) only [zU_c, zU_e, zU_k, zF_c, zF_i, zF_o, zW_o, zW_i, zC_c, zC_i, zC_o]); omega)))
    | (with_reducible apply z_6isSort; (case e1 => repeat (with_reducible first | exact zv_l _ | exact zv_r | apply zv_add | apply zv_neg)); (case r1 => first | omega | ((simp (disch := omega) only [zU_c, zU_e, zU_k, zF_c, zF_i, zF_o, zW_o, zW_i, zC_c, zC_i, zC_o]); omega)))
    | (with_reducible apply z_2isMissing; (case a1 => assumption); (case r1 => first | omega | ((simp (disch := omega) only [zU_c, zU_e, zU_k, zF_c, zF_i, zF_o, zW_o, zW_i, zC_c, zC_i, zC_o]); omega))))
          refine z_Q rfl hs ?_
          refine z_2isMissing hz hsc.1 ?_
          (first
    | (with_reducible apply z_B; all_goals (intro _; try (exfalso; omega)))
    | (with_reducible apply z_E; all_goals intro _)
    | (with_reducible apply z_lt; (case ha => repeat (with_reducible first | exact zv_l _ | exact zv_r | apply zv_add | apply zv_neg)); (case hb => repeat (with_reducible first | exact zv_l _ | exact zv_r | apply zv_add | apply zv_neg)); (case hx => omega); (case hy => omega); all_goals (intro _; try (exfalso; omega)))
    | (with_reducible apply z_le; (case ha => repeat (with_reducible first | exact zv_l _ | exact zv_r | apply zv_add | apply zv_neg)); (case hb => repeat (with_reducible first | exact zv_l _ | exact zv_r | apply zv_add | apply zv_neg)); (case hx => omega); (case hy => omega); all_goals (intro _; try (exfalso; omega)))
    | (with_reducible apply z_eq; (case ha => repeat (with_reducible first | exact zv_l _ | exact zv_r | apply zv_add | apply zv_neg)); (case hb => repeat (with_reducible first | exact zv_l _ | exact zv_r | apply zv_add | apply zv_neg)); (case hx => omega); (case hy => omega); all_goals (intro _; try (exfalso; omega))))
          · rename_i hm
            refine z_b (zs_I1 hz) ?_
            (first
    | (with_reducible apply z_B; all_goals (intro _; try (exfalso; omega)))
    | (with_reducible apply z_E; all_goals intro _)
    | (with_reducible apply z_lt; (case ha => repeat (with_reducible first | exact zv_l _ | exact zv_r | apply zv_add | apply zv_neg)); (case hb => repeat (with_reducible first | exact zv_l _ | exact zv_r | apply zv_add | apply zv_neg)); (case hx => omega); (case hy => omega); all_goals (intro _; try (exfalso; omega)))
    | (with_reducible apply z_le; (case ha => repeat (with_reducible first | exact zv_l _ | exact zv_r | apply zv_add | apply zv_neg)); (case hb => repeat (with_reducible first | exact zv_l _ | exact zv_r | apply zv_add | apply zv_neg)); (case hx => omega); (case hy => omega); all_goals (intro _; try (exfalso; omega)))
    | (with_reducible apply z_eq; (case ha => repeat (with_reducible first | exact zv_l _ | exact zv_r | apply zv_add | apply zv_neg)); (case hb => repeat (with_reducible first | exact zv_l _ | exact zv_r | apply zv_add | apply zv_neg)); (case hx => omega); (case hy => omega); all_goals (intro _; try (exfalso; omega))))
            · rename_i hx
              unfold f_X6_load_57
              refine z_2isMissing hz hsc.1 ?_
              refine z_B (fun _ => ?_) (fun q => absurd q hm)
              exact zOk.mono (s6_load_l hz a1 a2 r3 (by omega)) (fun v m1 q => Or.inr ⟨⟨hs, by omega, by omega⟩, Or.inr (Or.inr ⟨hx, q⟩)⟩)
            · rename_i hx
              exact ⟨_, _, rfl, Or.inr ⟨⟨hs, by omega, by omega⟩, Or.inr (Or.inl ⟨hm, hx, rfl, rfl⟩)⟩⟩
          · rename_i hm
            unfold f_X6_load_57
            refine z_2isMissing hz hsc.1 ?_
            refine z_B (fun q => absurd hm q) (fun _ => ?_)
            exact ⟨_, _, rfl, Or.inr ⟨⟨hs, by omega, by omega⟩, Or.inl ⟨hm, rfl, rfl⟩⟩⟩
        · exact ⟨_, _, rfl, Or.inl ⟨by omega, rfl, rfl⟩⟩
theorem z_6load {m : zMe} {e1 e2 e3 e4 : Int32} {s x fr n : Int} (e5 : e1 = zI s) (e6 : e2 = zI x) (e7 : e3 = zI fr) (e8 : e4 = zI n) (r1 : -2147483648 ≤ s ∧ s < 2147483648) (r2 : -2147483648 ≤ x ∧ x < 2147483648) (r3 : -2147483648 ≤ fr ∧ fr < 2147483648) (r4 : -2147483648 ≤ n ∧ n < 2147483648) (a1 : zWf m 3) (a2 : zSc m) {α : Type} {kf : Int32 × Hp → Option (α × Hp)} {Q : α → zMe → Prop} (K : ∀ (v : Int32) (m1 : zMe), (fun v m1 => zLq m s x n v m1 (zLp m (zSh s) (zSh s + 1) fr n v m1 (zLd m (zSh s + 1) fr) (zLc m (zSh s + 1) fr))) v m1 → zOk (kf (v, zM m1)) Q) : zOk ((f_X6_load 0 e1 e2 e3 e4 (zM m)).bind kf) Q := z_call (s_6load e5 e6 e7 e8 r1 r2 r3 r4 a1 a2) K
