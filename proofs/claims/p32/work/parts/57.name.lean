/-! Group: names, teams, games that come, the next game between two -/
noncomputable def zFst : Nat → (Nat → Prop) → Int
  | 0, _ => -1
  | n + 1, p => if zFst n p = -1 then @ite Int (p n) (Classical.propDecidable (p n)) (n : Int) (-1) else zFst n p
theorem zFst_none {n : Nat} {p : Nat → Prop} (h : ∀ k, k < n → ¬ p k) : zFst n p = -1 := by
  induction n with
  | zero => rfl
  | succ n ih =>
    show (if zFst n p = -1 then @ite Int (p n) (Classical.propDecidable (p n)) (n : Int) (-1) else zFst n p) = -1
    rw [if_pos (ih (fun k hk => h k (by omega))), @if_neg _ (Classical.propDecidable (p n)) (h n (by omega))]
theorem zFst_at {n k : Nat} {p : Nat → Prop} (hk : k < n) (hp : p k) (h : ∀ j, j < k → ¬ p j) : zFst n p = (k : Int) := by
  induction n with
  | zero => omega
  | succ n ih =>
    show (if zFst n p = -1 then @ite Int (p n) (Classical.propDecidable (p n)) (n : Int) (-1) else zFst n p) = (k : Int)
    by_cases e : k = n
    · subst e
      rw [if_pos (zFst_none h), @if_pos _ (Classical.propDecidable (p k)) hp]
    · rw [ih (by omega), if_neg (by omega)]
theorem zFst_range (n : Nat) (p : Nat → Prop) : -1 ≤ zFst n p ∧ zFst n p < n := by
  induction n with
  | zero =>
    refine ⟨Int.le_refl _, ?_⟩
    show (-1 : Int) < 0
    omega
  | succ n ih =>
    show -1 ≤ (if zFst n p = -1 then @ite Int (p n) (Classical.propDecidable (p n)) (n : Int) (-1) else zFst n p) ∧ (if zFst n p = -1 then @ite Int (p n) (Classical.propDecidable (p n)) (n : Int) (-1) else zFst n p) < _
    by_cases h : zFst n p = -1
    · rw [if_pos h]
      by_cases hp : p n
      · rw [@if_pos _ (Classical.propDecidable (p n)) hp]
        omega
      · rw [@if_neg _ (Classical.propDecidable (p n)) hp]
        omega
    · rw [if_neg h]
      omega
/-- whether t bears the name of these bytes -/
def zNm (m : zMe) (r : Nat) (t b e : Int) : Prop := m (r + 2) t = e - b ∧ ∀ i, 0 ≤ i → i < e - b → m (r + 3) (t * 6 + i) = m 2 (b + i)
theorem s0_nm_l {m : zMe} {r : Nat} {t b e : Int} (a1 : zG r) (ht : 0 ≤ t ∧ t < 6) (hb : 0 ≤ b ∧ b + m (r + 2) t ≤ 40) (hs : 0 ≤ m (r + 2) t ∧ m (r + 2) t ≤ 6) (he : m (r + 2) t = e - b) (hl : ∀ j, 0 ≤ j → j < 36 → 0 ≤ m (r + 3) j ∧ m (r + 3) j ≤ 255) (hy : ∀ j, 0 ≤ j → j < 40 → 0 ≤ m 2 j ∧ m 2 j ≤ 255) : zOk (lp f_X0_isNamed_18 600 (r, zI t, 2, zI b, zI 0) (zM m)) (fun v m1 => v = zI (zE (zNm m r t b e)) ∧ m1 = m) := by
  refine z_lp (fun n v m1 => ∃ i : Int, v = (r, zI t, 2, zI b, zI i) ∧ 0 ≤ i ∧ i ≤ m (r + 2) t ∧ n = (m (r + 2) t - i).toNat ∧ m1 = m ∧ ∀ k, 0 ≤ k → k < i → m (r + 3) (t * 6 + k) = m 2 (b + k)) (fun _ _ v m1 => v = zI (zE (zNm m r t b e)) ∧ m1 = m) ?_ 600 (m (r + 2) t).toNat _ m (by omega) ⟨0, rfl, by omega, by omega, by omega, rfl, fun k h0 h1 => by exfalso; omega⟩
  rintro n v m1 k ⟨i, rfl, h0, h1, rfl, rfl, hw⟩ hk
  have g1 := hl (t * 6 + i)
  have g2 := hy (b + i)
  unfold f_X0_isNamed_18
  dsimp only
  repeat' (first
    | (with_reducible apply z_nm; (case he => repeat (with_reducible first | exact zv_l _ | exact zv_r | apply zv_add | apply zv_sub | apply zv_mul)))
    | (with_reducible apply z_b_R; (case h => first | exact zg_R4 (by assumption) | exact zg_R5 (by assumption) | with_unfolding_all rfl))
    | (with_reducible apply z_L; (case he => repeat (with_reducible first | exact zv_l _ | exact zv_r | apply zv_add | apply zv_sub | apply zv_mul)); (case hn => with_reducible first | assumption | exact zg_L4 (by assumption) | exact zg_L5 (by assumption) | exact zl_2 | exact zl_4 | exact zl_5 | exact zl_6 | exact zl_7 | exact zl_8 | exact zl_9 | exact zl_10 | exact zl_40); (case h => omega); (case hy => first | ((simp (disch := omega) only [zU_c, zU_e, zU_k, zF_c, zF_i, zF_o, zW_o, zW_i, zC_c, zC_i, zC_o]); rfl) | rfl)))
  (first
    | (with_reducible apply z_B; all_goals (intro _; try (exfalso; omega)))
    | (with_reducible apply z_E; all_goals intro _)
    | (with_reducible apply z_lt; (case ha => repeat (with_reducible first | exact zv_l _ | exact zv_r | apply zv_add | apply zv_sub | apply zv_mul)); (case hb => repeat (with_reducible first | exact zv_l _ | exact zv_r | apply zv_add | apply zv_sub | apply zv_mul)); (case hx => omega); (case hy => omega); all_goals (intro _; try (exfalso; omega)))
    | (with_reducible apply z_le; (case ha => repeat (with_reducible first | exact zv_l _ | exact zv_r | apply zv_add | apply zv_sub | apply zv_mul)); (case hb => repeat (with_reducible first | exact zv_l _ | exact zv_r | apply zv_add | apply zv_sub | apply zv_mul)); (case hx => omega); (case hy => omega); all_goals (intro _; try (exfalso; omega)))
    | (with_reducible apply z_eq; (case ha => repeat (with_reducible first | exact zv_l _ | exact zv_r | apply zv_add | apply zv_sub | apply zv_mul)); (case hb => repeat (with_reducible first | exact zv_l _ | exact zv_r | apply zv_add | apply zv_sub | apply zv_mul)); (case hx => omega); (case hy => omega); all_goals (intro _; try (exfalso; omega))))
  · refine zE_r1 ⟨he, fun k q0 q1 => hw k q0 (by omega)⟩
  · have g1 := g1 (by omega) (by omega)
    have g2 := g2 (by omega) (by omega)
    repeat' (first | (first
    | (with_reducible apply z_nm; (case he => repeat (with_reducible first | exact zv_l _ | exact zv_r | apply zv_add | apply zv_sub | apply zv_mul)))
    | (with_reducible apply z_b_R; (case h => first | exact zg_R4 (by assumption) | exact zg_R5 (by assumption) | with_unfolding_all rfl))
    | (with_reducible apply z_L; (case he => repeat (with_reducible first | exact zv_l _ | exact zv_r | apply zv_add | apply zv_sub | apply zv_mul)); (case hn => with_reducible first | assumption | exact zg_L4 (by assumption) | exact zg_L5 (by assumption) | exact zl_2 | exact zl_4 | exact zl_5 | exact zl_6 | exact zl_7 | exact zl_8 | exact zl_9 | exact zl_10 | exact zl_40); (case h => omega); (case hy => first | ((simp (disch := omega) only [zU_c, zU_e, zU_k, zF_c, zF_i, zF_o, zW_o, zW_i, zC_c, zC_i, zC_o]); rfl) | rfl))) | (first
    | (with_reducible apply z_B; all_goals (intro _; try (exfalso; omega)))
    | (with_reducible apply z_E; all_goals intro _)
    | (with_reducible apply z_lt; (case ha => repeat (with_reducible first | exact zv_l _ | exact zv_r | apply zv_add | apply zv_sub | apply zv_mul)); (case hb => repeat (with_reducible first | exact zv_l _ | exact zv_r | apply zv_add | apply zv_sub | apply zv_mul)); (case hx => omega); (case hy => omega); all_goals (intro _; try (exfalso; omega)))
    | (with_reducible apply z_le; (case ha => repeat (with_reducible first | exact zv_l _ | exact zv_r | apply zv_add | apply zv_sub | apply zv_mul)); (case hb => repeat (with_reducible first | exact zv_l _ | exact zv_r | apply zv_add | apply zv_sub | apply zv_mul)); (case hx => omega); (case hy => omega); all_goals (intro _; try (exfalso; omega)))
    | (with_reducible apply z_eq; (case ha => repeat (with_reducible first | exact zv_l _ | exact zv_r | apply zv_add | apply zv_sub | apply zv_mul)); (case hb => repeat (with_reducible first | exact zv_l _ | exact zv_r | apply zv_add | apply zv_sub | apply zv_mul)); (case hx => omega); (case hy => omega); all_goals (intro _; try (exfalso; omega)))))
    · refine hk _ _ _ (by omega) ⟨i + 1, rfl, by omega, by omega, rfl, rfl, fun k q0 q1 => ?_⟩
      by_cases hj : k = i
      · subst hj
        assumption
      · exact hw k q0 (by omega)
    · refine zE_r0 (fun h => ?_)
      have := h.2 i h0 (by omega)
      contradiction
set_option maxRecDepth 100000 in
set_option maxHeartbeats 1000000 in
theorem s_0isNamed {m : zMe} {r : Nat} {e1 e2 e3 : Int32} {t b e : Int} (a1 : zG r) (e4 : e1 = zI t) (e5 : e2 = zI b) (e6 : e3 = zI e) (r1 : 0 ≤ t ∧ t < 6) (r2 : 0 ≤ b ∧ b ≤ 40) (r3 : 0 ≤ e ∧ e ≤ 40) (r4 : 0 ≤ m (r + 2) t ∧ m (r + 2) t ≤ 6) (a2 : ∀ j, 0 ≤ j → j < 36 → 0 ≤ m (r + 3) j ∧ m (r + 3) j ≤ 255) (a3 : ∀ j, 0 ≤ j → j < 40 → 0 ≤ m 2 j ∧ m 2 j ≤ 255) : f_X0_isNamed r e1 2 e2 e3 (zM m) = some (zI (zE (zNm m r t b e)), zM (m)) := by
  subst e4; subst e5; subst e6
  refine zOk.eq ?_
  unfold f_X0_isNamed
  repeat' (first | (first
    | (with_reducible apply z_nm; (case he => repeat (with_reducible first | exact zv_l _ | exact zv_r | apply zv_add | apply zv_sub)))
    | with_reducible refine z_b (zg_ck (by assumption)) ?_
    | (with_reducible apply z_b_ck; (case h => with_unfolding_all rfl))
    | (with_reducible apply z_b_R; (case h => first | exact zg_R4 (by assumption) | with_unfolding_all rfl))
    | (with_reducible apply z_L; (case he => repeat (with_reducible first | exact zv_l _ | exact zv_r | apply zv_add | apply zv_sub)); (case hn => with_reducible first | assumption | exact zg_L4 (by assumption) | exact zl_2 | exact zl_4 | exact zl_5 | exact zl_6 | exact zl_7 | exact zl_8 | exact zl_9 | exact zl_10 | exact zl_40); (case h => omega); (case hy => first | ((simp (disch := omega) only [zU_c, zU_e, zU_k, zF_c, zF_i, zF_o, zW_o, zW_i, zC_c, zC_i, zC_o]); rfl) | rfl))) | (first
    | (with_reducible apply z_B; all_goals (intro _; try (exfalso; omega)))
    | (with_reducible apply z_E; all_goals intro _)
    | (with_reducible apply z_lt; (case ha => repeat (with_reducible first | exact zv_l _ | exact zv_r | apply zv_add | apply zv_sub)); (case hb => repeat (with_reducible first | exact zv_l _ | exact zv_r | apply zv_add | apply zv_sub)); (case hx => omega); (case hy => omega); all_goals (intro _; try (exfalso; omega)))
    | (with_reducible apply z_le; (case ha => repeat (with_reducible first | exact zv_l _ | exact zv_r | apply zv_add | apply zv_sub)); (case hb => repeat (with_reducible first | exact zv_l _ | exact zv_r | apply zv_add | apply zv_sub)); (case hx => omega); (case hy => omega); all_goals (intro _; try (exfalso; omega)))
    | (with_reducible apply z_eq; (case ha => repeat (with_reducible first | exact zv_l _ | exact zv_r | apply zv_add | apply zv_sub)); (case hb => repeat (with_reducible first | exact zv_l _ | exact zv_r | apply zv_add | apply zv_sub)); (case hx => omega); (case hy => omega); all_goals (intro _; try (exfalso; omega)))))
  · exact s0_nm_l a1 r1 (by omega) r4 (by omega) a2 a3
  · refine zE_r0 (fun h => ?_)
    have := h.1
    contradiction
theorem z_0isNamed {m : zMe} {r : Nat} {e1 e2 e3 : Int32} {t b e : Int} (a1 : zG r) (e4 : e1 = zI t) (e5 : e2 = zI b) (e6 : e3 = zI e) (r1 : 0 ≤ t ∧ t < 6) (r2 : 0 ≤ b ∧ b ≤ 40) (r3 : 0 ≤ e ∧ e ≤ 40) (r4 : 0 ≤ m (r + 2) t ∧ m (r + 2) t ≤ 6) (a2 : ∀ j, 0 ≤ j → j < 36 → 0 ≤ m (r + 3) j ∧ m (r + 3) j ≤ 255) (a3 : ∀ j, 0 ≤ j → j < 40 → 0 ≤ m 2 j ∧ m 2 j ≤ 255) {α : Type} {kf : Int32 × Hp → Option (α × Hp)} {Q : α → zMe → Prop} (K : zOk (kf (zI (zE (zNm m r t b e)), zM (m))) Q) : zOk ((f_X0_isNamed r e1 2 e2 e3 (zM m)).bind kf) Q := z_b (s_0isNamed a1 e4 e5 e6 r1 r2 r3 r4 a2 a3) K
noncomputable def zWho (m : zMe) (r : Nat) (b e : Int) : Int := zFst (m r 0).toNat (fun t => zNm m r (t : Int) b e)
theorem s0_who_l {m : zMe} {r : Nat} {b e : Int} (a1 : zG r) (hT : 0 ≤ m r 0 ∧ m r 0 ≤ 6) (hb : 0 ≤ b ∧ b ≤ 40) (he : 0 ≤ e ∧ e ≤ 40) (hs : ∀ t, 0 ≤ t → t < m r 0 → 0 ≤ m (r + 2) t ∧ m (r + 2) t ≤ 6) (a2 : ∀ j, 0 ≤ j → j < 36 → 0 ≤ m (r + 3) j ∧ m (r + 3) j ≤ 255) (a3 : ∀ j, 0 ≤ j → j < 40 → 0 ≤ m 2 j ∧ m 2 j ≤ 255) : zOk (lp f_X0_whose_3 600 (r, 2, zI b, zI e, zI 0) (zM m)) (fun v m1 => v = zI (zWho m r b e) ∧ m1 = m) := by
  refine z_lp (fun n v m1 => ∃ i : Nat, v = (r, 2, zI b, zI e, zI (i : Int)) ∧ (i : Int) ≤ m r 0 ∧ n = (m r 0 - i).toNat ∧ m1 = m ∧ ∀ k : Nat, k < i → ¬ zNm m r (k : Int) b e) (fun _ _ v m1 => v = zI (zWho m r b e) ∧ m1 = m) ?_ 600 (m r 0).toNat _ m (by omega) ⟨0, rfl, by omega, by omega, rfl, fun k h0 => by exfalso; omega⟩
  rintro n v m1 k ⟨i, rfl, h1, rfl, rfl, hw⟩ hk
  have g1 := hs (i : Int) (by omega)
  unfold f_X0_whose_3
  dsimp only
  (first
    | (with_reducible apply z_nm; (case he => repeat (with_reducible first | exact zv_l _ | exact zv_r | apply zv_add | apply zv_sub | apply zv_neg)))
    | (with_reducible apply z_I; (case h => first | exact zg_I0 (by assumption) | with_unfolding_all rfl); (case hy => first | ((simp (disch := omega) only [zU_c, zU_e, zU_k, zF_c, zF_i, zF_o, zW_o, zW_i, zC_c, zC_i, zC_o]); rfl) | rfl))
    | (with_reducible apply z_0isNamed; (case a1 => assumption); (case e4 => repeat (with_reducible first | exact zv_l _ | exact zv_r | apply zv_add | apply zv_sub | apply zv_neg)); (case e5 => repeat (with_reducible first | exact zv_l _ | exact zv_r | apply zv_add | apply zv_sub | apply zv_neg)); (case e6 => repeat (with_reducible first | exact zv_l _ | exact zv_r | apply zv_add | apply zv_sub | apply zv_neg)); (case r1 => first | omega | ((simp (disch := omega) only [zU_c, zU_e, zU_k, zF_c, zF_i, zF_o, zW_o, zW_i, zC_c, zC_i, zC_o]); omega)); (case r2 => first | omega | ((simp (disch := omega) only [zU_c, zU_e, zU_k, zF_c, zF_i, zF_o, zW_o, zW_i, zC_c, zC_i, zC_o]); omega)); (case r3 => first | omega | ((simp (disch := omega) only [zU_c, zU_e, zU_k, zF_c, zF_i, zF_o, zW_o, zW_i, zC_c, zC_i, zC_o]); omega)); (case r4 => first | omega | ((simp (disch := omega) only [zU_c, zU_e, zU_k, zF_c, zF_i, zF_o, zW_o, zW_i, zC_c, zC_i, zC_o]); omega)); (case a2 => assumption); (case a3 => assumption)))
  (first
    | (with_reducible apply z_B; all_goals (intro _; try (exfalso; omega)))
    | (with_reducible apply z_E; all_goals intro _)
    | (with_reducible apply z_lt; (case ha => repeat (with_reducible first | exact zv_l _ | exact zv_r | apply zv_add | apply zv_sub | apply zv_neg)); (case hb => repeat (with_reducible first | exact zv_l _ | exact zv_r | apply zv_add | apply zv_sub | apply zv_neg)); (case hx => omega); (case hy => omega); all_goals (intro _; try (exfalso; omega)))
    | (with_reducible apply z_le; (case ha => repeat (with_reducible first | exact zv_l _ | exact zv_r | apply zv_add | apply zv_sub | apply zv_neg)); (case hb => repeat (with_reducible first | exact zv_l _ | exact zv_r | apply zv_add | apply zv_sub | apply zv_neg)); (case hx => omega); (case hy => omega); all_goals (intro _; try (exfalso; omega)))
    | (with_reducible apply z_eq; (case ha => repeat (with_reducible first | exact zv_l _ | exact zv_r | apply zv_add | apply zv_sub | apply zv_neg)); (case hb => repeat (with_reducible first | exact zv_l _ | exact zv_r | apply zv_add | apply zv_sub | apply zv_neg)); (case hx => omega); (case hy => omega); all_goals (intro _; try (exfalso; omega))))
  · (first | (with_reducible apply z_reti; (case he => repeat (with_reducible first | exact zv_l _ | exact zv_r | apply zv_add | apply zv_sub | apply zv_neg))) | with_reducible refine z_ret ?_)
    refine ⟨?_, rfl⟩
    unfold zWho
    rw [zFst_none (fun k hk => hw k (by omega))]
  · have g1 := g1 (by omega)
    repeat' (first | (first
    | (with_reducible apply z_nm; (case he => repeat (with_reducible first | exact zv_l _ | exact zv_r | apply zv_add | apply zv_sub | apply zv_neg)))
    | (with_reducible apply z_I; (case h => first | exact zg_I0 (by assumption) | with_unfolding_all rfl); (case hy => first | ((simp (disch := omega) only [zU_c, zU_e, zU_k, zF_c, zF_i, zF_o, zW_o, zW_i, zC_c, zC_i, zC_o]); rfl) | rfl))
    | (with_reducible apply z_0isNamed; (case a1 => assumption); (case e4 => repeat (with_reducible first | exact zv_l _ | exact zv_r | apply zv_add | apply zv_sub | apply zv_neg)); (case e5 => repeat (with_reducible first | exact zv_l _ | exact zv_r | apply zv_add | apply zv_sub | apply zv_neg)); (case e6 => repeat (with_reducible first | exact zv_l _ | exact zv_r | apply zv_add | apply zv_sub | apply zv_neg)); (case r1 => first | omega | ((simp (disch := omega) only [zU_c, zU_e, zU_k, zF_c, zF_i, zF_o, zW_o, zW_i, zC_c, zC_i, zC_o]); omega)); (case r2 => first | omega | ((simp (disch := omega) only [zU_c, zU_e, zU_k, zF_c, zF_i, zF_o, zW_o, zW_i, zC_c, zC_i, zC_o]); omega)); (case r3 => first | omega | ((simp (disch := omega) only [zU_c, zU_e, zU_k, zF_c, zF_i, zF_o, zW_o, zW_i, zC_c, zC_i, zC_o]); omega)); (case r4 => first | omega | ((simp (disch := omega) only [zU_c, zU_e, zU_k, zF_c, zF_i, zF_o, zW_o, zW_i, zC_c, zC_i, zC_o]); omega)); (case a2 => assumption); (case a3 => assumption))) | (first
    | (with_reducible apply z_B; all_goals (intro _; try (exfalso; omega)))
    | (with_reducible apply z_E; all_goals intro _)
    | (with_reducible apply z_lt; (case ha => repeat (with_reducible first | exact zv_l _ | exact zv_r | apply zv_add | apply zv_sub | apply zv_neg)); (case hb => repeat (with_reducible first | exact zv_l _ | exact zv_r | apply zv_add | apply zv_sub | apply zv_neg)); (case hx => omega); (case hy => omega); all_goals (intro _; try (exfalso; omega)))
    | (with_reducible apply z_le; (case ha => repeat (with_reducible first | exact zv_l _ | exact zv_r | apply zv_add | apply zv_sub | apply zv_neg)); (case hb => repeat (with_reducible first | exact zv_l _ | exact zv_r | apply zv_add | apply zv_sub | apply zv_neg)); (case hx => omega); (case hy => omega); all_goals (intro _; try (exfalso; omega)))
    | (with_reducible apply z_eq; (case ha => repeat (with_reducible first | exact zv_l _ | exact zv_r | apply zv_add | apply zv_sub | apply zv_neg)); (case hb => repeat (with_reducible first | exact zv_l _ | exact zv_r | apply zv_add | apply zv_sub | apply zv_neg)); (case hx => omega); (case hy => omega); all_goals (intro _; try (exfalso; omega)))))
    · rename_i hn
      refine hk _ _ _ (by omega) ⟨i + 1, rfl, by omega, rfl, rfl, fun k q1 => ?_⟩
      by_cases hj : k = i
      · subst hj
        exact hn
      · exact hw k (by omega)
    · rename_i hn
      refine z_ret ⟨?_, rfl⟩
      unfold zWho
      rw [zFst_at (k := i) (by omega) hn hw]
set_option maxRecDepth 100000 in
set_option maxHeartbeats 1000000 in
theorem s_0whose {m : zMe} {r : Nat} {e2 e3 : Int32} {b e : Int} (a1 : zG r) (e5 : e2 = zI b) (e6 : e3 = zI e) (r1 : 0 ≤ m r 0 ∧ m r 0 ≤ 6) (r2 : 0 ≤ b ∧ b ≤ 40) (r3 : 0 ≤ e ∧ e ≤ 40) (a4 : ∀ t, 0 ≤ t → t < m r 0 → 0 ≤ m (r + 2) t ∧ m (r + 2) t ≤ 6) (a2 : ∀ j, 0 ≤ j → j < 36 → 0 ≤ m (r + 3) j ∧ m (r + 3) j ≤ 255) (a3 : ∀ j, 0 ≤ j → j < 40 → 0 ≤ m 2 j ∧ m 2 j ≤ 255) : f_X0_whose r 2 e2 e3 (zM m) = some (zI (zWho m r b e), zM (m)) := by
  subst e5; subst e6
  refine zOk.eq ?_
  unfold f_X0_whose
  repeat' (first
    | with_reducible refine z_b (zg_ck (by assumption)) ?_
    | (with_reducible apply z_b_ck; (case h => with_unfolding_all rfl)))
  exact s0_who_l a1 r1 r2 r3 a4 a2 a3
theorem z_0whose {m : zMe} {r : Nat} {e2 e3 : Int32} {b e : Int} (a1 : zG r) (e5 : e2 = zI b) (e6 : e3 = zI e) (r1 : 0 ≤ m r 0 ∧ m r 0 ≤ 6) (r2 : 0 ≤ b ∧ b ≤ 40) (r3 : 0 ≤ e ∧ e ≤ 40) (a4 : ∀ t, 0 ≤ t → t < m r 0 → 0 ≤ m (r + 2) t ∧ m (r + 2) t ≤ 6) (a2 : ∀ j, 0 ≤ j → j < 36 → 0 ≤ m (r + 3) j ∧ m (r + 3) j ≤ 255) (a3 : ∀ j, 0 ≤ j → j < 40 → 0 ≤ m 2 j ∧ m 2 j ≤ 255) {α : Type} {kf : Int32 × Hp → Option (α × Hp)} {Q : α → zMe → Prop} (K : zOk (kf (zI (zWho m r b e), zM (m))) Q) : zOk ((f_X0_whose r 2 e2 e3 (zM m)).bind kf) Q := z_b (s_0whose a1 e5 e6 r1 r2 r3 a4 a2 a3) K
theorem s0_addTeam_l {m : zMe} {r : Nat} {b e : Int} (a1 : zG r) (hT : 0 ≤ m r 0 ∧ m r 0 < 6) (hb : 0 ≤ b ∧ e ≤ 40 ∧ 1 ≤ e - b ∧ e - b ≤ 6) : zOk (lp f_X0_addTeam_27 600 (r, 2, zI b, zI 0) (zM (zU m (r + 2) (m r 0) (e - b)))) (fun v m1 => v = zI (m r 0) ∧ m1 = zU (zU (zF (zU m (r + 2) (m r 0) (e - b)) (r + 3) (m r 0 * 6) (e - b) (fun i => m 2 (b + i))) (r + 1) (m r 0) 0) r 0 (m r 0 + 1)) := by
  refine z_lp (fun n v m1 => ∃ i : Int, v = (r, 2, zI b, zI i) ∧ 0 ≤ i ∧ i ≤ e - b ∧ n = (e - b - i).toNat ∧ m1 = zF (zU m (r + 2) (m r 0) (e - b)) (r + 3) (m r 0 * 6) i (fun i => m 2 (b + i))) (fun _ _ v m1 => v = zI (m r 0) ∧ m1 = zU (zU (zF (zU m (r + 2) (m r 0) (e - b)) (r + 3) (m r 0 * 6) (e - b) (fun i => m 2 (b + i))) (r + 1) (m r 0) 0) r 0 (m r 0 + 1)) ?_ 600 (e - b).toNat _ _ (by omega) ⟨0, rfl, by omega, by omega, by omega, (zF_0 _ _ _ _).symm⟩
  rintro n v m1 k ⟨i, rfl, h0, h1, rfl, rfl⟩ hk
  have hl : r = 3 ∨ r = 11 ∨ r = 19 := a1
  unfold f_X0_addTeam_27
  dsimp only
  repeat' (first
    | (with_reducible apply z_nm; (case he => repeat (with_reducible first | exact zv_l _ | exact zv_r | apply zv_add | apply zv_sub | apply zv_mul)))
    | (with_reducible apply z_I; (case h => first | exact zg_I0 (by assumption) | with_unfolding_all rfl); (case hy => first | ((simp (disch := omega) only [zU_c, zU_e, zU_k, zF_c, zF_i, zF_o, zW_o, zW_i, zC_c, zC_i, zC_o]); rfl) | rfl))
    | (with_reducible apply z_b_R; (case h => first | exact zg_R3 (by assumption) | exact zg_R4 (by assumption) | exact zg_R5 (by assumption) | with_unfolding_all rfl))
    | (with_reducible apply z_PU; (case he => repeat (with_reducible first | exact zv_l _ | exact zv_r | apply zv_add | apply zv_sub | apply zv_mul)); (case h => with_reducible first | exact zg_P0 (by assumption) _))
    | (with_reducible apply z_L; (case he => repeat (with_reducible first | exact zv_l _ | exact zv_r | apply zv_add | apply zv_sub | apply zv_mul)); (case hn => with_reducible first | assumption | exact zg_L3 (by assumption) | exact zg_L4 (by assumption) | exact zg_L5 (by assumption) | exact zl_2 | exact zl_4 | exact zl_5 | exact zl_6 | exact zl_7 | exact zl_8 | exact zl_9 | exact zl_10 | exact zl_12 | exact zl_13 | exact zl_14 | exact zl_15 | exact zl_16 | exact zl_17 | exact zl_18 | exact zl_20 | exact zl_21 | exact zl_22 | exact zl_23 | exact zl_24 | exact zl_25 | exact zl_26 | exact zl_40); (case h => omega); (case hy => first | ((simp (disch := omega) only [zU_c, zU_e, zU_k, zF_c, zF_i, zF_o, zW_o, zW_i, zC_c, zC_i, zC_o]); rfl) | rfl))
    | (with_reducible apply z_S; (case he => repeat (with_reducible first | exact zv_l _ | exact zv_r | apply zv_add | apply zv_sub | apply zv_mul)); (case hg => repeat (with_reducible first | exact zv_l _ | exact zv_r | apply zv_add | apply zv_sub | apply zv_mul)); (case hn => with_reducible first | assumption | exact zg_L3 (by assumption) | exact zg_L4 (by assumption) | exact zg_L5 (by assumption) | exact zl_2 | exact zl_4 | exact zl_5 | exact zl_6 | exact zl_7 | exact zl_8 | exact zl_9 | exact zl_10 | exact zl_12 | exact zl_13 | exact zl_14 | exact zl_15 | exact zl_16 | exact zl_17 | exact zl_18 | exact zl_20 | exact zl_21 | exact zl_22 | exact zl_23 | exact zl_24 | exact zl_25 | exact zl_26 | exact zl_40); (case h => omega)))
  (first
    | (with_reducible apply z_B; all_goals (intro _; try (exfalso; omega)))
    | (with_reducible apply z_E; all_goals intro _)
    | (with_reducible apply z_lt; (case ha => repeat (with_reducible first | exact zv_l _ | exact zv_r | apply zv_add | apply zv_sub | apply zv_mul)); (case hb => repeat (with_reducible first | exact zv_l _ | exact zv_r | apply zv_add | apply zv_sub | apply zv_mul)); (case hx => omega); (case hy => omega); all_goals (intro _; try (exfalso; omega)))
    | (with_reducible apply z_le; (case ha => repeat (with_reducible first | exact zv_l _ | exact zv_r | apply zv_add | apply zv_sub | apply zv_mul)); (case hb => repeat (with_reducible first | exact zv_l _ | exact zv_r | apply zv_add | apply zv_sub | apply zv_mul)); (case hx => omega); (case hy => omega); all_goals (intro _; try (exfalso; omega)))
    | (with_reducible apply z_eq; (case ha => repeat (with_reducible first | exact zv_l _ | exact zv_r | apply zv_add | apply zv_sub | apply zv_mul)); (case hb => repeat (with_reducible first | exact zv_l _ | exact zv_r | apply zv_add | apply zv_sub | apply zv_mul)); (case hx => omega); (case hy => omega); all_goals (intro _; try (exfalso; omega))))
  · have : i = e - b := by omega
    subst this
    repeat' (first
    | (with_reducible apply z_nm; (case he => repeat (with_reducible first | exact zv_l _ | exact zv_r | apply zv_add | apply zv_sub | apply zv_mul)))
    | (with_reducible apply z_I; (case h => first | exact zg_I0 (by assumption) | with_unfolding_all rfl); (case hy => first | ((simp (disch := omega) only [zU_c, zU_e, zU_k, zF_c, zF_i, zF_o, zW_o, zW_i, zC_c, zC_i, zC_o]); rfl) | rfl))
    | (with_reducible apply z_b_R; (case h => first | exact zg_R3 (by assumption) | exact zg_R4 (by assumption) | exact zg_R5 (by assumption) | with_unfolding_all rfl))
    | (with_reducible apply z_PU; (case he => repeat (with_reducible first | exact zv_l _ | exact zv_r | apply zv_add | apply zv_sub | apply zv_mul)); (case h => with_reducible first | exact zg_P0 (by assumption) _))
    | (with_reducible apply z_L; (case he => repeat (with_reducible first | exact zv_l _ | exact zv_r | apply zv_add | apply zv_sub | apply zv_mul)); (case hn => with_reducible first | assumption | exact zg_L3 (by assumption) | exact zg_L4 (by assumption) | exact zg_L5 (by assumption) | exact zl_2 | exact zl_4 | exact zl_5 | exact zl_6 | exact zl_7 | exact zl_8 | exact zl_9 | exact zl_10 | exact zl_12 | exact zl_13 | exact zl_14 | exact zl_15 | exact zl_16 | exact zl_17 | exact zl_18 | exact zl_20 | exact zl_21 | exact zl_22 | exact zl_23 | exact zl_24 | exact zl_25 | exact zl_26 | exact zl_40); (case h => omega); (case hy => first | ((simp (disch := omega) only [zU_c, zU_e, zU_k, zF_c, zF_i, zF_o, zW_o, zW_i, zC_c, zC_i, zC_o]); rfl) | rfl))
    | (with_reducible apply z_S; (case he => repeat (with_reducible first | exact zv_l _ | exact zv_r | apply zv_add | apply zv_sub | apply zv_mul)); (case hg => repeat (with_reducible first | exact zv_l _ | exact zv_r | apply zv_add | apply zv_sub | apply zv_mul)); (case hn => with_reducible first | assumption | exact zg_L3 (by assumption) | exact zg_L4 (by assumption) | exact zg_L5 (by assumption) | exact zl_2 | exact zl_4 | exact zl_5 | exact zl_6 | exact zl_7 | exact zl_8 | exact zl_9 | exact zl_10 | exact zl_12 | exact zl_13 | exact zl_14 | exact zl_15 | exact zl_16 | exact zl_17 | exact zl_18 | exact zl_20 | exact zl_21 | exact zl_22 | exact zl_23 | exact zl_24 | exact zl_25 | exact zl_26 | exact zl_40); (case h => omega)))
    (first | (with_reducible apply z_reti; (case he => repeat (with_reducible first | exact zv_l _ | exact zv_r | apply zv_add | apply zv_sub | apply zv_mul))) | with_reducible refine z_ret ?_)
    refine ⟨?_, rfl⟩
    congr 1
    omega
  · repeat' (first
    | (with_reducible apply z_nm; (case he => repeat (with_reducible first | exact zv_l _ | exact zv_r | apply zv_add | apply zv_sub | apply zv_mul)))
    | (with_reducible apply z_I; (case h => first | exact zg_I0 (by assumption) | with_unfolding_all rfl); (case hy => first | ((simp (disch := omega) only [zU_c, zU_e, zU_k, zF_c, zF_i, zF_o, zW_o, zW_i, zC_c, zC_i, zC_o]); rfl) | rfl))
    | (with_reducible apply z_b_R; (case h => first | exact zg_R3 (by assumption) | exact zg_R4 (by assumption) | exact zg_R5 (by assumption) | with_unfolding_all rfl))
    | (with_reducible apply z_PU; (case he => repeat (with_reducible first | exact zv_l _ | exact zv_r | apply zv_add | apply zv_sub | apply zv_mul)); (case h => with_reducible first | exact zg_P0 (by assumption) _))
    | (with_reducible apply z_L; (case he => repeat (with_reducible first | exact zv_l _ | exact zv_r | apply zv_add | apply zv_sub | apply zv_mul)); (case hn => with_reducible first | assumption | exact zg_L3 (by assumption) | exact zg_L4 (by assumption) | exact zg_L5 (by assumption) | exact zl_2 | exact zl_4 | exact zl_5 | exact zl_6 | exact zl_7 | exact zl_8 | exact zl_9 | exact zl_10 | exact zl_12 | exact zl_13 | exact zl_14 | exact zl_15 | exact zl_16 | exact zl_17 | exact zl_18 | exact zl_20 | exact zl_21 | exact zl_22 | exact zl_23 | exact zl_24 | exact zl_25 | exact zl_26 | exact zl_40); (case h => omega); (case hy => first | ((simp (disch := omega) only [zU_c, zU_e, zU_k, zF_c, zF_i, zF_o, zW_o, zW_i, zC_c, zC_i, zC_o]); rfl) | rfl))
    | (with_reducible apply z_S; (case he => repeat (with_reducible first | exact zv_l _ | exact zv_r | apply zv_add | apply zv_sub | apply zv_mul)); (case hg => repeat (with_reducible first | exact zv_l _ | exact zv_r | apply zv_add | apply zv_sub | apply zv_mul)); (case hn => with_reducible first | assumption | exact zg_L3 (by assumption) | exact zg_L4 (by assumption) | exact zg_L5 (by assumption) | exact zl_2 | exact zl_4 | exact zl_5 | exact zl_6 | exact zl_7 | exact zl_8 | exact zl_9 | exact zl_10 | exact zl_12 | exact zl_13 | exact zl_14 | exact zl_15 | exact zl_16 | exact zl_17 | exact zl_18 | exact zl_20 | exact zl_21 | exact zl_22 | exact zl_23 | exact zl_24 | exact zl_25 | exact zl_26 | exact zl_40); (case h => omega)))
    refine hk _ _ _ (by omega) ⟨i + 1, rfl, by omega, by omega, rfl, zF_s h0 rfl rfl⟩
set_option maxRecDepth 100000 in
set_option maxHeartbeats 1000000 in
theorem s_0addTeam {m : zMe} {r : Nat} {e2 e3 : Int32} {b e : Int} (a1 : zG r) (e5 : e2 = zI b) (e6 : e3 = zI e) (r1 : 0 ≤ m r 0 ∧ m r 0 ≤ 6) (r2 : 0 ≤ b ∧ e ≤ 40 ∧ 1 ≤ e - b ∧ e - b ≤ 6) : f_X0_addTeam r 2 e2 e3 (zM m) = some (zI (if m r 0 < 6 then m r 0 else -4), zM (if m r 0 < 6 then zU (zU (zF (zU m (r + 2) (m r 0) (e - b)) (r + 3) (m r 0 * 6) (e - b) (fun i => m 2 (b + i))) (r + 1) (m r 0) 0) r 0 (m r 0 + 1) else m)) := by
  subst e5; subst e6
  refine zOk.eq ?_
  unfold f_X0_addTeam
  repeat' (first | (first
    | (with_reducible apply z_nm; (case he => repeat (with_reducible first | exact zv_l _ | exact zv_r | apply zv_add | apply zv_sub | apply zv_mul | apply zv_neg)))
    | with_reducible refine z_b (zg_ck (by assumption)) ?_
    | (with_reducible apply z_b_ck; (case h => with_unfolding_all rfl))
    | (with_reducible apply z_I; (case h => first | exact zg_I0 (by assumption) | with_unfolding_all rfl); (case hy => first | ((simp (disch := omega) only [zU_c, zU_e, zU_k, zF_c, zF_i, zF_o, zW_o, zW_i, zC_c, zC_i, zC_o]); rfl) | rfl))
    | (with_reducible apply z_b_R; (case h => first | exact zg_R4 (by assumption) | with_unfolding_all rfl))
    | (with_reducible apply z_S; (case he => repeat (with_reducible first | exact zv_l _ | exact zv_r | apply zv_add | apply zv_sub | apply zv_mul | apply zv_neg)); (case hg => repeat (with_reducible first | exact zv_l _ | exact zv_r | apply zv_add | apply zv_sub | apply zv_mul | apply zv_neg)); (case hn => with_reducible first | assumption | exact zg_L4 (by assumption) | exact zl_2 | exact zl_4 | exact zl_5 | exact zl_6 | exact zl_7 | exact zl_8 | exact zl_9 | exact zl_10 | exact zl_40); (case h => omega))) | (first
    | (with_reducible apply z_B; all_goals (intro _; try (exfalso; omega)))
    | (with_reducible apply z_E; all_goals intro _)
    | (with_reducible apply z_lt; (case ha => repeat (with_reducible first | exact zv_l _ | exact zv_r | apply zv_add | apply zv_sub | apply zv_mul | apply zv_neg)); (case hb => repeat (with_reducible first | exact zv_l _ | exact zv_r | apply zv_add | apply zv_sub | apply zv_mul | apply zv_neg)); (case hx => omega); (case hy => omega); all_goals (intro _; try (exfalso; omega)))
    | (with_reducible apply z_le; (case ha => repeat (with_reducible first | exact zv_l _ | exact zv_r | apply zv_add | apply zv_sub | apply zv_mul | apply zv_neg)); (case hb => repeat (with_reducible first | exact zv_l _ | exact zv_r | apply zv_add | apply zv_sub | apply zv_mul | apply zv_neg)); (case hx => omega); (case hy => omega); all_goals (intro _; try (exfalso; omega)))
    | (with_reducible apply z_eq; (case ha => repeat (with_reducible first | exact zv_l _ | exact zv_r | apply zv_add | apply zv_sub | apply zv_mul | apply zv_neg)); (case hb => repeat (with_reducible first | exact zv_l _ | exact zv_r | apply zv_add | apply zv_sub | apply zv_mul | apply zv_neg)); (case hx => omega); (case hy => omega); all_goals (intro _; try (exfalso; omega)))))
  · rename_i h
    rw [if_pos h, if_pos h]
    exact s0_addTeam_l a1 ⟨r1.1, h⟩ r2
  · rename_i h
    rw [if_neg h, if_neg h]
    exact ⟨_, _, rfl, rfl, rfl⟩
theorem z_0addTeam {m : zMe} {r : Nat} {e2 e3 : Int32} {b e : Int} (a1 : zG r) (e5 : e2 = zI b) (e6 : e3 = zI e) (r1 : 0 ≤ m r 0 ∧ m r 0 ≤ 6) (r2 : 0 ≤ b ∧ e ≤ 40 ∧ 1 ≤ e - b ∧ e - b ≤ 6) {α : Type} {kf : Int32 × Hp → Option (α × Hp)} {Q : α → zMe → Prop} (K : zOk (kf (zI (if m r 0 < 6 then m r 0 else -4), zM (if m r 0 < 6 then zU (zU (zF (zU m (r + 2) (m r 0) (e - b)) (r + 3) (m r 0 * 6) (e - b) (fun i => m 2 (b + i))) (r + 1) (m r 0) 0) r 0 (m r 0 + 1) else m))) Q) : zOk ((f_X0_addTeam r 2 e2 e3 (zM m)).bind kf) Q := z_b (s_0addTeam a1 e5 e6 r1 r2) K
abbrev zGk (m : zMe) (r : Nat) (a b d : Int) : Prop := (0 ≤ a ∧ a < m r 0) ∧ (0 ≤ b ∧ b < m r 0) ∧ ¬ a = b ∧ (1 ≤ d ∧ d ≤ 30) ∧ m r 1 < 9
set_option maxRecDepth 100000 in
set_option maxHeartbeats 1000000 in
theorem s_0addGame {m : zMe} {r : Nat} {e1 e2 e3 : Int32} {a b d : Int} (a1 : zG r) (e4 : e1 = zI a) (e5 : e2 = zI b) (e6 : e3 = zI d) (r1 : 0 ≤ m r 0 ∧ m r 0 ≤ 6) (r2 : 0 ≤ m r 1 ∧ m r 1 ≤ 9) (r3 : -2147483648 ≤ a ∧ a < 2147483648) (r4 : -2147483648 ≤ b ∧ b < 2147483648) (r5 : -2147483648 ≤ d ∧ d < 2147483648) : f_X0_addGame r e1 e2 e3 (zM m) = some (zI (if zGk m r a b d then m r 1 else -1), zM (if zGk m r a b d then zU (zU (zU (zU (zU m (r + 4) (m r 1) a) (r + 5) (m r 1) b) (r + 6) (m r 1) d) (r + 7) (m r 1) (-1)) r 1 (m r 1 + 1) else m)) := by
  subst e4; subst e5; subst e6
  have hl : r = 3 ∨ r = 11 ∨ r = 19 := a1
  refine zOk.eq ?_
  unfold f_X0_addGame
  repeat' (first | (first
    | (with_reducible apply z_nm; (case he => repeat (with_reducible first | exact zv_l _ | exact zv_r | apply zv_add | apply zv_sub | apply zv_neg)))
    | with_reducible refine z_b (zg_ck (by assumption)) ?_
    | (with_reducible apply z_b_ck; (case h => with_unfolding_all rfl))
    | (with_reducible apply z_I; (case h => first | exact zg_I1 (by assumption) | with_unfolding_all rfl); (case hy => first | ((simp (disch := omega) only [zU_c, zU_e, zU_k, zF_c, zF_i, zF_o, zW_o, zW_i, zC_c, zC_i, zC_o]); rfl) | rfl))
    | (with_reducible apply z_b_R; (case h => first | exact zg_R6 (by assumption) | exact zg_R7 (by assumption) | exact zg_R8 (by assumption) | exact zg_R9 (by assumption) | with_unfolding_all rfl))
    | (with_reducible apply z_PU; (case he => repeat (with_reducible first | exact zv_l _ | exact zv_r | apply zv_add | apply zv_sub | apply zv_neg)); (case h => with_reducible first | exact zg_P1 (by assumption) _))
    | (with_reducible apply z_S; (case he => repeat (with_reducible first | exact zv_l _ | exact zv_r | apply zv_add | apply zv_sub | apply zv_neg)); (case hg => repeat (with_reducible first | exact zv_l _ | exact zv_r | apply zv_add | apply zv_sub | apply zv_neg)); (case hn => with_reducible first | assumption | exact zg_L6 (by assumption) | exact zg_L7 (by assumption) | exact zg_L8 (by assumption) | exact zg_L9 (by assumption) | exact zl_4 | exact zl_5 | exact zl_6 | exact zl_7 | exact zl_8 | exact zl_9 | exact zl_10 | exact zl_12 | exact zl_13 | exact zl_14 | exact zl_15 | exact zl_16 | exact zl_17 | exact zl_18 | exact zl_20 | exact zl_21 | exact zl_22 | exact zl_23 | exact zl_24 | exact zl_25 | exact zl_26); (case h => omega))
    | (with_reducible apply z_0hasTeam; (case a1 => assumption); (case e1 => repeat (with_reducible first | exact zv_l _ | exact zv_r | apply zv_add | apply zv_sub | apply zv_neg)); (case r1 => first | omega | ((simp (disch := omega) only [zU_c, zU_e, zU_k, zF_c, zF_i, zF_o, zW_o, zW_i, zC_c, zC_i, zC_o]); omega)); (case r2 => first | omega | ((simp (disch := omega) only [zU_c, zU_e, zU_k, zF_c, zF_i, zF_o, zW_o, zW_i, zC_c, zC_i, zC_o]); omega)))) | (first
    | (with_reducible apply z_B; all_goals (intro _; try (exfalso; omega)))
    | (with_reducible apply z_E; all_goals intro _)
    | (with_reducible apply z_lt; (case ha => repeat (with_reducible first | exact zv_l _ | exact zv_r | apply zv_add | apply zv_sub | apply zv_neg)); (case hb => repeat (with_reducible first | exact zv_l _ | exact zv_r | apply zv_add | apply zv_sub | apply zv_neg)); (case hx => omega); (case hy => omega); all_goals (intro _; try (exfalso; omega)))
    | (with_reducible apply z_le; (case ha => repeat (with_reducible first | exact zv_l _ | exact zv_r | apply zv_add | apply zv_sub | apply zv_neg)); (case hb => repeat (with_reducible first | exact zv_l _ | exact zv_r | apply zv_add | apply zv_sub | apply zv_neg)); (case hx => omega); (case hy => omega); all_goals (intro _; try (exfalso; omega)))
    | (with_reducible apply z_eq; (case ha => repeat (with_reducible first | exact zv_l _ | exact zv_r | apply zv_add | apply zv_sub | apply zv_neg)); (case hb => repeat (with_reducible first | exact zv_l _ | exact zv_r | apply zv_add | apply zv_sub | apply zv_neg)); (case hx => omega); (case hy => omega); all_goals (intro _; try (exfalso; omega)))))
  all_goals first
    | (rw [if_neg (by omega), if_neg (by omega)]; exact ⟨_, _, rfl, rfl, rfl⟩)
    | skip
  · rw [if_pos (by omega), if_pos (by omega)]
    (first | (with_reducible apply z_reti; (case he => repeat (with_reducible first | exact zv_l _ | exact zv_r | apply zv_add | apply zv_sub | apply zv_neg))) | with_reducible refine z_ret ?_)
    refine ⟨?_, rfl⟩
    congr 1
    omega
theorem z_0addGame {m : zMe} {r : Nat} {e1 e2 e3 : Int32} {a b d : Int} (a1 : zG r) (e4 : e1 = zI a) (e5 : e2 = zI b) (e6 : e3 = zI d) (r1 : 0 ≤ m r 0 ∧ m r 0 ≤ 6) (r2 : 0 ≤ m r 1 ∧ m r 1 ≤ 9) (r3 : -2147483648 ≤ a ∧ a < 2147483648) (r4 : -2147483648 ≤ b ∧ b < 2147483648) (r5 : -2147483648 ≤ d ∧ d < 2147483648) {α : Type} {kf : Int32 × Hp → Option (α × Hp)} {Q : α → zMe → Prop} (K : zOk (kf (zI (if zGk m r a b d then m r 1 else -1), zM (if zGk m r a b d then zU (zU (zU (zU (zU m (r + 4) (m r 1) a) (r + 5) (m r 1) b) (r + 6) (m r 1) d) (r + 7) (m r 1) (-1)) r 1 (m r 1 + 1) else m))) Q) : zOk ((f_X0_addGame r e1 e2 e3 (zM m)).bind kf) Q := z_b (s_0addGame a1 e4 e5 e6 r1 r2 r3 r4 r5) K
set_option maxRecDepth 100000 in
set_option maxHeartbeats 1000000 in
theorem s_0letter {m : zMe} {r : Nat} {e1 e2 : Int32} {t i : Int} (a1 : zG r) (e3 : e1 = zI t) (e4 : e2 = zI i) (r1 : 0 ≤ t ∧ t < 6) (r2 : 0 ≤ i ∧ i < 6) (r3 : 0 ≤ m (r + 2) t ∧ m (r + 2) t ≤ 6) : f_X0_letter r e1 e2 (zM m) = some (zI (if i < m (r + 2) t then m (r + 3) (t * 6 + i) else -1), zM (m)) := by
  subst e3; subst e4
  refine zOk.eq ?_
  unfold f_X0_letter
  repeat' (first | (first
    | (with_reducible apply z_nm; (case he => repeat (with_reducible first | exact zv_l _ | exact zv_r | apply zv_add | apply zv_mul | apply zv_neg)))
    | with_reducible refine z_b (zg_ck (by assumption)) ?_
    | (with_reducible apply z_b_ck; (case h => with_unfolding_all rfl))
    | (with_reducible apply z_b_R; (case h => first | exact zg_R4 (by assumption) | exact zg_R5 (by assumption) | with_unfolding_all rfl))
    | (with_reducible apply z_L; (case he => repeat (with_reducible first | exact zv_l _ | exact zv_r | apply zv_add | apply zv_mul | apply zv_neg)); (case hn => with_reducible first | assumption | exact zg_L4 (by assumption) | exact zg_L5 (by assumption) | exact zl_2 | exact zl_4 | exact zl_5 | exact zl_6 | exact zl_7 | exact zl_8 | exact zl_9 | exact zl_10); (case h => omega); (case hy => first | ((simp (disch := omega) only [zU_c, zU_e, zU_k, zF_c, zF_i, zF_o, zW_o, zW_i, zC_c, zC_i, zC_o]); rfl) | rfl))) | (first
    | (with_reducible apply z_B; all_goals (intro _; try (exfalso; omega)))
    | (with_reducible apply z_E; all_goals intro _)
    | (with_reducible apply z_lt; (case ha => repeat (with_reducible first | exact zv_l _ | exact zv_r | apply zv_add | apply zv_mul | apply zv_neg)); (case hb => repeat (with_reducible first | exact zv_l _ | exact zv_r | apply zv_add | apply zv_mul | apply zv_neg)); (case hx => omega); (case hy => omega); all_goals (intro _; try (exfalso; omega)))
    | (with_reducible apply z_le; (case ha => repeat (with_reducible first | exact zv_l _ | exact zv_r | apply zv_add | apply zv_mul | apply zv_neg)); (case hb => repeat (with_reducible first | exact zv_l _ | exact zv_r | apply zv_add | apply zv_mul | apply zv_neg)); (case hx => omega); (case hy => omega); all_goals (intro _; try (exfalso; omega)))
    | (with_reducible apply z_eq; (case ha => repeat (with_reducible first | exact zv_l _ | exact zv_r | apply zv_add | apply zv_mul | apply zv_neg)); (case hb => repeat (with_reducible first | exact zv_l _ | exact zv_r | apply zv_add | apply zv_mul | apply zv_neg)); (case hx => omega); (case hy => omega); all_goals (intro _; try (exfalso; omega)))))
  · rw [if_neg (by omega)]
    exact ⟨_, _, rfl, rfl, rfl⟩
  · rw [if_pos (by omega)]
    exact ⟨_, _, rfl, rfl, rfl⟩
theorem z_0letter {m : zMe} {r : Nat} {e1 e2 : Int32} {t i : Int} (a1 : zG r) (e3 : e1 = zI t) (e4 : e2 = zI i) (r1 : 0 ≤ t ∧ t < 6) (r2 : 0 ≤ i ∧ i < 6) (r3 : 0 ≤ m (r + 2) t ∧ m (r + 2) t ≤ 6) {α : Type} {kf : Int32 × Hp → Option (α × Hp)} {Q : α → zMe → Prop} (K : zOk (kf (zI (if i < m (r + 2) t then m (r + 3) (t * 6 + i) else -1), zM (m))) Q) : zOk ((f_X0_letter r e1 e2 (zM m)).bind kf) Q := z_b (s_0letter a1 e3 e4 r1 r2 r3) K
/-- the next game between two, of the first n -/
def zNx (m : zMe) (r : Nat) (f s : Int) : Nat → Int
  | 0 => -1
  | n + 1 => if m (r + 7) (n : Int) = -1 ∧ (if m (r + 4) (n : Int) = f then m (r + 5) (n : Int) else if m (r + 5) (n : Int) = f then m (r + 4) (n : Int) else -1) = s ∧ (zNx m r f s n = -1 ∨ m (r + 6) (n : Int) < m (r + 6) (zNx m r f s n)) then (n : Int) else zNx m r f s n
theorem zNx_range (m : zMe) (r : Nat) (f s : Int) (n : Nat) : -1 ≤ zNx m r f s n ∧ zNx m r f s n < n := by
  induction n with
  | zero =>
    refine ⟨Int.le_refl _, ?_⟩
    show (-1 : Int) < 0
    omega
  | succ n ih =>
    unfold zNx
    split <;> omega
