/-! the reference: whose name -/
def zNm7 (m : zMe) (t b e : Int) : Prop := m 51 (9 + t) = e - b ∧ ∀ i, 0 ≤ i → i < e - b → m 51 (15 + 6 * t + i) = m 56 (b + i)
noncomputable def zWho7 (m : zMe) (b e : Int) : Int := zFst (m 51 0).toNat (fun t => zNm7 m (t : Int) b e)
def zLr (m : zMe) : Prop := ∀ t, 0 ≤ t → t < m 51 0 → ∀ i, 0 ≤ i → i < m 51 (9 + t) → 0 ≤ m 51 (15 + 6 * t + i) ∧ m 51 (15 + 6 * t + i) ≤ 255
set_option maxRecDepth 100000 in
set_option maxHeartbeats 1000000 in
theorem s_7whose {m : zMe} {e2 e3 : Int32} {b e : Int} (e5 : e2 = zI b) (e6 : e3 = zI e) (r2 : 0 ≤ b ∧ b ≤ 40) (r3 : 0 ≤ e ∧ e ≤ 40) (a1 : zRw m) (a2 : zLr m) (a3 : ∀ j, 0 ≤ j → j < 40 → 0 ≤ m 56 j ∧ m 56 j ≤ 255) : f_X7_whose 50 e2 e3 (zM m) = some (zI (zWho7 m b e), zM (m)) := by
  subst e5; subst e6
  have hT := a1.1.1
  refine zOk.eq ?_
  unfold f_X7_whose
  (first
    | (with_reducible apply z_nm; (case he => repeat (with_reducible first | exact zv_l _ | exact zv_r | apply zv_add | apply zv_sub | apply zv_mul | apply zv_neg)))
    | (with_reducible apply z_b_ck; (case h => with_unfolding_all rfl))
    | (with_reducible apply z_b_R; (case h => first | with_unfolding_all rfl))
    | (with_reducible apply z_L; (case he => repeat (with_reducible first | exact zv_l _ | exact zv_r | apply zv_add | apply zv_sub | apply zv_mul | apply zv_neg)); (case hn => with_reducible first | assumption | exact zl_2 | exact zl_6 | exact zl_9 | exact zl_15 | exact zl_40 | exact zl_51 | exact zl_56); (case h => omega); (case hy => first | ((simp (disch := omega) only [zU_c, zU_e, zU_k, zF_c, zF_i, zF_o, zW_o, zW_i, zC_c, zC_i, zC_o]); rfl) | rfl)))
  refine z_lp (fun n v m1 => ∃ i : Nat, v = (50, zI b, zI e, zI (i : Int)) ∧ (i : Int) ≤ m 51 0 ∧ n = (m 51 0 - i).toNat ∧ m1 = m ∧ ∀ k : Nat, k < i → ¬ zNm7 m (k : Int) b e) (fun _ _ v m1 => v = zI (zWho7 m b e) ∧ m1 = m) ?_ 600 (m 51 0).toNat _ m (by omega) ⟨0, rfl, by omega, by omega, rfl, fun k h0 => by exfalso; omega⟩
  rintro n v m1 k ⟨i, rfl, h1, rfl, rfl, hw⟩ hk
  have hs := a1.2.1 (i : Int) (by omega)
  have hlr := a2 (i : Int) (by omega)
  unfold f_X7_whose_2
  dsimp only
  (first
    | (with_reducible apply z_nm; (case he => repeat (with_reducible first | exact zv_l _ | exact zv_r | apply zv_add | apply zv_sub | apply zv_mul | apply zv_neg)))
    | (with_reducible apply z_b_ck; (case h => with_unfolding_all rfl))
    | (with_reducible apply z_b_R; (case h => first | with_unfolding_all rfl))
    | (with_reducible apply z_L; (case he => repeat (with_reducible first | exact zv_l _ | exact zv_r | apply zv_add | apply zv_sub | apply zv_mul | apply zv_neg)); (case hn => with_reducible first | assumption | exact zl_2 | exact zl_6 | exact zl_9 | exact zl_15 | exact zl_40 | exact zl_51 | exact zl_56); (case h => omega); (case hy => first | ((simp (disch := omega) only [zU_c, zU_e, zU_k, zF_c, zF_i, zF_o, zW_o, zW_i, zC_c, zC_i, zC_o]); rfl) | rfl)))
  (first
    | (with_reducible apply z_nm; (case he => repeat (with_reducible first | exact zv_l _ | exact zv_r | apply zv_add | apply zv_sub | apply zv_mul | apply zv_neg)))
    | (with_reducible apply z_b_ck; (case h => with_unfolding_all rfl))
    | (with_reducible apply z_b_R; (case h => first | with_unfolding_all rfl))
    | (with_reducible apply z_L; (case he => repeat (with_reducible first | exact zv_l _ | exact zv_r | apply zv_add | apply zv_sub | apply zv_mul | apply zv_neg)); (case hn => with_reducible first | assumption | exact zl_2 | exact zl_6 | exact zl_9 | exact zl_15 | exact zl_40 | exact zl_51 | exact zl_56); (case h => omega); (case hy => first | ((simp (disch := omega) only [zU_c, zU_e, zU_k, zF_c, zF_i, zF_o, zW_o, zW_i, zC_c, zC_i, zC_o]); rfl) | rfl)))
  (first
    | (with_reducible apply z_B; all_goals (intro _; try (exfalso; omega)))
    | (with_reducible apply z_E; all_goals intro _)
    | (with_reducible apply z_lt; (case ha => repeat (with_reducible first | exact zv_l _ | exact zv_r | apply zv_add | apply zv_sub | apply zv_mul | apply zv_neg)); (case hb => repeat (with_reducible first | exact zv_l _ | exact zv_r | apply zv_add | apply zv_sub | apply zv_mul | apply zv_neg)); (case hx => omega); (case hy => omega); all_goals (intro _; try (exfalso; omega)))
    | (with_reducible apply z_le; (case ha => repeat (with_reducible first | exact zv_l _ | exact zv_r | apply zv_add | apply zv_sub | apply zv_mul | apply zv_neg)); (case hb => repeat (with_reducible first | exact zv_l _ | exact zv_r | apply zv_add | apply zv_sub | apply zv_mul | apply zv_neg)); (case hx => omega); (case hy => omega); all_goals (intro _; try (exfalso; omega)))
    | (with_reducible apply z_eq; (case ha => repeat (with_reducible first | exact zv_l _ | exact zv_r | apply zv_add | apply zv_sub | apply zv_mul | apply zv_neg)); (case hb => repeat (with_reducible first | exact zv_l _ | exact zv_r | apply zv_add | apply zv_sub | apply zv_mul | apply zv_neg)); (case hx => omega); (case hy => omega); all_goals (intro _; try (exfalso; omega))))
  · (first | (with_reducible apply z_reti; (case he => repeat (with_reducible first | exact zv_l _ | exact zv_r | apply zv_add | apply zv_sub | apply zv_mul | apply zv_neg))) | with_reducible refine z_ret ?_)
    refine ⟨?_, rfl⟩
    unfold zWho7
    rw [zFst_none (fun k hk => hw k (by omega))]
  · have hs := (hs (by omega)).2
    have hlr := hlr (by omega)
    have hno : ¬ zNm7 m1 (i : Int) b e → zOk (f_X7_whose_96 k 50 (zI b) (zI e) (zI (i : Int)) (zI 0) (zM m1)) (fun v m2 => v = zI (zWho7 m1 b e) ∧ m2 = m1) := fun hn => by
      unfold f_X7_whose_96
      refine z_eq (x := 0) (y := 0) rfl rfl (by omega) (by omega) (fun _ => ?_) (fun q => absurd rfl q)
      repeat' (first
    | (with_reducible apply z_nm; (case he => repeat (with_reducible first | exact zv_l _ | exact zv_r | apply zv_add | apply zv_sub | apply zv_mul | apply zv_neg)))
    | (with_reducible apply z_b_ck; (case h => with_unfolding_all rfl))
    | (with_reducible apply z_b_R; (case h => first | with_unfolding_all rfl))
    | (with_reducible apply z_L; (case he => repeat (with_reducible first | exact zv_l _ | exact zv_r | apply zv_add | apply zv_sub | apply zv_mul | apply zv_neg)); (case hn => with_reducible first | assumption | exact zl_2 | exact zl_6 | exact zl_9 | exact zl_15 | exact zl_40 | exact zl_51 | exact zl_56); (case h => omega); (case hy => first | ((simp (disch := omega) only [zU_c, zU_e, zU_k, zF_c, zF_i, zF_o, zW_o, zW_i, zC_c, zC_i, zC_o]); rfl) | rfl)))
      refine hk _ _ _ (by omega) ⟨i + 1, rfl, by omega, rfl, rfl, fun k q1 => ?_⟩
      by_cases hj : k = i
      · subst hj
        exact hn
      · exact hw k (by omega)
    have hyes : zNm7 m1 (i : Int) b e → zOk (f_X7_whose_96 k 50 (zI b) (zI e) (zI (i : Int)) (zI 1) (zM m1)) (fun v m2 => v = zI (zWho7 m1 b e) ∧ m2 = m1) := fun hn => by
      unfold f_X7_whose_96
      refine z_eq (x := 1) (y := 0) rfl rfl (by omega) (by omega) (fun q => by exfalso; omega) (fun _ => ?_)
      refine z_ret ⟨?_, rfl⟩
      unfold zWho7
      rw [zFst_at (k := i) (by omega) hn hw]
    have hloop : ∀ s : Int, ((s = 0 ∧ ¬ zNm7 m1 (i : Int) b e) ∨ (s = 1 ∧ m1 51 (9 + (i : Int)) = e - b)) → zOk (f_X7_whose_32 k 50 (zI b) (zI e) (zI (i : Int)) (zI s) (zM m1)) (fun v m2 => v = zI (zWho7 m1 b e) ∧ m2 = m1) := fun s hs0 => by
      unfold f_X7_whose_32
      refine z_lp (fun n v m2 => ∃ (s c : Int), v = (50, zI b, zI e, zI (i : Int), zI s, zI c) ∧ 0 ≤ c ∧ c ≤ m1 51 (9 + (i : Int)) ∧ n = (m1 51 (9 + (i : Int)) - c).toNat ∧ m2 = m1 ∧ ((s = 0 ∧ ¬ zNm7 m1 (i : Int) b e) ∨ (s = 1 ∧ m1 51 (9 + (i : Int)) = e - b ∧ ∀ j, 0 ≤ j → j < c → m1 51 (15 + 6 * (i : Int) + j) = m1 56 (b + j)))) (fun _ _ v m2 => v = zI (zWho7 m1 b e) ∧ m2 = m1) ?_ 600 (m1 51 (9 + (i : Int))).toNat _ _ (by omega) ⟨s, 0, rfl, by omega, by omega, by omega, rfl, ?_⟩
      · rintro n v m2 k2 ⟨s, c, rfl, c0, c1, rfl, rfl, hI⟩ hk2
        have hl := hlr c c0
        unfold f_X7_whose_37
        dsimp only
        (first
    | (with_reducible apply z_nm; (case he => repeat (with_reducible first | exact zv_l _ | exact zv_r | apply zv_add | apply zv_sub | apply zv_mul | apply zv_neg)))
    | (with_reducible apply z_b_ck; (case h => with_unfolding_all rfl))
    | (with_reducible apply z_b_R; (case h => first | with_unfolding_all rfl))
    | (with_reducible apply z_L; (case he => repeat (with_reducible first | exact zv_l _ | exact zv_r | apply zv_add | apply zv_sub | apply zv_mul | apply zv_neg)); (case hn => with_reducible first | assumption | exact zl_2 | exact zl_6 | exact zl_9 | exact zl_15 | exact zl_40 | exact zl_51 | exact zl_56); (case h => omega); (case hy => first | ((simp (disch := omega) only [zU_c, zU_e, zU_k, zF_c, zF_i, zF_o, zW_o, zW_i, zC_c, zC_i, zC_o]); rfl) | rfl)))
        refine z_L (x := 9 + (i : Int)) (y := m2 51 (9 + (i : Int))) (zv_add (zv_l 9) rfl) zl_51 (by omega) rfl ?_
        (first
    | (with_reducible apply z_B; all_goals (intro _; try (exfalso; omega)))
    | (with_reducible apply z_E; all_goals intro _)
    | (with_reducible apply z_lt; (case ha => repeat (with_reducible first | exact zv_l _ | exact zv_r | apply zv_add | apply zv_sub | apply zv_mul | apply zv_neg)); (case hb => repeat (with_reducible first | exact zv_l _ | exact zv_r | apply zv_add | apply zv_sub | apply zv_mul | apply zv_neg)); (case hx => omega); (case hy => omega); all_goals (intro _; try (exfalso; omega)))
    | (with_reducible apply z_le; (case ha => repeat (with_reducible first | exact zv_l _ | exact zv_r | apply zv_add | apply zv_sub | apply zv_mul | apply zv_neg)); (case hb => repeat (with_reducible first | exact zv_l _ | exact zv_r | apply zv_add | apply zv_sub | apply zv_mul | apply zv_neg)); (case hx => omega); (case hy => omega); all_goals (intro _; try (exfalso; omega)))
    | (with_reducible apply z_eq; (case ha => repeat (with_reducible first | exact zv_l _ | exact zv_r | apply zv_add | apply zv_sub | apply zv_mul | apply zv_neg)); (case hb => repeat (with_reducible first | exact zv_l _ | exact zv_r | apply zv_add | apply zv_sub | apply zv_mul | apply zv_neg)); (case hx => omega); (case hy => omega); all_goals (intro _; try (exfalso; omega))))
        · rcases hI with ⟨rfl, hn⟩ | ⟨rfl, hq, hall⟩
          · exact hno hn
          · exact hyes ⟨hq, fun j j0 j1 => hall j j0 (by omega)⟩
        · rcases hI with ⟨rfl, hn⟩ | ⟨rfl, hq, hall⟩
          · refine z_eq (x := 0) (y := 0) rfl rfl (by omega) (by omega) (fun _ => ?_) (fun q => absurd rfl q)
            exact hno hn
          · refine z_eq (x := 1) (y := 0) rfl rfl (by omega) (by omega) (fun q => by exfalso; omega) (fun _ => ?_)
            have hl := hl (by omega)
            have hb := a3 (b + c) (by omega) (by omega)
            (first
    | (with_reducible apply z_nm; (case he => repeat (with_reducible first | exact zv_l _ | exact zv_r | apply zv_add | apply zv_sub | apply zv_mul | apply zv_neg)))
    | (with_reducible apply z_b_ck; (case h => with_unfolding_all rfl))
    | (with_reducible apply z_b_R; (case h => first | with_unfolding_all rfl))
    | (with_reducible apply z_L; (case he => repeat (with_reducible first | exact zv_l _ | exact zv_r | apply zv_add | apply zv_sub | apply zv_mul | apply zv_neg)); (case hn => with_reducible first | assumption | exact zl_2 | exact zl_6 | exact zl_9 | exact zl_15 | exact zl_40 | exact zl_51 | exact zl_56); (case h => omega); (case hy => first | ((simp (disch := omega) only [zU_c, zU_e, zU_k, zF_c, zF_i, zF_o, zW_o, zW_i, zC_c, zC_i, zC_o]); rfl) | rfl)))
            refine z_L (x := b + c) (y := m2 56 (b + c)) (zv_add rfl rfl) zl_56 (by omega) rfl ?_
            (first
    | (with_reducible apply z_nm; (case he => repeat (with_reducible first | exact zv_l _ | exact zv_r | apply zv_add | apply zv_sub | apply zv_mul | apply zv_neg)))
    | (with_reducible apply z_b_ck; (case h => with_unfolding_all rfl))
    | (with_reducible apply z_b_R; (case h => first | with_unfolding_all rfl))
    | (with_reducible apply z_L; (case he => repeat (with_reducible first | exact zv_l _ | exact zv_r | apply zv_add | apply zv_sub | apply zv_mul | apply zv_neg)); (case hn => with_reducible first | assumption | exact zl_2 | exact zl_6 | exact zl_9 | exact zl_15 | exact zl_40 | exact zl_51 | exact zl_56); (case h => omega); (case hy => first | ((simp (disch := omega) only [zU_c, zU_e, zU_k, zF_c, zF_i, zF_o, zW_o, zW_i, zC_c, zC_i, zC_o]); rfl) | rfl)))
            refine z_L (x := 15 + 6 * (i : Int) + c) (y := m2 51 (15 + 6 * (i : Int) + c)) (zv_add (zv_add (zv_l 15) (zv_mul (zv_l 6) rfl)) rfl) zl_51 (by omega) rfl ?_
            refine z_eq (x := m2 56 (b + c)) (y := m2 51 (15 + 6 * (i : Int) + c)) rfl rfl (by omega) (by omega) (fun he => ?_) (fun he => ?_)
            · repeat' (first
    | (with_reducible apply z_nm; (case he => repeat (with_reducible first | exact zv_l _ | exact zv_r | apply zv_add | apply zv_sub | apply zv_mul | apply zv_neg)))
    | (with_reducible apply z_b_ck; (case h => with_unfolding_all rfl))
    | (with_reducible apply z_b_R; (case h => first | with_unfolding_all rfl))
    | (with_reducible apply z_L; (case he => repeat (with_reducible first | exact zv_l _ | exact zv_r | apply zv_add | apply zv_sub | apply zv_mul | apply zv_neg)); (case hn => with_reducible first | assumption | exact zl_2 | exact zl_6 | exact zl_9 | exact zl_15 | exact zl_40 | exact zl_51 | exact zl_56); (case h => omega); (case hy => first | ((simp (disch := omega) only [zU_c, zU_e, zU_k, zF_c, zF_i, zF_o, zW_o, zW_i, zC_c, zC_i, zC_o]); rfl) | rfl)))
              refine hk2 _ _ _ (by omega) ⟨1, c + 1, rfl, by omega, by omega, rfl, rfl, Or.inr ⟨rfl, hq, fun j j0 j1 => ?_⟩⟩
              by_cases hj : j = c
              · rw [hj]
                exact he.symm
              · exact hall j j0 (by omega)
            · repeat' (first
    | (with_reducible apply z_nm; (case he => repeat (with_reducible first | exact zv_l _ | exact zv_r | apply zv_add | apply zv_sub | apply zv_mul | apply zv_neg)))
    | (with_reducible apply z_b_ck; (case h => with_unfolding_all rfl))
    | (with_reducible apply z_b_R; (case h => first | with_unfolding_all rfl))
    | (with_reducible apply z_L; (case he => repeat (with_reducible first | exact zv_l _ | exact zv_r | apply zv_add | apply zv_sub | apply zv_mul | apply zv_neg)); (case hn => with_reducible first | assumption | exact zl_2 | exact zl_6 | exact zl_9 | exact zl_15 | exact zl_40 | exact zl_51 | exact zl_56); (case h => omega); (case hy => first | ((simp (disch := omega) only [zU_c, zU_e, zU_k, zF_c, zF_i, zF_o, zW_o, zW_i, zC_c, zC_i, zC_o]); rfl) | rfl)))
              exact hk2 _ _ _ (by omega) ⟨0, c + 1, rfl, by omega, by omega, rfl, rfl, Or.inl ⟨rfl, fun w => he (w.2 c c0 (by omega)).symm⟩⟩
      · rcases hs0 with h | ⟨h, h2⟩
        · exact Or.inl h
        · exact Or.inr ⟨h, h2, fun j j0 j1 => by exfalso; omega⟩
    (first
    | (with_reducible apply z_nm; (case he => repeat (with_reducible first | exact zv_l _ | exact zv_r | apply zv_add | apply zv_sub | apply zv_mul | apply zv_neg)))
    | (with_reducible apply z_b_ck; (case h => with_unfolding_all rfl))
    | (with_reducible apply z_b_R; (case h => first | with_unfolding_all rfl))
    | (with_reducible apply z_L; (case he => repeat (with_reducible first | exact zv_l _ | exact zv_r | apply zv_add | apply zv_sub | apply zv_mul | apply zv_neg)); (case hn => with_reducible first | assumption | exact zl_2 | exact zl_6 | exact zl_9 | exact zl_15 | exact zl_40 | exact zl_51 | exact zl_56); (case h => omega); (case hy => first | ((simp (disch := omega) only [zU_c, zU_e, zU_k, zF_c, zF_i, zF_o, zW_o, zW_i, zC_c, zC_i, zC_o]); rfl) | rfl)))
    refine z_L (x := 9 + (i : Int)) (y := m1 51 (9 + (i : Int))) (zv_add (zv_l 9) rfl) zl_51 (by omega) rfl ?_
    refine z_eq (x := m1 51 (9 + (i : Int))) (y := e - b) rfl (zv_sub rfl rfl) (by omega) (by omega) (fun hq => ?_) (fun hq => ?_)
    · exact hloop 1 (Or.inr ⟨rfl, hq⟩)
    · exact hloop 0 (Or.inl ⟨rfl, fun w => hq w.1⟩)
theorem z_7whose {m : zMe} {e2 e3 : Int32} {b e : Int} (e5 : e2 = zI b) (e6 : e3 = zI e) (r2 : 0 ≤ b ∧ b ≤ 40) (r3 : 0 ≤ e ∧ e ≤ 40) (a1 : zRw m) (a2 : zLr m) (a3 : ∀ j, 0 ≤ j → j < 40 → 0 ≤ m 56 j ∧ m 56 j ≤ 255) {α : Type} {kf : Int32 × Hp → Option (α × Hp)} {Q : α → zMe → Prop} (K : zOk (kf (zI (zWho7 m b e), zM (m))) Q) : zOk ((f_X7_whose 50 e2 e3 (zM m)).bind kf) Q := z_b (s_7whose e5 e6 r2 r3 a1 a2 a3) K
set_option maxRecDepth 100000 in
set_option maxHeartbeats 1000000 in
theorem s_7named {m : zMe} (r1 : 0 ≤ m 50 11 ∧ m 50 11 ≤ 40) (a1 : zRw m) (a2 : zLr m) (a3 : ∀ j, 0 ≤ j → j < 40 → 0 ≤ m 56 j ∧ m 56 j ≤ 255) : f_X7_named 50 (zM m) = some (zI (zWho7 m 0 (m 50 11)), zM (zU m 50 11 0)) := by
  refine zOk.eq ?_
  unfold f_X7_named
  (first
    | (with_reducible apply z_b_ck; (case h => with_unfolding_all rfl))
    | (with_reducible apply z_I; (case h => first | with_unfolding_all rfl); (case hy => first | ((simp (disch := omega) only [zU_c, zU_e, zU_k, zF_c, zF_i, zF_o, zW_o, zW_i, zC_c, zC_i, zC_o]); rfl) | rfl))
    | (with_reducible apply z_PU; (case he => repeat (with_reducible first | exact zv_l _ | exact zv_r)); (case h => with_reducible first | exact zp_50_11 _))
    | (with_reducible apply z_7whose; (case e5 => repeat (with_reducible first | exact zv_l _ | exact zv_r)); (case e6 => repeat (with_reducible first | exact zv_l _ | exact zv_r)); (case r2 => first | omega | ((simp (disch := omega) only [zU_c, zU_e, zU_k, zF_c, zF_i, zF_o, zW_o, zW_i, zC_c, zC_i, zC_o]); omega)); (case r3 => first | omega | ((simp (disch := omega) only [zU_c, zU_e, zU_k, zF_c, zF_i, zF_o, zW_o, zW_i, zC_c, zC_i, zC_o]); omega)); (case a1 => assumption); (case a2 => assumption); (case a3 => assumption)))
  (first
    | (with_reducible apply z_b_ck; (case h => with_unfolding_all rfl))
    | (with_reducible apply z_I; (case h => first | with_unfolding_all rfl); (case hy => first | ((simp (disch := omega) only [zU_c, zU_e, zU_k, zF_c, zF_i, zF_o, zW_o, zW_i, zC_c, zC_i, zC_o]); rfl) | rfl))
    | (with_reducible apply z_PU; (case he => repeat (with_reducible first | exact zv_l _ | exact zv_r)); (case h => with_reducible first | exact zp_50_11 _))
    | (with_reducible apply z_7whose; (case e5 => repeat (with_reducible first | exact zv_l _ | exact zv_r)); (case e6 => repeat (with_reducible first | exact zv_l _ | exact zv_r)); (case r2 => first | omega | ((simp (disch := omega) only [zU_c, zU_e, zU_k, zF_c, zF_i, zF_o, zW_o, zW_i, zC_c, zC_i, zC_o]); omega)); (case r3 => first | omega | ((simp (disch := omega) only [zU_c, zU_e, zU_k, zF_c, zF_i, zF_o, zW_o, zW_i, zC_c, zC_i, zC_o]); omega)); (case a1 => assumption); (case a2 => assumption); (case a3 => assumption)))
  refine z_7whose (b := 0) (zv_l 0) rfl (by omega) (by omega) a1 a2 a3 ?_
  repeat' (first
    | (with_reducible apply z_b_ck; (case h => with_unfolding_all rfl))
    | (with_reducible apply z_I; (case h => first | with_unfolding_all rfl); (case hy => first | ((simp (disch := omega) only [zU_c, zU_e, zU_k, zF_c, zF_i, zF_o, zW_o, zW_i, zC_c, zC_i, zC_o]); rfl) | rfl))
    | (with_reducible apply z_PU; (case he => repeat (with_reducible first | exact zv_l _ | exact zv_r)); (case h => with_reducible first | exact zp_50_11 _))
    | (with_reducible apply z_7whose; (case e5 => repeat (with_reducible first | exact zv_l _ | exact zv_r)); (case e6 => repeat (with_reducible first | exact zv_l _ | exact zv_r)); (case r2 => first | omega | ((simp (disch := omega) only [zU_c, zU_e, zU_k, zF_c, zF_i, zF_o, zW_o, zW_i, zC_c, zC_i, zC_o]); omega)); (case r3 => first | omega | ((simp (disch := omega) only [zU_c, zU_e, zU_k, zF_c, zF_i, zF_o, zW_o, zW_i, zC_c, zC_i, zC_o]); omega)); (case a1 => assumption); (case a2 => assumption); (case a3 => assumption)))
  exact ⟨_, _, rfl, rfl, rfl⟩
theorem z_7named {m : zMe} (r1 : 0 ≤ m 50 11 ∧ m 50 11 ≤ 40) (a1 : zRw m) (a2 : zLr m) (a3 : ∀ j, 0 ≤ j → j < 40 → 0 ≤ m 56 j ∧ m 56 j ≤ 255) {α : Type} {kf : Int32 × Hp → Option (α × Hp)} {Q : α → zMe → Prop} (K : zOk (kf (zI (zWho7 m 0 (m 50 11)), zM (zU m 50 11 0))) Q) : zOk ((f_X7_named 50 (zM m)).bind kf) Q := z_b (s_7named r1 a1 a2 a3) K
