/-! the reference: texts -/
/-- what a text comes to in the reference -/
def zTq7 (mc m : zMe) (o : Nat × Int × Int × Int) (v : Int32) (m1 : zMe) : Prop := v = zI (zAns mc o) ∧ zEq2 (zOpc mc o) m1 3 51 ∧ m1 50 11 = 0 ∧ ∀ c j, ¬ c = 51 → ¬ (c = 50 ∧ (j = 11 ∨ j = 12 ∨ j = 13 ∨ j = 14)) → m1 c j = m c j
theorem zNn_fr {mc m : zMe} {k c : Nat} {j : Int} (h : ¬ (c = 50 ∧ (j = 11 ∨ j = 12 ∨ j = 13 ∨ j = 14))) : zU (zNn mc m k) 50 11 0 c j = m c j := by
  unfold zNn
  by_cases hc : c = 50
  · subst hc
    rw [zU_k (by omega), zNt_j (by omega)]
  · rw [zU_c hc, zNt_c hc]
theorem zNn_E {mc m : zMe} {k : Nat} (hE : zEq2 mc m 3 51) : zEq2 mc (zU (zNn mc m k) 50 11 0) 3 51 := zEq2_c (fun _ _ _ _ => rfl) (fun j => by rw [zU_c (by omega)]; exact zNt_c (by omega)) hE
theorem zTq7_no {mc m : zMe} {k : Nat} {x : Int} (hE : zEq2 mc m 3 51) : zTq7 mc m (zNo x) (zI x) (zU (zNn mc m k) 50 11 0) := ⟨rfl, zNn_E hE, zU_e, fun c j _ h => zNn_fr h⟩
theorem s7_flt {mc m : zMe} {k : Nat} (hJ : zJt mc m) : zOk ((f_X7_faults 50 (zM (zNn mc m k))).bind fun q => some (q.1, q.2)) (fun v m1 => zTq7 mc m (zFa mc k) v m1) := by
  refine s7_fault hJ.1 hJ.2.1 ?_
  exact ⟨_, _, rfl, zTq7_no hJ.2.2.2.2.1⟩
theorem s7_ct_l {M : zMe} {t b s : Int} (ht : M 51 0 = t) (ht6 : 0 ≤ t ∧ t < 6) (hb : 0 ≤ b ∧ b + s ≤ 40) (hs : 1 ≤ s ∧ s ≤ 6) : zOk (lp f_X7_comesTeam_70 600 (50, zI b, zI s, zI t, zI 0) (zM (zU (zU M 51 (3 + t) 0) 51 (9 + t) s))) (fun v m1 => v = zI t ∧ m1 = zAu M 51 b s) := by
  refine z_lp (fun n v m1 => ∃ i : Int, v = (50, zI b, zI s, zI t, zI i) ∧ 0 ≤ i ∧ i ≤ s ∧ n = (s - i).toNat ∧ m1 = zF (zU (zU M 51 (3 + t) 0) 51 (9 + t) s) 51 (15 + 6 * t) i (fun i => M 56 (b + i))) (fun _ _ v m1 => v = zI t ∧ m1 = zAu M 51 b s) ?_ 600 s.toNat _ _ (by omega) ⟨0, rfl, by omega, by omega, by omega, (zF_0 _ _ _ _).symm⟩
  rintro n v m1 k ⟨i, rfl, h0, h1, rfl, rfl⟩ hk
  unfold f_X7_comesTeam_70
  dsimp only
  (first
    | (with_reducible apply z_B; all_goals (intro _; try (exfalso; omega)))
    | (with_reducible apply z_E; all_goals intro _)
    | (with_reducible apply z_lt; (case ha => repeat (with_reducible first | exact zv_l _ | exact zv_r | apply zv_add | apply zv_sub | apply zv_mul)); (case hb => repeat (with_reducible first | exact zv_l _ | exact zv_r | apply zv_add | apply zv_sub | apply zv_mul)); (case hx => omega); (case hy => omega); all_goals (intro _; try (exfalso; omega)))
    | (with_reducible apply z_le; (case ha => repeat (with_reducible first | exact zv_l _ | exact zv_r | apply zv_add | apply zv_sub | apply zv_mul)); (case hb => repeat (with_reducible first | exact zv_l _ | exact zv_r | apply zv_add | apply zv_sub | apply zv_mul)); (case hx => omega); (case hy => omega); all_goals (intro _; try (exfalso; omega)))
    | (with_reducible apply z_eq; (case ha => repeat (with_reducible first | exact zv_l _ | exact zv_r | apply zv_add | apply zv_sub | apply zv_mul)); (case hb => repeat (with_reducible first | exact zv_l _ | exact zv_r | apply zv_add | apply zv_sub | apply zv_mul)); (case hx => omega); (case hy => omega); all_goals (intro _; try (exfalso; omega))))
  · have : i = s := by omega
    subst this
    have e0 : zF (zU (zU M 51 (3 + t) 0) 51 (9 + t) i) 51 (15 + 6 * t) i (fun i => M 56 (b + i)) 51 0 = t := by
      rw [zF_o (by omega), zU_k (by omega), zU_k (by omega)]
      exact ht
    (first
    | (with_reducible apply z_nm; (case he => repeat (with_reducible first | exact zv_l _ | exact zv_r | apply zv_add | apply zv_sub | apply zv_mul)))
    | (with_reducible apply z_b_R; (case h => first | with_unfolding_all rfl))
    | (with_reducible apply z_L; (case he => repeat (with_reducible first | exact zv_l _ | exact zv_r | apply zv_add | apply zv_sub | apply zv_mul)); (case hn => with_reducible first | assumption | exact zl_6 | exact zl_9 | exact zl_15 | exact zl_40 | exact zl_51 | exact zl_56); (case h => omega); (case hy => first | ((simp (disch := omega) only [zU_c, zU_e, zU_k, zF_c, zF_i, zF_o, zW_o, zW_i, zC_c, zC_i, zC_o]); rfl) | rfl))
    | (with_reducible apply z_S; (case he => repeat (with_reducible first | exact zv_l _ | exact zv_r | apply zv_add | apply zv_sub | apply zv_mul)); (case hg => repeat (with_reducible first | exact zv_l _ | exact zv_r | apply zv_add | apply zv_sub | apply zv_mul)); (case hn => with_reducible first | assumption | exact zl_6 | exact zl_9 | exact zl_15 | exact zl_40 | exact zl_51 | exact zl_56); (case h => omega)))
    refine z_L (x := 0) (y := t) (zv_l 0) zl_51 (by omega) e0 ?_
    refine z_S (x := 0) (y := t + 1) (zv_l 0) (zv_add rfl (zv_l 1)) zl_51 (by omega) ?_
    refine z_reti rfl ⟨rfl, ?_⟩
    unfold zAu
    rw [ht]
  · (first
    | (with_reducible apply z_nm; (case he => repeat (with_reducible first | exact zv_l _ | exact zv_r | apply zv_add | apply zv_sub | apply zv_mul)))
    | (with_reducible apply z_b_R; (case h => first | with_unfolding_all rfl))
    | (with_reducible apply z_L; (case he => repeat (with_reducible first | exact zv_l _ | exact zv_r | apply zv_add | apply zv_sub | apply zv_mul)); (case hn => with_reducible first | assumption | exact zl_6 | exact zl_9 | exact zl_15 | exact zl_40 | exact zl_51 | exact zl_56); (case h => omega); (case hy => first | ((simp (disch := omega) only [zU_c, zU_e, zU_k, zF_c, zF_i, zF_o, zW_o, zW_i, zC_c, zC_i, zC_o]); rfl) | rfl))
    | (with_reducible apply z_S; (case he => repeat (with_reducible first | exact zv_l _ | exact zv_r | apply zv_add | apply zv_sub | apply zv_mul)); (case hg => repeat (with_reducible first | exact zv_l _ | exact zv_r | apply zv_add | apply zv_sub | apply zv_mul)); (case hn => with_reducible first | assumption | exact zl_6 | exact zl_9 | exact zl_15 | exact zl_40 | exact zl_51 | exact zl_56); (case h => omega)))
    (first
    | (with_reducible apply z_nm; (case he => repeat (with_reducible first | exact zv_l _ | exact zv_r | apply zv_add | apply zv_sub | apply zv_mul)))
    | (with_reducible apply z_b_R; (case h => first | with_unfolding_all rfl))
    | (with_reducible apply z_L; (case he => repeat (with_reducible first | exact zv_l _ | exact zv_r | apply zv_add | apply zv_sub | apply zv_mul)); (case hn => with_reducible first | assumption | exact zl_6 | exact zl_9 | exact zl_15 | exact zl_40 | exact zl_51 | exact zl_56); (case h => omega); (case hy => first | ((simp (disch := omega) only [zU_c, zU_e, zU_k, zF_c, zF_i, zF_o, zW_o, zW_i, zC_c, zC_i, zC_o]); rfl) | rfl))
    | (with_reducible apply z_S; (case he => repeat (with_reducible first | exact zv_l _ | exact zv_r | apply zv_add | apply zv_sub | apply zv_mul)); (case hg => repeat (with_reducible first | exact zv_l _ | exact zv_r | apply zv_add | apply zv_sub | apply zv_mul)); (case hn => with_reducible first | assumption | exact zl_6 | exact zl_9 | exact zl_15 | exact zl_40 | exact zl_51 | exact zl_56); (case h => omega)))
    refine z_L (x := b + i) (y := M 56 (b + i)) (zv_add rfl rfl) zl_56 (by omega) (by rw [zF_c (by omega), zU_c (by omega), zU_c (by omega)]) ?_
    refine z_S (x := 15 + 6 * t + i) (zv_add (zv_add (zv_l 15) (zv_mul (zv_l 6) rfl)) rfl) rfl zl_51 (by omega) ?_
    (first
    | (with_reducible apply z_nm; (case he => repeat (with_reducible first | exact zv_l _ | exact zv_r | apply zv_add | apply zv_sub | apply zv_mul)))
    | (with_reducible apply z_b_R; (case h => first | with_unfolding_all rfl))
    | (with_reducible apply z_L; (case he => repeat (with_reducible first | exact zv_l _ | exact zv_r | apply zv_add | apply zv_sub | apply zv_mul)); (case hn => with_reducible first | assumption | exact zl_6 | exact zl_9 | exact zl_15 | exact zl_40 | exact zl_51 | exact zl_56); (case h => omega); (case hy => first | ((simp (disch := omega) only [zU_c, zU_e, zU_k, zF_c, zF_i, zF_o, zW_o, zW_i, zC_c, zC_i, zC_o]); rfl) | rfl))
    | (with_reducible apply z_S; (case he => repeat (with_reducible first | exact zv_l _ | exact zv_r | apply zv_add | apply zv_sub | apply zv_mul)); (case hg => repeat (with_reducible first | exact zv_l _ | exact zv_r | apply zv_add | apply zv_sub | apply zv_mul)); (case hn => with_reducible first | assumption | exact zl_6 | exact zl_9 | exact zl_15 | exact zl_40 | exact zl_51 | exact zl_56); (case h => omega)))
    exact hk _ _ _ (by omega) ⟨i + 1, rfl, by omega, by omega, rfl, zF_s h0 rfl rfl⟩
set_option maxRecDepth 100000 in
set_option maxHeartbeats 1000000 in
theorem s7_comesTeam {mc m : zMe} (hJ : zJt mc m) (h1 : zTnm mc 1) (h2 : zTwh mc 1 = -1) : zOk ((f_X7_comesTeam 50 (zM (zNn mc m 1))).bind fun q => some (q.1, q.2)) (fun v m1 => zTq7 mc m (zOt mc) v m1) := by
  obtain ⟨hP, h3, hT, hW, hE, h57⟩ := id hJ
  have hr : 0 ≤ zBg mc 1 ∧ zBg mc 1 ≤ zEn mc 2 ∧ zEn mc 2 ≤ mc 1 1 := (zTp_r hP h3 1).1
  have hs := hT.2.1
  have hO : zOt mc = zIf (zKd mc 2 = 0) (if mc 3 0 < 6 then (1, zBg mc 1, zEn mc 2, 0) else zNo (-4)) (zFa mc 2) := zIf_p ⟨h1, h2⟩
  have hsp : 1 ≤ zEn mc 2 - zBg mc 1 ∧ zEn mc 2 - zBg mc 1 ≤ 6 := by
    have q1 : zEn mc 2 - zBg mc 1 ≤ 6 := h1.2.1
    have q2 : zBg mc 1 < zEn mc 2 := (zKd_len (mc := mc) 1).1 (Or.inl h1.1)
    omega
  have hT6 := hW.1.1
  refine zOk_pair ?_
  unfold f_X7_comesTeam
  (first
    | (with_reducible apply z_nm; (case he => repeat (with_reducible first | exact zv_l _ | exact zv_r | apply zv_add | apply zv_sub | apply zv_neg)))
    | (with_reducible apply z_b_ck; (case h => with_unfolding_all rfl))
    | (with_reducible apply z_I; (case h => first | with_unfolding_all rfl); (case hy => first | ((simp (disch := omega) only [zU_c, zU_e, zU_k, zF_c, zF_i, zF_o, zW_o, zW_i, zC_c, zC_i, zC_o]); rfl) | rfl))
    | (with_reducible apply z_b_R; (case h => first | with_unfolding_all rfl))
    | (with_reducible apply z_PU; (case he => repeat (with_reducible first | exact zv_l _ | exact zv_r | apply zv_add | apply zv_sub | apply zv_neg)); (case h => with_reducible first | exact zp_50_11 _))
    | (with_reducible apply z_L; (case he => repeat (with_reducible first | exact zv_l _ | exact zv_r | apply zv_add | apply zv_sub | apply zv_neg)); (case hn => with_reducible first | assumption | exact zl_2 | exact zl_4 | exact zl_6 | exact zl_9 | exact zl_51); (case h => omega); (case hy => first | ((simp (disch := omega) only [zU_c, zU_e, zU_k, zF_c, zF_i, zF_o, zW_o, zW_i, zC_c, zC_i, zC_o]); rfl) | rfl))
    | (with_reducible apply z_S; (case he => repeat (with_reducible first | exact zv_l _ | exact zv_r | apply zv_add | apply zv_sub | apply zv_neg)); (case hg => repeat (with_reducible first | exact zv_l _ | exact zv_r | apply zv_add | apply zv_sub | apply zv_neg)); (case hn => with_reducible first | assumption | exact zl_2 | exact zl_4 | exact zl_6 | exact zl_9 | exact zl_51); (case h => omega)))
  refine z_I (y := zBg mc 1) (by with_unfolding_all rfl) zNt_13 ?_
  refine z_I (y := zEn mc 2) (by with_unfolding_all rfl) zNt_14 ?_
  refine z_I (y := zBg mc 1) (by with_unfolding_all rfl) zNt_13 ?_
  refine z_nm (x := zEn mc 2 - zBg mc 1) (zv_sub rfl rfl) ?_
  refine s7_isOver hP h3 hT ?_
  rw [hO]
  refine z_B (fun h => ?_) (fun h => ?_)
  · rw [zIf_n h]
    exact s7_flt hJ
  · rw [zIf_p h]
    (first
    | (with_reducible apply z_nm; (case he => repeat (with_reducible first | exact zv_l _ | exact zv_r | apply zv_add | apply zv_sub | apply zv_neg)))
    | (with_reducible apply z_b_ck; (case h => with_unfolding_all rfl))
    | (with_reducible apply z_I; (case h => first | with_unfolding_all rfl); (case hy => first | ((simp (disch := omega) only [zU_c, zU_e, zU_k, zF_c, zF_i, zF_o, zW_o, zW_i, zC_c, zC_i, zC_o]); rfl) | rfl))
    | (with_reducible apply z_b_R; (case h => first | with_unfolding_all rfl))
    | (with_reducible apply z_PU; (case he => repeat (with_reducible first | exact zv_l _ | exact zv_r | apply zv_add | apply zv_sub | apply zv_neg)); (case h => with_reducible first | exact zp_50_11 _))
    | (with_reducible apply z_L; (case he => repeat (with_reducible first | exact zv_l _ | exact zv_r | apply zv_add | apply zv_sub | apply zv_neg)); (case hn => with_reducible first | assumption | exact zl_2 | exact zl_4 | exact zl_6 | exact zl_9 | exact zl_51); (case h => omega); (case hy => first | ((simp (disch := omega) only [zU_c, zU_e, zU_k, zF_c, zF_i, zF_o, zW_o, zW_i, zC_c, zC_i, zC_o]); rfl) | rfl))
    | (with_reducible apply z_S; (case he => repeat (with_reducible first | exact zv_l _ | exact zv_r | apply zv_add | apply zv_sub | apply zv_neg)); (case hg => repeat (with_reducible first | exact zv_l _ | exact zv_r | apply zv_add | apply zv_sub | apply zv_neg)); (case hn => with_reducible first | assumption | exact zl_2 | exact zl_4 | exact zl_6 | exact zl_9 | exact zl_51); (case h => omega)))
    have hE2 : zEq2 mc (zU (zNn mc m 2) 50 11 0) 3 51 := zNn_E hE
    have e0 : zU (zNn mc m 2) 50 11 0 51 0 = mc 3 0 := hE2.1.1
    (first
    | (with_reducible apply z_nm; (case he => repeat (with_reducible first | exact zv_l _ | exact zv_r | apply zv_add | apply zv_sub | apply zv_neg)))
    | (with_reducible apply z_b_ck; (case h => with_unfolding_all rfl))
    | (with_reducible apply z_I; (case h => first | with_unfolding_all rfl); (case hy => first | ((simp (disch := omega) only [zU_c, zU_e, zU_k, zF_c, zF_i, zF_o, zW_o, zW_i, zC_c, zC_i, zC_o]); rfl) | rfl))
    | (with_reducible apply z_b_R; (case h => first | with_unfolding_all rfl))
    | (with_reducible apply z_PU; (case he => repeat (with_reducible first | exact zv_l _ | exact zv_r | apply zv_add | apply zv_sub | apply zv_neg)); (case h => with_reducible first | exact zp_50_11 _))
    | (with_reducible apply z_L; (case he => repeat (with_reducible first | exact zv_l _ | exact zv_r | apply zv_add | apply zv_sub | apply zv_neg)); (case hn => with_reducible first | assumption | exact zl_2 | exact zl_4 | exact zl_6 | exact zl_9 | exact zl_51); (case h => omega); (case hy => first | ((simp (disch := omega) only [zU_c, zU_e, zU_k, zF_c, zF_i, zF_o, zW_o, zW_i, zC_c, zC_i, zC_o]); rfl) | rfl))
    | (with_reducible apply z_S; (case he => repeat (with_reducible first | exact zv_l _ | exact zv_r | apply zv_add | apply zv_sub | apply zv_neg)); (case hg => repeat (with_reducible first | exact zv_l _ | exact zv_r | apply zv_add | apply zv_sub | apply zv_neg)); (case hn => with_reducible first | assumption | exact zl_2 | exact zl_4 | exact zl_6 | exact zl_9 | exact zl_51); (case h => omega)))
    refine z_L (x := 0) (y := mc 3 0) (zv_l 0) zl_51 (by omega) e0 ?_
    refine z_eq (x := mc 3 0) (y := 6) rfl (zv_l 6) (by omega) (by omega) (fun h6 => ?_) (fun h6 => ?_)
    · rw [if_neg (by omega)]
      exact ⟨_, _, rfl, zTq7_no hE⟩
    · rw [if_pos (by omega)]
      (first
    | (with_reducible apply z_nm; (case he => repeat (with_reducible first | exact zv_l _ | exact zv_r | apply zv_add | apply zv_sub | apply zv_neg)))
    | (with_reducible apply z_b_ck; (case h => with_unfolding_all rfl))
    | (with_reducible apply z_I; (case h => first | with_unfolding_all rfl); (case hy => first | ((simp (disch := omega) only [zU_c, zU_e, zU_k, zF_c, zF_i, zF_o, zW_o, zW_i, zC_c, zC_i, zC_o]); rfl) | rfl))
    | (with_reducible apply z_b_R; (case h => first | with_unfolding_all rfl))
    | (with_reducible apply z_PU; (case he => repeat (with_reducible first | exact zv_l _ | exact zv_r | apply zv_add | apply zv_sub | apply zv_neg)); (case h => with_reducible first | exact zp_50_11 _))
    | (with_reducible apply z_L; (case he => repeat (with_reducible first | exact zv_l _ | exact zv_r | apply zv_add | apply zv_sub | apply zv_neg)); (case hn => with_reducible first | assumption | exact zl_2 | exact zl_4 | exact zl_6 | exact zl_9 | exact zl_51); (case h => omega); (case hy => first | ((simp (disch := omega) only [zU_c, zU_e, zU_k, zF_c, zF_i, zF_o, zW_o, zW_i, zC_c, zC_i, zC_o]); rfl) | rfl))
    | (with_reducible apply z_S; (case he => repeat (with_reducible first | exact zv_l _ | exact zv_r | apply zv_add | apply zv_sub | apply zv_neg)); (case hg => repeat (with_reducible first | exact zv_l _ | exact zv_r | apply zv_add | apply zv_sub | apply zv_neg)); (case hn => with_reducible first | assumption | exact zl_2 | exact zl_4 | exact zl_6 | exact zl_9 | exact zl_51); (case h => omega)))
      refine z_S (x := 3 + mc 3 0) (y := 0) (zv_add (zv_l 3) rfl) (zv_l 0) zl_51 (by omega) ?_
      (first
    | (with_reducible apply z_nm; (case he => repeat (with_reducible first | exact zv_l _ | exact zv_r | apply zv_add | apply zv_sub | apply zv_neg)))
    | (with_reducible apply z_b_ck; (case h => with_unfolding_all rfl))
    | (with_reducible apply z_I; (case h => first | with_unfolding_all rfl); (case hy => first | ((simp (disch := omega) only [zU_c, zU_e, zU_k, zF_c, zF_i, zF_o, zW_o, zW_i, zC_c, zC_i, zC_o]); rfl) | rfl))
    | (with_reducible apply z_b_R; (case h => first | with_unfolding_all rfl))
    | (with_reducible apply z_PU; (case he => repeat (with_reducible first | exact zv_l _ | exact zv_r | apply zv_add | apply zv_sub | apply zv_neg)); (case h => with_reducible first | exact zp_50_11 _))
    | (with_reducible apply z_L; (case he => repeat (with_reducible first | exact zv_l _ | exact zv_r | apply zv_add | apply zv_sub | apply zv_neg)); (case hn => with_reducible first | assumption | exact zl_2 | exact zl_4 | exact zl_6 | exact zl_9 | exact zl_51); (case h => omega); (case hy => first | ((simp (disch := omega) only [zU_c, zU_e, zU_k, zF_c, zF_i, zF_o, zW_o, zW_i, zC_c, zC_i, zC_o]); rfl) | rfl))
    | (with_reducible apply z_S; (case he => repeat (with_reducible first | exact zv_l _ | exact zv_r | apply zv_add | apply zv_sub | apply zv_neg)); (case hg => repeat (with_reducible first | exact zv_l _ | exact zv_r | apply zv_add | apply zv_sub | apply zv_neg)); (case hn => with_reducible first | assumption | exact zl_2 | exact zl_4 | exact zl_6 | exact zl_9 | exact zl_51); (case h => omega)))
      refine z_S (x := 9 + mc 3 0) (y := zEn mc 2 - zBg mc 1) (zv_add (zv_l 9) rfl) rfl zl_51 (by omega) ?_
      refine zOk.mono (s7_ct_l (M := zU (zNn mc m 2) 50 11 0) e0 (by omega) (by omega) hsp) (fun v m1 q => ?_)
      obtain ⟨rfl, rfl⟩ := q
      refine ⟨rfl, ?_, ?_, fun c j hc hcj => ?_⟩
      · show zEq2 (zAt mc 3 (zBg mc 1) (zEn mc 2 - zBg mc 1)) (zAu (zU (zNn mc m 2) 50 11 0) 51 (zBg mc 1) (zEn mc 2 - zBg mc 1)) 3 51
        refine zEq2_tea hE2 hW (by omega) hsp (fun i i0 i1 => ?_)
        rw [zNn_fr (by omega)]
        exact hT.2.2.1 _ (by omega) (by omega)
      · unfold zAu
        rw [zU_c (by omega), zF_c (by omega), zU_c (by omega), zU_c (by omega), zU_e]
      · unfold zAu
        rw [zU_c hc, zF_c hc, zU_c hc, zU_c hc]
        exact zNn_fr hcj
set_option maxRecDepth 100000 in
set_option maxHeartbeats 1000000 in
theorem s7_starts {mc m : zMe} (hJ : zJt mc m) (h1 : zTnm mc 1) (h2 : ¬ zTwh mc 1 = -1) : zOk ((f_X7_starts 50 (zM (zNn mc m 1))).bind fun q => some (q.1, q.2)) (fun v m1 => zTq7 mc m (zOs mc) v m1) := by
  obtain ⟨hP, h3, hT, hW, hE, h57⟩ := id hJ
  have hO : zOs mc = zIf (zTnu mc 2 0 9 = -1) (zFa mc 2) (zIf (zKd mc 3 = 0) (2, zTwh mc 1, zTnu mc 2 0 9, 0) (zFa mc 3)) := zIf_p ⟨h1, h2⟩
  have hwr := zTwh_r hW 1
  have hnr := zTnu_r (m := mc) (k := 2) (lo := 0) (hi := 9)
  have hT6 := hW.1.1
  refine zOk_pair ?_
  unfold f_X7_starts
  (first
    | (with_reducible apply z_b_ck; (case h => with_unfolding_all rfl))
    | (with_reducible apply z_I; (case h => first | with_unfolding_all rfl); (case hy => first | ((simp (disch := omega) only [zU_c, zU_e, zU_k, zF_c, zF_i, zF_o, zW_o, zW_i, zC_c, zC_i, zC_o]); rfl) | rfl))
    | (with_reducible apply z_b_R; (case h => first | with_unfolding_all rfl))
    | (with_reducible apply z_PU; (case he => repeat (with_reducible first | exact zv_l _ | exact zv_r | apply zv_add | apply zv_neg)); (case h => with_reducible first | exact zp_50_11 _))
    | (with_reducible apply z_S; (case he => repeat (with_reducible first | exact zv_l _ | exact zv_r | apply zv_add | apply zv_neg)); (case hg => repeat (with_reducible first | exact zv_l _ | exact zv_r | apply zv_add | apply zv_neg)); (case hn => with_reducible first | assumption | exact zl_2 | exact zl_9 | exact zl_51); (case h => omega))
    | (with_reducible apply z_7whose; (case e5 => repeat (with_reducible first | exact zv_l _ | exact zv_r | apply zv_add | apply zv_neg)); (case e6 => repeat (with_reducible first | exact zv_l _ | exact zv_r | apply zv_add | apply zv_neg)); (case r2 => first | omega | ((simp (disch := omega) only [zU_c, zU_e, zU_k, zF_c, zF_i, zF_o, zW_o, zW_i, zC_c, zC_i, zC_o]); omega)); (case r3 => first | omega | ((simp (disch := omega) only [zU_c, zU_e, zU_k, zF_c, zF_i, zF_o, zW_o, zW_i, zC_c, zC_i, zC_o]); omega)); (case a1 => assumption); (case a2 => assumption); (case a3 => assumption))
    | (with_reducible apply z_7next; (case a1 => assumption); (case r1 => first | omega | ((simp (disch := omega) only [zU_c, zU_e, zU_k, zF_c, zF_i, zF_o, zW_o, zW_i, zC_c, zC_i, zC_o]); omega)); (case a2 => assumption)))
  refine z_I (y := zBg mc 1) (by with_unfolding_all rfl) zNt_13 ?_
  refine z_I (y := zEn mc 2) (by with_unfolding_all rfl) zNt_14 ?_
  refine s7_whose hJ ?_
  refine s7_step hP h3 hT ?_
  refine s7_number (lo := 0) (hi := 9) (zv_l 0) (zv_l 9) (by omega) (by omega) hJ ?_
  rw [hO]
  refine z_lt (x := zTnu mc 2 0 9) (y := 0) rfl rfl (by omega) (by omega) (fun h => ?_) (fun h => ?_)
  · rw [zIf_p (by omega)]
    unfold f_X7_starts_36
    exact s7_flt hJ
  · rw [zIf_n (by omega)]
    refine s7_isOver hP h3 hT ?_
    refine z_B (fun hd => ?_) (fun hd => ?_)
    · rw [zIf_n hd]
      unfold f_X7_starts_36
      exact s7_flt hJ
    · rw [zIf_p hd]
      (first
    | (with_reducible apply z_b_ck; (case h => with_unfolding_all rfl))
    | (with_reducible apply z_I; (case h => first | with_unfolding_all rfl); (case hy => first | ((simp (disch := omega) only [zU_c, zU_e, zU_k, zF_c, zF_i, zF_o, zW_o, zW_i, zC_c, zC_i, zC_o]); rfl) | rfl))
    | (with_reducible apply z_b_R; (case h => first | with_unfolding_all rfl))
    | (with_reducible apply z_PU; (case he => repeat (with_reducible first | exact zv_l _ | exact zv_r | apply zv_add | apply zv_neg)); (case h => with_reducible first | exact zp_50_11 _))
    | (with_reducible apply z_S; (case he => repeat (with_reducible first | exact zv_l _ | exact zv_r | apply zv_add | apply zv_neg)); (case hg => repeat (with_reducible first | exact zv_l _ | exact zv_r | apply zv_add | apply zv_neg)); (case hn => with_reducible first | assumption | exact zl_2 | exact zl_9 | exact zl_51); (case h => omega))
    | (with_reducible apply z_7whose; (case e5 => repeat (with_reducible first | exact zv_l _ | exact zv_r | apply zv_add | apply zv_neg)); (case e6 => repeat (with_reducible first | exact zv_l _ | exact zv_r | apply zv_add | apply zv_neg)); (case r2 => first | omega | ((simp (disch := omega) only [zU_c, zU_e, zU_k, zF_c, zF_i, zF_o, zW_o, zW_i, zC_c, zC_i, zC_o]); omega)); (case r3 => first | omega | ((simp (disch := omega) only [zU_c, zU_e, zU_k, zF_c, zF_i, zF_o, zW_o, zW_i, zC_c, zC_i, zC_o]); omega)); (case a1 => assumption); (case a2 => assumption); (case a3 => assumption))
    | (with_reducible apply z_7next; (case a1 => assumption); (case r1 => first | omega | ((simp (disch := omega) only [zU_c, zU_e, zU_k, zF_c, zF_i, zF_o, zW_o, zW_i, zC_c, zC_i, zC_o]); omega)); (case a2 => assumption)))
      (first
    | (with_reducible apply z_b_ck; (case h => with_unfolding_all rfl))
    | (with_reducible apply z_I; (case h => first | with_unfolding_all rfl); (case hy => first | ((simp (disch := omega) only [zU_c, zU_e, zU_k, zF_c, zF_i, zF_o, zW_o, zW_i, zC_c, zC_i, zC_o]); rfl) | rfl))
    | (with_reducible apply z_b_R; (case h => first | with_unfolding_all rfl))
    | (with_reducible apply z_PU; (case he => repeat (with_reducible first | exact zv_l _ | exact zv_r | apply zv_add | apply zv_neg)); (case h => with_reducible first | exact zp_50_11 _))
    | (with_reducible apply z_S; (case he => repeat (with_reducible first | exact zv_l _ | exact zv_r | apply zv_add | apply zv_neg)); (case hg => repeat (with_reducible first | exact zv_l _ | exact zv_r | apply zv_add | apply zv_neg)); (case hn => with_reducible first | assumption | exact zl_2 | exact zl_9 | exact zl_51); (case h => omega))
    | (with_reducible apply z_7whose; (case e5 => repeat (with_reducible first | exact zv_l _ | exact zv_r | apply zv_add | apply zv_neg)); (case e6 => repeat (with_reducible first | exact zv_l _ | exact zv_r | apply zv_add | apply zv_neg)); (case r2 => first | omega | ((simp (disch := omega) only [zU_c, zU_e, zU_k, zF_c, zF_i, zF_o, zW_o, zW_i, zC_c, zC_i, zC_o]); omega)); (case r3 => first | omega | ((simp (disch := omega) only [zU_c, zU_e, zU_k, zF_c, zF_i, zF_o, zW_o, zW_i, zC_c, zC_i, zC_o]); omega)); (case a1 => assumption); (case a2 => assumption); (case a3 => assumption))
    | (with_reducible apply z_7next; (case a1 => assumption); (case r1 => first | omega | ((simp (disch := omega) only [zU_c, zU_e, zU_k, zF_c, zF_i, zF_o, zW_o, zW_i, zC_c, zC_i, zC_o]); omega)); (case a2 => assumption)))
      refine z_S (x := 3 + zTwh mc 1) (zv_add (zv_l 3) rfl) rfl zl_51 (by omega) ?_
      refine ⟨_, _, rfl, rfl, ?_, ?_, fun c j hc hcj => ?_⟩
      · exact zEq2_sta (g := zTwh mc 1) (x := zTnu mc 2 0 9) (zNn_E hE) hW (by omega)
      · rw [zU_c (by omega), zU_e]
      · rw [zU_c hc]
        exact zNn_fr hcj
/-- the game that is played: class and reference look for it alike -/
theorem zFoe_iff {o p f s : Int} (hn : ¬ o = p) (hf : ¬ f = s) (hs : 0 ≤ s) : ((if o = f then p else if p = f then o else -1) = s) ↔ ((o = f ∨ p = f) ∧ (o = s ∨ p = s)) := by
  split
  · omega
  · split <;> omega
set_option maxRecDepth 100000 in
set_option maxHeartbeats 1000000 in
theorem s7_isPlayed {mc M : zMe} {f s w : Int} {e : Int32} (he : e = zI (1 - w)) (hw : w = 0 ∨ w = 1) (hW : zWf mc 3) (hE : zEq2 mc M 3 51) (hf : 0 ≤ f ∧ f < mc 3 0) (hs : 0 ≤ s ∧ s < mc 3 0) (hfs : ¬ f = s) : zOk (f_X7_isPlayed 50 (zI f) (zI s) e (zM M)) (fun v m1 => (zNx mc 3 f s (mc 3 1).toNat = -1 ∧ v = zI (-3) ∧ m1 = M) ∨ (¬ zNx mc 3 f s (mc 3 1).toNat = -1 ∧ v = zI (zNx mc 3 f s (mc 3 1).toNat) ∧ m1 = zU M 51 (78 + zNx mc 3 f s (mc 3 1).toNat) (if w = 0 then 0 else if mc (3 + 4) (zNx mc 3 f s (mc 3 1).toNat) = f then 1 else 2))) := by
  subst he
  have hT6 := hW.1.1
  have hN9 := hW.1.2.1
  have e1 : M 51 1 = mc 3 1 := hE.1.2.1
  have hR := zRw_E hW hE
  unfold f_X7_isPlayed
  (first
    | (with_reducible apply z_nm; (case he => repeat (with_reducible first | exact zv_l _ | exact zv_r | apply zv_add | apply zv_sub | apply zv_neg)))
    | (with_reducible apply z_b_ck; (case h => with_unfolding_all rfl))
    | (with_reducible apply z_b_R; (case h => first | with_unfolding_all rfl))
    | (with_reducible apply z_L; (case he => repeat (with_reducible first | exact zv_l _ | exact zv_r | apply zv_add | apply zv_sub | apply zv_neg)); (case hn => with_reducible first | assumption | exact zl_2 | exact zl_4 | exact zl_5 | exact zl_6 | exact zl_7 | exact zl_51 | exact zl_60); (case h => omega); (case hy => first | ((simp (disch := omega) only [zU_c, zU_e, zU_k, zF_c, zF_i, zF_o, zW_o, zW_i, zC_c, zC_i, zC_o]); rfl) | rfl))
    | (with_reducible apply z_S; (case he => repeat (with_reducible first | exact zv_l _ | exact zv_r | apply zv_add | apply zv_sub | apply zv_neg)); (case hg => repeat (with_reducible first | exact zv_l _ | exact zv_r | apply zv_add | apply zv_sub | apply zv_neg)); (case hn => with_reducible first | assumption | exact zl_2 | exact zl_4 | exact zl_5 | exact zl_6 | exact zl_7 | exact zl_51 | exact zl_60); (case h => omega))
    | (with_reducible apply z_7isOf; (case e1 => repeat (with_reducible first | exact zv_l _ | exact zv_r | apply zv_add | apply zv_sub | apply zv_neg)); (case e2 => repeat (with_reducible first | exact zv_l _ | exact zv_r | apply zv_add | apply zv_sub | apply zv_neg)); (case r1 => first | omega | ((simp (disch := omega) only [zU_c, zU_e, zU_k, zF_c, zF_i, zF_o, zW_o, zW_i, zC_c, zC_i, zC_o]); omega)); (case r2 => first | omega | ((simp (disch := omega) only [zU_c, zU_e, zU_k, zF_c, zF_i, zF_o, zW_o, zW_i, zC_c, zC_i, zC_o]); omega)); (case r3 => first | omega | ((simp (disch := omega) only [zU_c, zU_e, zU_k, zF_c, zF_i, zF_o, zW_o, zW_i, zC_c, zC_i, zC_o]); omega)); (case r4 => first | omega | ((simp (disch := omega) only [zU_c, zU_e, zU_k, zF_c, zF_i, zF_o, zW_o, zW_i, zC_c, zC_i, zC_o]); omega))))
  generalize hPost : (fun (v : Int32) (m1 : zMe) => (zNx mc 3 f s (mc 3 1).toNat = -1 ∧ v = zI (-3) ∧ m1 = M) ∨ (¬ zNx mc 3 f s (mc 3 1).toNat = -1 ∧ v = zI (zNx mc 3 f s (mc 3 1).toNat) ∧ m1 = zU M 51 (78 + zNx mc 3 f s (mc 3 1).toNat) (if w = 0 then 0 else if mc (3 + 4) (zNx mc 3 f s (mc 3 1).toNat) = f then 1 else 2))) = Post
  refine z_lp (fun n v m1 => ∃ i : Nat, v = (50, zI f, zI s, zI (1 - w), zI (zNx mc 3 f s i), zI (i : Int)) ∧ (i : Int) ≤ mc 3 1 ∧ n = (mc 3 1 - i).toNat ∧ M = m1) (fun _ _ v m1 => Post v m1) ?_ 600 (mc 3 1).toNat _ _ (by omega) ⟨0, rfl, by omega, by omega, rfl⟩
  rintro n v m1 k ⟨i, rfl, h1, rfl, rfl⟩ hk
  have hx := zNx_range mc 3 f s i
  unfold f_X7_isPlayed_6
  dsimp only
  (first
    | (with_reducible apply z_nm; (case he => repeat (with_reducible first | exact zv_l _ | exact zv_r | apply zv_add | apply zv_sub | apply zv_neg)))
    | (with_reducible apply z_b_ck; (case h => with_unfolding_all rfl))
    | (with_reducible apply z_b_R; (case h => first | with_unfolding_all rfl))
    | (with_reducible apply z_L; (case he => repeat (with_reducible first | exact zv_l _ | exact zv_r | apply zv_add | apply zv_sub | apply zv_neg)); (case hn => with_reducible first | assumption | exact zl_2 | exact zl_4 | exact zl_5 | exact zl_6 | exact zl_7 | exact zl_51 | exact zl_60); (case h => omega); (case hy => first | ((simp (disch := omega) only [zU_c, zU_e, zU_k, zF_c, zF_i, zF_o, zW_o, zW_i, zC_c, zC_i, zC_o]); rfl) | rfl))
    | (with_reducible apply z_S; (case he => repeat (with_reducible first | exact zv_l _ | exact zv_r | apply zv_add | apply zv_sub | apply zv_neg)); (case hg => repeat (with_reducible first | exact zv_l _ | exact zv_r | apply zv_add | apply zv_sub | apply zv_neg)); (case hn => with_reducible first | assumption | exact zl_2 | exact zl_4 | exact zl_5 | exact zl_6 | exact zl_7 | exact zl_51 | exact zl_60); (case h => omega))
    | (with_reducible apply z_7isOf; (case e1 => repeat (with_reducible first | exact zv_l _ | exact zv_r | apply zv_add | apply zv_sub | apply zv_neg)); (case e2 => repeat (with_reducible first | exact zv_l _ | exact zv_r | apply zv_add | apply zv_sub | apply zv_neg)); (case r1 => first | omega | ((simp (disch := omega) only [zU_c, zU_e, zU_k, zF_c, zF_i, zF_o, zW_o, zW_i, zC_c, zC_i, zC_o]); omega)); (case r2 => first | omega | ((simp (disch := omega) only [zU_c, zU_e, zU_k, zF_c, zF_i, zF_o, zW_o, zW_i, zC_c, zC_i, zC_o]); omega)); (case r3 => first | omega | ((simp (disch := omega) only [zU_c, zU_e, zU_k, zF_c, zF_i, zF_o, zW_o, zW_i, zC_c, zC_i, zC_o]); omega)); (case r4 => first | omega | ((simp (disch := omega) only [zU_c, zU_e, zU_k, zF_c, zF_i, zF_o, zW_o, zW_i, zC_c, zC_i, zC_o]); omega))))
  refine z_L (x := 1) (y := mc 3 1) (zv_l 1) zl_51 (by omega) e1 ?_
  (first
    | (with_reducible apply z_B; all_goals (intro _; try (exfalso; omega)))
    | (with_reducible apply z_E; all_goals intro _)
    | (with_reducible apply z_lt; (case ha => repeat (with_reducible first | exact zv_l _ | exact zv_r | apply zv_add | apply zv_sub | apply zv_neg)); (case hb => repeat (with_reducible first | exact zv_l _ | exact zv_r | apply zv_add | apply zv_sub | apply zv_neg)); (case hx => omega); (case hy => omega); all_goals (intro _; try (exfalso; omega)))
    | (with_reducible apply z_le; (case ha => repeat (with_reducible first | exact zv_l _ | exact zv_r | apply zv_add | apply zv_sub | apply zv_neg)); (case hb => repeat (with_reducible first | exact zv_l _ | exact zv_r | apply zv_add | apply zv_sub | apply zv_neg)); (case hx => omega); (case hy => omega); all_goals (intro _; try (exfalso; omega)))
    | (with_reducible apply z_eq; (case ha => repeat (with_reducible first | exact zv_l _ | exact zv_r | apply zv_add | apply zv_sub | apply zv_neg)); (case hb => repeat (with_reducible first | exact zv_l _ | exact zv_r | apply zv_add | apply zv_sub | apply zv_neg)); (case hx => omega); (case hy => omega); all_goals (intro _; try (exfalso; omega))))
  · have ei : (mc 3 1).toNat = i := by omega
    rw [ei] at hPost
    subst hPost
    refine z_le (x := 0) (y := zNx mc 3 f s i) rfl rfl (by omega) (by omega) (fun h0 => ?_) (fun h0 => ?_)
    · obtain ⟨p1, p2, p3, p4⟩ := hE.2.2 (zNx mc 3 f s i) (by omega) (by omega)
      have hg := hW.2.2.1 (zNx mc 3 f s i) (by omega) (by omega)
      have hend : ∀ res : Int, res = (if w = 0 then 0 else if mc (3 + 4) (zNx mc 3 f s i) = f then 1 else 2) → zOk (f_X7_isPlayed_150 (zI (zNx mc 3 f s i)) (zI res) ((78 : Int32) + zI (zNx mc 3 f s i)) 51 (zM M)) (fun v m1 => (zNx mc 3 f s i = -1 ∧ v = zI (-3) ∧ m1 = M) ∨ (¬ zNx mc 3 f s i = -1 ∧ v = zI (zNx mc 3 f s i) ∧ m1 = zU M 51 (78 + zNx mc 3 f s i) (if w = 0 then 0 else if mc (3 + 4) (zNx mc 3 f s i) = f then 1 else 2))) := fun res hres => by
        unfold f_X7_isPlayed_150
        refine z_S (x := 78 + zNx mc 3 f s i) (y := res) (zv_add (zv_l 78) rfl) rfl zl_51 (by omega) ?_
        refine ⟨_, _, rfl, Or.inr ⟨by omega, rfl, by rw [hres]⟩⟩
      (first
    | (with_reducible apply z_nm; (case he => repeat (with_reducible first | exact zv_l _ | exact zv_r | apply zv_add | apply zv_sub | apply zv_neg)))
    | (with_reducible apply z_b_ck; (case h => with_unfolding_all rfl))
    | (with_reducible apply z_b_R; (case h => first | with_unfolding_all rfl))
    | (with_reducible apply z_L; (case he => repeat (with_reducible first | exact zv_l _ | exact zv_r | apply zv_add | apply zv_sub | apply zv_neg)); (case hn => with_reducible first | assumption | exact zl_2 | exact zl_4 | exact zl_5 | exact zl_6 | exact zl_7 | exact zl_51 | exact zl_60); (case h => omega); (case hy => first | ((simp (disch := omega) only [zU_c, zU_e, zU_k, zF_c, zF_i, zF_o, zW_o, zW_i, zC_c, zC_i, zC_o]); rfl) | rfl))
    | (with_reducible apply z_S; (case he => repeat (with_reducible first | exact zv_l _ | exact zv_r | apply zv_add | apply zv_sub | apply zv_neg)); (case hg => repeat (with_reducible first | exact zv_l _ | exact zv_r | apply zv_add | apply zv_sub | apply zv_neg)); (case hn => with_reducible first | assumption | exact zl_2 | exact zl_4 | exact zl_5 | exact zl_6 | exact zl_7 | exact zl_51 | exact zl_60); (case h => omega))
    | (with_reducible apply z_7isOf; (case e1 => repeat (with_reducible first | exact zv_l _ | exact zv_r | apply zv_add | apply zv_sub | apply zv_neg)); (case e2 => repeat (with_reducible first | exact zv_l _ | exact zv_r | apply zv_add | apply zv_sub | apply zv_neg)); (case r1 => first | omega | ((simp (disch := omega) only [zU_c, zU_e, zU_k, zF_c, zF_i, zF_o, zW_o, zW_i, zC_c, zC_i, zC_o]); omega)); (case r2 => first | omega | ((simp (disch := omega) only [zU_c, zU_e, zU_k, zF_c, zF_i, zF_o, zW_o, zW_i, zC_c, zC_i, zC_o]); omega)); (case r3 => first | omega | ((simp (disch := omega) only [zU_c, zU_e, zU_k, zF_c, zF_i, zF_o, zW_o, zW_i, zC_c, zC_i, zC_o]); omega)); (case r4 => first | omega | ((simp (disch := omega) only [zU_c, zU_e, zU_k, zF_c, zF_i, zF_o, zW_o, zW_i, zC_c, zC_i, zC_o]); omega))))
      refine z_eq (x := 1 - w) (y := 0) rfl rfl (by omega) (by omega) (fun hd => ?_) (fun hd => ?_)
      · (first
    | (with_reducible apply z_nm; (case he => repeat (with_reducible first | exact zv_l _ | exact zv_r | apply zv_add | apply zv_sub | apply zv_neg)))
    | (with_reducible apply z_b_ck; (case h => with_unfolding_all rfl))
    | (with_reducible apply z_b_R; (case h => first | with_unfolding_all rfl))
    | (with_reducible apply z_L; (case he => repeat (with_reducible first | exact zv_l _ | exact zv_r | apply zv_add | apply zv_sub | apply zv_neg)); (case hn => with_reducible first | assumption | exact zl_2 | exact zl_4 | exact zl_5 | exact zl_6 | exact zl_7 | exact zl_51 | exact zl_60); (case h => omega); (case hy => first | ((simp (disch := omega) only [zU_c, zU_e, zU_k, zF_c, zF_i, zF_o, zW_o, zW_i, zC_c, zC_i, zC_o]); rfl) | rfl))
    | (with_reducible apply z_S; (case he => repeat (with_reducible first | exact zv_l _ | exact zv_r | apply zv_add | apply zv_sub | apply zv_neg)); (case hg => repeat (with_reducible first | exact zv_l _ | exact zv_r | apply zv_add | apply zv_sub | apply zv_neg)); (case hn => with_reducible first | assumption | exact zl_2 | exact zl_4 | exact zl_5 | exact zl_6 | exact zl_7 | exact zl_51 | exact zl_60); (case h => omega))
    | (with_reducible apply z_7isOf; (case e1 => repeat (with_reducible first | exact zv_l _ | exact zv_r | apply zv_add | apply zv_sub | apply zv_neg)); (case e2 => repeat (with_reducible first | exact zv_l _ | exact zv_r | apply zv_add | apply zv_sub | apply zv_neg)); (case r1 => first | omega | ((simp (disch := omega) only [zU_c, zU_e, zU_k, zF_c, zF_i, zF_o, zW_o, zW_i, zC_c, zC_i, zC_o]); omega)); (case r2 => first | omega | ((simp (disch := omega) only [zU_c, zU_e, zU_k, zF_c, zF_i, zF_o, zW_o, zW_i, zC_c, zC_i, zC_o]); omega)); (case r3 => first | omega | ((simp (disch := omega) only [zU_c, zU_e, zU_k, zF_c, zF_i, zF_o, zW_o, zW_i, zC_c, zC_i, zC_o]); omega)); (case r4 => first | omega | ((simp (disch := omega) only [zU_c, zU_e, zU_k, zF_c, zF_i, zF_o, zW_o, zW_i, zC_c, zC_i, zC_o]); omega))))
        refine z_L (x := 51 + zNx mc 3 f s i) (y := mc (3 + 4) (zNx mc 3 f s i)) (zv_add (zv_l 51) rfl) zl_51 (by omega) p1 ?_
        refine z_eq (x := mc (3 + 4) (zNx mc 3 f s i)) (y := f) rfl rfl (by omega) (by omega) (fun ho => ?_) (fun ho => ?_)
        · exact hend 1 (by rw [if_neg (by omega), if_pos ho])
        · exact hend 2 (by rw [if_neg (by omega), if_neg ho])
      · exact hend 0 (by rw [if_pos (by omega)])
    · exact ⟨_, _, rfl, Or.inl ⟨by omega, rfl, rfl⟩⟩
  · obtain ⟨p1, p2, p3, p4⟩ := hE.2.2 (i : Int) (by omega) (by omega)
    have hg := hW.2.2.1 (i : Int) (by omega) (by omega)
    have hu : zNx mc 3 f s (i + 1) = if mc (3 + 7) (i : Int) = -1 ∧ (if mc (3 + 4) (i : Int) = f then mc (3 + 5) (i : Int) else if mc (3 + 5) (i : Int) = f then mc (3 + 4) (i : Int) else -1) = s ∧ (zNx mc 3 f s i = -1 ∨ mc (3 + 6) (i : Int) < mc (3 + 6) (zNx mc 3 f s i)) then (i : Int) else zNx mc 3 f s i := rfl
    have hfo := zFoe_iff (o := mc (3 + 4) (i : Int)) (p := mc (3 + 5) (i : Int)) hg.2.2.2.1 hfs hs.1
    have hu1 : mc (3 + 7) (i : Int) = -1 → (mc (3 + 4) (i : Int) = f ∨ mc (3 + 5) (i : Int) = f) → (mc (3 + 4) (i : Int) = s ∨ mc (3 + 5) (i : Int) = s) → (zNx mc 3 f s i = -1 ∨ mc (3 + 6) (i : Int) < mc (3 + 6) (zNx mc 3 f s i)) → (i : Int) = zNx mc 3 f s (i + 1) := fun q1 q2 q3 q4 => by rw [hu, if_pos ⟨q1, hfo.mpr ⟨q2, q3⟩, q4⟩]
    have hu0 : ¬ (mc (3 + 7) (i : Int) = -1 ∧ ((mc (3 + 4) (i : Int) = f ∨ mc (3 + 5) (i : Int) = f) ∧ (mc (3 + 4) (i : Int) = s ∨ mc (3 + 5) (i : Int) = s)) ∧ (zNx mc 3 f s i = -1 ∨ mc (3 + 6) (i : Int) < mc (3 + 6) (zNx mc 3 f s i))) → zNx mc 3 f s i = zNx mc 3 f s (i + 1) := fun q => by rw [hu, if_neg (fun w => q ⟨w.1, hfo.mp w.2.1, w.2.2⟩)]
    have hq : ∀ z, z = zNx mc 3 f s (i + 1) → zOk (k (50, zI f, zI s, zI (1 - w), zI z, zI ((i : Int) + 1)) (zM M)) (fun v m1 => Post v m1) := fun z hz => hk _ _ _ (by omega) ⟨i + 1, by rw [hz]; rfl, by omega, rfl, rfl⟩
    have h55 : ¬ (mc (3 + 7) (i : Int) = -1 ∧ (mc (3 + 4) (i : Int) = f ∨ mc (3 + 5) (i : Int) = f) ∧ (mc (3 + 4) (i : Int) = s ∨ mc (3 + 5) (i : Int) = s)) → zOk (f_X7_isPlayed_55 k 50 (zI f) (zI s) (zI (1 - w)) (zI (zNx mc 3 f s i)) (zI (i : Int)) (zM M)) (fun v m1 => Post v m1) := fun hn => by
      unfold f_X7_isPlayed_55 f_X7_isPlayed_56
      refine z_eq (x := 0) (y := 0) rfl rfl (by omega) (by omega) (fun _ => ?_) (fun q => absurd rfl q)
      repeat' (first
    | (with_reducible apply z_nm; (case he => repeat (with_reducible first | exact zv_l _ | exact zv_r | apply zv_add | apply zv_sub | apply zv_neg)))
    | (with_reducible apply z_b_ck; (case h => with_unfolding_all rfl))
    | (with_reducible apply z_b_R; (case h => first | with_unfolding_all rfl))
    | (with_reducible apply z_L; (case he => repeat (with_reducible first | exact zv_l _ | exact zv_r | apply zv_add | apply zv_sub | apply zv_neg)); (case hn => with_reducible first | assumption | exact zl_2 | exact zl_4 | exact zl_5 | exact zl_6 | exact zl_7 | exact zl_51 | exact zl_60); (case h => omega); (case hy => first | ((simp (disch := omega) only [zU_c, zU_e, zU_k, zF_c, zF_i, zF_o, zW_o, zW_i, zC_c, zC_i, zC_o]); rfl) | rfl))
    | (with_reducible apply z_S; (case he => repeat (with_reducible first | exact zv_l _ | exact zv_r | apply zv_add | apply zv_sub | apply zv_neg)); (case hg => repeat (with_reducible first | exact zv_l _ | exact zv_r | apply zv_add | apply zv_sub | apply zv_neg)); (case hn => with_reducible first | assumption | exact zl_2 | exact zl_4 | exact zl_5 | exact zl_6 | exact zl_7 | exact zl_51 | exact zl_60); (case h => omega))
    | (with_reducible apply z_7isOf; (case e1 => repeat (with_reducible first | exact zv_l _ | exact zv_r | apply zv_add | apply zv_sub | apply zv_neg)); (case e2 => repeat (with_reducible first | exact zv_l _ | exact zv_r | apply zv_add | apply zv_sub | apply zv_neg)); (case r1 => first | omega | ((simp (disch := omega) only [zU_c, zU_e, zU_k, zF_c, zF_i, zF_o, zW_o, zW_i, zC_c, zC_i, zC_o]); omega)); (case r2 => first | omega | ((simp (disch := omega) only [zU_c, zU_e, zU_k, zF_c, zF_i, zF_o, zW_o, zW_i, zC_c, zC_i, zC_o]); omega)); (case r3 => first | omega | ((simp (disch := omega) only [zU_c, zU_e, zU_k, zF_c, zF_i, zF_o, zW_o, zW_i, zC_c, zC_i, zC_o]); omega)); (case r4 => first | omega | ((simp (disch := omega) only [zU_c, zU_e, zU_k, zF_c, zF_i, zF_o, zW_o, zW_i, zC_c, zC_i, zC_o]); omega))))
      exact hq _ (hu0 (fun q => hn ⟨q.1, q.2.1⟩))
    have e51 : M 51 (51 + (i : Int)) = mc (3 + 4) (i : Int) := p1
    have e60 : M 51 (60 + (i : Int)) = mc (3 + 5) (i : Int) := p2
    (first
    | (with_reducible apply z_nm; (case he => repeat (with_reducible first | exact zv_l _ | exact zv_r | apply zv_add | apply zv_sub | apply zv_neg)))
    | (with_reducible apply z_b_ck; (case h => with_unfolding_all rfl))
    | (with_reducible apply z_b_R; (case h => first | with_unfolding_all rfl))
    | (with_reducible apply z_L; (case he => repeat (with_reducible first | exact zv_l _ | exact zv_r | apply zv_add | apply zv_sub | apply zv_neg)); (case hn => with_reducible first | assumption | exact zl_2 | exact zl_4 | exact zl_5 | exact zl_6 | exact zl_7 | exact zl_51 | exact zl_60); (case h => omega); (case hy => first | ((simp (disch := omega) only [zU_c, zU_e, zU_k, zF_c, zF_i, zF_o, zW_o, zW_i, zC_c, zC_i, zC_o]); rfl) | rfl))
    | (with_reducible apply z_S; (case he => repeat (with_reducible first | exact zv_l _ | exact zv_r | apply zv_add | apply zv_sub | apply zv_neg)); (case hg => repeat (with_reducible first | exact zv_l _ | exact zv_r | apply zv_add | apply zv_sub | apply zv_neg)); (case hn => with_reducible first | assumption | exact zl_2 | exact zl_4 | exact zl_5 | exact zl_6 | exact zl_7 | exact zl_51 | exact zl_60); (case h => omega))
    | (with_reducible apply z_7isOf; (case e1 => repeat (with_reducible first | exact zv_l _ | exact zv_r | apply zv_add | apply zv_sub | apply zv_neg)); (case e2 => repeat (with_reducible first | exact zv_l _ | exact zv_r | apply zv_add | apply zv_sub | apply zv_neg)); (case r1 => first | omega | ((simp (disch := omega) only [zU_c, zU_e, zU_k, zF_c, zF_i, zF_o, zW_o, zW_i, zC_c, zC_i, zC_o]); omega)); (case r2 => first | omega | ((simp (disch := omega) only [zU_c, zU_e, zU_k, zF_c, zF_i, zF_o, zW_o, zW_i, zC_c, zC_i, zC_o]); omega)); (case r3 => first | omega | ((simp (disch := omega) only [zU_c, zU_e, zU_k, zF_c, zF_i, zF_o, zW_o, zW_i, zC_c, zC_i, zC_o]); omega)); (case r4 => first | omega | ((simp (disch := omega) only [zU_c, zU_e, zU_k, zF_c, zF_i, zF_o, zW_o, zW_i, zC_c, zC_i, zC_o]); omega))))
    refine z_L (x := 78 + (i : Int)) (y := mc (3 + 7) (i : Int)) (zv_add (zv_l 78) rfl) zl_51 (by omega) p4 ?_
    refine z_eq (x := mc (3 + 7) (i : Int)) (y := -1) rfl rfl (by omega) (by omega) (fun hl => ?_) (fun hl => ?_)
    · refine z_7isOf rfl rfl (by omega) (by omega) (by omega) (by omega) ?_
      rw [e51, e60]
      refine z_B (fun h => h55 (fun q => h q.2.1)) (fun h => ?_)
      refine z_7isOf rfl rfl (by omega) (by omega) (by omega) (by omega) ?_
      rw [e51, e60]
      refine z_B (fun h2 => h55 (fun q => h2 q.2.2)) (fun h2 => ?_)
      have h91 : (zNx mc 3 f s i = -1 ∨ mc (3 + 6) (i : Int) < mc (3 + 6) (zNx mc 3 f s i)) → zOk (f_X7_isPlayed_91 k 50 (zI f) (zI s) (zI (1 - w)) (zI (i : Int)) (zM M)) (fun v m1 => Post v m1) := fun hc => by
        unfold f_X7_isPlayed_91
        repeat' (first
    | (with_reducible apply z_nm; (case he => repeat (with_reducible first | exact zv_l _ | exact zv_r | apply zv_add | apply zv_sub | apply zv_neg)))
    | (with_reducible apply z_b_ck; (case h => with_unfolding_all rfl))
    | (with_reducible apply z_b_R; (case h => first | with_unfolding_all rfl))
    | (with_reducible apply z_L; (case he => repeat (with_reducible first | exact zv_l _ | exact zv_r | apply zv_add | apply zv_sub | apply zv_neg)); (case hn => with_reducible first | assumption | exact zl_2 | exact zl_4 | exact zl_5 | exact zl_6 | exact zl_7 | exact zl_51 | exact zl_60); (case h => omega); (case hy => first | ((simp (disch := omega) only [zU_c, zU_e, zU_k, zF_c, zF_i, zF_o, zW_o, zW_i, zC_c, zC_i, zC_o]); rfl) | rfl))
    | (with_reducible apply z_S; (case he => repeat (with_reducible first | exact zv_l _ | exact zv_r | apply zv_add | apply zv_sub | apply zv_neg)); (case hg => repeat (with_reducible first | exact zv_l _ | exact zv_r | apply zv_add | apply zv_sub | apply zv_neg)); (case hn => with_reducible first | assumption | exact zl_2 | exact zl_4 | exact zl_5 | exact zl_6 | exact zl_7 | exact zl_51 | exact zl_60); (case h => omega))
    | (with_reducible apply z_7isOf; (case e1 => repeat (with_reducible first | exact zv_l _ | exact zv_r | apply zv_add | apply zv_sub | apply zv_neg)); (case e2 => repeat (with_reducible first | exact zv_l _ | exact zv_r | apply zv_add | apply zv_sub | apply zv_neg)); (case r1 => first | omega | ((simp (disch := omega) only [zU_c, zU_e, zU_k, zF_c, zF_i, zF_o, zW_o, zW_i, zC_c, zC_i, zC_o]); omega)); (case r2 => first | omega | ((simp (disch := omega) only [zU_c, zU_e, zU_k, zF_c, zF_i, zF_o, zW_o, zW_i, zC_c, zC_i, zC_o]); omega)); (case r3 => first | omega | ((simp (disch := omega) only [zU_c, zU_e, zU_k, zF_c, zF_i, zF_o, zW_o, zW_i, zC_c, zC_i, zC_o]); omega)); (case r4 => first | omega | ((simp (disch := omega) only [zU_c, zU_e, zU_k, zF_c, zF_i, zF_o, zW_o, zW_i, zC_c, zC_i, zC_o]); omega))))
        exact hq _ (hu1 hl h h2 hc)
      unfold f_X7_isPlayed_56
      refine z_eq (x := 1) (y := 0) rfl rfl (by omega) (by omega) (fun q => by exfalso; omega) (fun _ => ?_)
      refine z_lt (x := zNx mc 3 f s i) (y := 0) rfl rfl (by omega) (by omega) (fun hb => ?_) (fun hb => ?_)
      · exact h91 (Or.inl (by omega))
      · obtain ⟨b1, b2, b3, b4⟩ := hE.2.2 (zNx mc 3 f s i) (by omega) (by omega)
        have hg2 := hW.2.2.1 (zNx mc 3 f s i) (by omega) (by omega)
        (first
    | (with_reducible apply z_nm; (case he => repeat (with_reducible first | exact zv_l _ | exact zv_r | apply zv_add | apply zv_sub | apply zv_neg)))
    | (with_reducible apply z_b_ck; (case h => with_unfolding_all rfl))
    | (with_reducible apply z_b_R; (case h => first | with_unfolding_all rfl))
    | (with_reducible apply z_L; (case he => repeat (with_reducible first | exact zv_l _ | exact zv_r | apply zv_add | apply zv_sub | apply zv_neg)); (case hn => with_reducible first | assumption | exact zl_2 | exact zl_4 | exact zl_5 | exact zl_6 | exact zl_7 | exact zl_51 | exact zl_60); (case h => omega); (case hy => first | ((simp (disch := omega) only [zU_c, zU_e, zU_k, zF_c, zF_i, zF_o, zW_o, zW_i, zC_c, zC_i, zC_o]); rfl) | rfl))
    | (with_reducible apply z_S; (case he => repeat (with_reducible first | exact zv_l _ | exact zv_r | apply zv_add | apply zv_sub | apply zv_neg)); (case hg => repeat (with_reducible first | exact zv_l _ | exact zv_r | apply zv_add | apply zv_sub | apply zv_neg)); (case hn => with_reducible first | assumption | exact zl_2 | exact zl_4 | exact zl_5 | exact zl_6 | exact zl_7 | exact zl_51 | exact zl_60); (case h => omega))
    | (with_reducible apply z_7isOf; (case e1 => repeat (with_reducible first | exact zv_l _ | exact zv_r | apply zv_add | apply zv_sub | apply zv_neg)); (case e2 => repeat (with_reducible first | exact zv_l _ | exact zv_r | apply zv_add | apply zv_sub | apply zv_neg)); (case r1 => first | omega | ((simp (disch := omega) only [zU_c, zU_e, zU_k, zF_c, zF_i, zF_o, zW_o, zW_i, zC_c, zC_i, zC_o]); omega)); (case r2 => first | omega | ((simp (disch := omega) only [zU_c, zU_e, zU_k, zF_c, zF_i, zF_o, zW_o, zW_i, zC_c, zC_i, zC_o]); omega)); (case r3 => first | omega | ((simp (disch := omega) only [zU_c, zU_e, zU_k, zF_c, zF_i, zF_o, zW_o, zW_i, zC_c, zC_i, zC_o]); omega)); (case r4 => first | omega | ((simp (disch := omega) only [zU_c, zU_e, zU_k, zF_c, zF_i, zF_o, zW_o, zW_i, zC_c, zC_i, zC_o]); omega))))
        refine z_L (x := 69 + (i : Int)) (y := mc (3 + 6) (i : Int)) (zv_add (zv_l 69) rfl) zl_51 (by omega) p3 ?_
        (first
    | (with_reducible apply z_nm; (case he => repeat (with_reducible first | exact zv_l _ | exact zv_r | apply zv_add | apply zv_sub | apply zv_neg)))
    | (with_reducible apply z_b_ck; (case h => with_unfolding_all rfl))
    | (with_reducible apply z_b_R; (case h => first | with_unfolding_all rfl))
    | (with_reducible apply z_L; (case he => repeat (with_reducible first | exact zv_l _ | exact zv_r | apply zv_add | apply zv_sub | apply zv_neg)); (case hn => with_reducible first | assumption | exact zl_2 | exact zl_4 | exact zl_5 | exact zl_6 | exact zl_7 | exact zl_51 | exact zl_60); (case h => omega); (case hy => first | ((simp (disch := omega) only [zU_c, zU_e, zU_k, zF_c, zF_i, zF_o, zW_o, zW_i, zC_c, zC_i, zC_o]); rfl) | rfl))
    | (with_reducible apply z_S; (case he => repeat (with_reducible first | exact zv_l _ | exact zv_r | apply zv_add | apply zv_sub | apply zv_neg)); (case hg => repeat (with_reducible first | exact zv_l _ | exact zv_r | apply zv_add | apply zv_sub | apply zv_neg)); (case hn => with_reducible first | assumption | exact zl_2 | exact zl_4 | exact zl_5 | exact zl_6 | exact zl_7 | exact zl_51 | exact zl_60); (case h => omega))
    | (with_reducible apply z_7isOf; (case e1 => repeat (with_reducible first | exact zv_l _ | exact zv_r | apply zv_add | apply zv_sub | apply zv_neg)); (case e2 => repeat (with_reducible first | exact zv_l _ | exact zv_r | apply zv_add | apply zv_sub | apply zv_neg)); (case r1 => first | omega | ((simp (disch := omega) only [zU_c, zU_e, zU_k, zF_c, zF_i, zF_o, zW_o, zW_i, zC_c, zC_i, zC_o]); omega)); (case r2 => first | omega | ((simp (disch := omega) only [zU_c, zU_e, zU_k, zF_c, zF_i, zF_o, zW_o, zW_i, zC_c, zC_i, zC_o]); omega)); (case r3 => first | omega | ((simp (disch := omega) only [zU_c, zU_e, zU_k, zF_c, zF_i, zF_o, zW_o, zW_i, zC_c, zC_i, zC_o]); omega)); (case r4 => first | omega | ((simp (disch := omega) only [zU_c, zU_e, zU_k, zF_c, zF_i, zF_o, zW_o, zW_i, zC_c, zC_i, zC_o]); omega))))
        refine z_L (x := 69 + zNx mc 3 f s i) (y := mc (3 + 6) (zNx mc 3 f s i)) (zv_add (zv_l 69) rfl) zl_51 (by omega) b3 ?_
        refine z_le (x := mc (3 + 6) (zNx mc 3 f s i)) (y := mc (3 + 6) (i : Int)) rfl rfl (by omega) (by omega) (fun hd => ?_) (fun hd => ?_)
        · repeat' (first
    | (with_reducible apply z_nm; (case he => repeat (with_reducible first | exact zv_l _ | exact zv_r | apply zv_add | apply zv_sub | apply zv_neg)))
    | (with_reducible apply z_b_ck; (case h => with_unfolding_all rfl))
    | (with_reducible apply z_b_R; (case h => first | with_unfolding_all rfl))
    | (with_reducible apply z_L; (case he => repeat (with_reducible first | exact zv_l _ | exact zv_r | apply zv_add | apply zv_sub | apply zv_neg)); (case hn => with_reducible first | assumption | exact zl_2 | exact zl_4 | exact zl_5 | exact zl_6 | exact zl_7 | exact zl_51 | exact zl_60); (case h => omega); (case hy => first | ((simp (disch := omega) only [zU_c, zU_e, zU_k, zF_c, zF_i, zF_o, zW_o, zW_i, zC_c, zC_i, zC_o]); rfl) | rfl))
    | (with_reducible apply z_S; (case he => repeat (with_reducible first | exact zv_l _ | exact zv_r | apply zv_add | apply zv_sub | apply zv_neg)); (case hg => repeat (with_reducible first | exact zv_l _ | exact zv_r | apply zv_add | apply zv_sub | apply zv_neg)); (case hn => with_reducible first | assumption | exact zl_2 | exact zl_4 | exact zl_5 | exact zl_6 | exact zl_7 | exact zl_51 | exact zl_60); (case h => omega))
    | (with_reducible apply z_7isOf; (case e1 => repeat (with_reducible first | exact zv_l _ | exact zv_r | apply zv_add | apply zv_sub | apply zv_neg)); (case e2 => repeat (with_reducible first | exact zv_l _ | exact zv_r | apply zv_add | apply zv_sub | apply zv_neg)); (case r1 => first | omega | ((simp (disch := omega) only [zU_c, zU_e, zU_k, zF_c, zF_i, zF_o, zW_o, zW_i, zC_c, zC_i, zC_o]); omega)); (case r2 => first | omega | ((simp (disch := omega) only [zU_c, zU_e, zU_k, zF_c, zF_i, zF_o, zW_o, zW_i, zC_c, zC_i, zC_o]); omega)); (case r3 => first | omega | ((simp (disch := omega) only [zU_c, zU_e, zU_k, zF_c, zF_i, zF_o, zW_o, zW_i, zC_c, zC_i, zC_o]); omega)); (case r4 => first | omega | ((simp (disch := omega) only [zU_c, zU_e, zU_k, zF_c, zF_i, zF_o, zW_o, zW_i, zC_c, zC_i, zC_o]); omega))))
          exact hq _ (hu0 (fun q => by have := q.2.2; omega))
        · exact h91 (Or.inr (by omega))
    · exact h55 (fun q => hl q.1)
