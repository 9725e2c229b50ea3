/-! tables of the class, exact -/
theorem zLa_len (m : zMe) (r n : Nat) : (zLa m r n).length = zPn n (fun k => decide (m (r + 7) (k : Int) = -1)) := by
  have h : (((zLa m r n).length : Nat) : Int) = zSm n (fun k => if decide (m (r + 7) (k : Int) = -1) = true then 1 else 0) := by
    induction n with
    | zero => rfl
    | succ n ih =>
      have eL : zLa m r (n + 1) = if m (r + 7) (n : Int) = -1 then zLa m r n ++ [n] else zLa m r n := rfl
      have eS : zSm (n + 1) (fun k => if decide (m (r + 7) (k : Int) = -1) = true then (1 : Int) else 0) = zSm n (fun k => if decide (m (r + 7) (k : Int) = -1) = true then (1 : Int) else 0) + (if decide (m (r + 7) (n : Int) = -1) = true then (1 : Int) else 0) := rfl
      rw [eL, eS, ← ih]
      by_cases hq : m (r + 7) (n : Int) = -1
      · rw [if_pos hq, if_pos (decide_eq_true hq), List.length_append]
        simp
      · rw [if_neg hq, if_neg (fun w => hq (of_decide_eq_true w))]
        omega
  have e := zPn_Sm n (fun k => decide (m (r + 7) (k : Int) = -1))
  omega
theorem zLa_pop {m : zMe} {r : Nat} (hN : 0 ≤ m r 1 ∧ m r 1 ≤ 9) : (zLa m r (m r 1).toNat).length = zPop (zLeft m r) := by
  unfold zLeft
  rw [zPop_Bn (by omega), zLa_len]
set_option maxRecDepth 100000 in
set_option maxHeartbeats 1000000 in
theorem s5_openE {m : zMe} (a1 : zWf m 3) : zOk (f_X5_open 36 3 (zM m)) (fun (_ : Unit) m1 => ∃ w, m1 = zW m 36 38 w ∧ w 36 3 = ((zLa m 3 (m 3 1).toNat).length : Int) ∧ w 36 4 = 0 ∧ (∀ j : Nat, j < (zLa m 3 (m 3 1).toNat).length → w 38 (j : Int) = (((zLa m 3 (m 3 1).toNat).getD j 0 : Nat) : Int)) ∧ ∀ u, 0 ≤ u → u < 6 → w 37 u = zPt m 3 u) := by
  have hT := a1.1.1
  have hN := a1.1.2.1
  have hK := a1.1.2.2
  unfold f_X5_open
  (first
    | (with_reducible apply z_nm; (case he => repeat (with_reducible first | exact zv_l _ | exact zv_r | apply zv_add | apply zv_sub | apply zv_neg)))
    | (with_reducible apply z_b_ck; (case h => with_unfolding_all rfl))
    | (with_reducible apply z_I; (case h => first | exact zg_I1 (by assumption) | with_unfolding_all rfl); (case hy => first | ((simp (disch := omega) only [zU_c, zU_e, zU_k, zF_c, zF_i, zF_o, zW_o, zW_i, zC_c, zC_i, zC_o]); rfl) | rfl))
    | (with_reducible apply z_b_R; (case h => first | with_unfolding_all rfl))
    | (with_reducible apply z_PU; (case he => repeat (with_reducible first | exact zv_l _ | exact zv_r | apply zv_add | apply zv_sub | apply zv_neg)); (case h => with_reducible first | exact zp_36_3 _ | exact zp_36_4 _))
    | (with_reducible apply z_S; (case he => repeat (with_reducible first | exact zv_l _ | exact zv_r | apply zv_add | apply zv_sub | apply zv_neg)); (case hg => repeat (with_reducible first | exact zv_l _ | exact zv_r | apply zv_add | apply zv_sub | apply zv_neg)); (case hn => with_reducible first | assumption | exact zl_2 | exact zl_4 | exact zl_5 | exact zl_6 | exact zl_7 | exact zl_8 | exact zl_9 | exact zl_10 | exact zl_37 | exact zl_38); (case h => omega))
    | (with_reducible apply z_0isLeft; (case a1 => assumption); (case e1 => repeat (with_reducible first | exact zv_l _ | exact zv_r | apply zv_add | apply zv_sub | apply zv_neg)); (case r1 => first | omega | ((simp (disch := omega) only [zU_c, zU_e, zU_k, zF_c, zF_i, zF_o, zW_o, zW_i, zC_c, zC_i, zC_o]); omega)); (case r2 => first | omega | ((simp (disch := omega) only [zU_c, zU_e, zU_k, zF_c, zF_i, zF_o, zW_o, zW_i, zC_c, zC_i, zC_o]); omega)))
    | (with_reducible apply z_0pointsInto; (case a1 => assumption); (case a2 => assumption); (case r7 => first | omega | ((simp (disch := omega) only [zU_c, zU_e, zU_k, zF_c, zF_i, zF_o, zW_o, zW_i, zC_c, zC_i, zC_o]); omega)); (case r3 => first | omega | ((simp (disch := omega) only [zU_c, zU_e, zU_k, zF_c, zF_i, zF_o, zW_o, zW_i, zC_c, zC_i, zC_o]); omega)); (case r1 => first | omega | ((simp (disch := omega) only [zU_c, zU_e, zU_k, zF_c, zF_i, zF_o, zW_o, zW_i, zC_c, zC_i, zC_o]); omega)); (case r2 => first | omega | ((simp (disch := omega) only [zU_c, zU_e, zU_k, zF_c, zF_i, zF_o, zW_o, zW_i, zC_c, zC_i, zC_o]); omega)); (case a3 => assumption))
    | (with_reducible apply z_5open; (case a1 => assumption); intro _ _ _))
  (first
    | (with_reducible apply z_nm; (case he => repeat (with_reducible first | exact zv_l _ | exact zv_r | apply zv_add | apply zv_sub | apply zv_neg)))
    | (with_reducible apply z_b_ck; (case h => with_unfolding_all rfl))
    | (with_reducible apply z_I; (case h => first | exact zg_I1 (by assumption) | with_unfolding_all rfl); (case hy => first | ((simp (disch := omega) only [zU_c, zU_e, zU_k, zF_c, zF_i, zF_o, zW_o, zW_i, zC_c, zC_i, zC_o]); rfl) | rfl))
    | (with_reducible apply z_b_R; (case h => first | with_unfolding_all rfl))
    | (with_reducible apply z_PU; (case he => repeat (with_reducible first | exact zv_l _ | exact zv_r | apply zv_add | apply zv_sub | apply zv_neg)); (case h => with_reducible first | exact zp_36_3 _ | exact zp_36_4 _))
    | (with_reducible apply z_S; (case he => repeat (with_reducible first | exact zv_l _ | exact zv_r | apply zv_add | apply zv_sub | apply zv_neg)); (case hg => repeat (with_reducible first | exact zv_l _ | exact zv_r | apply zv_add | apply zv_sub | apply zv_neg)); (case hn => with_reducible first | assumption | exact zl_2 | exact zl_4 | exact zl_5 | exact zl_6 | exact zl_7 | exact zl_8 | exact zl_9 | exact zl_10 | exact zl_37 | exact zl_38); (case h => omega))
    | (with_reducible apply z_0isLeft; (case a1 => assumption); (case e1 => repeat (with_reducible first | exact zv_l _ | exact zv_r | apply zv_add | apply zv_sub | apply zv_neg)); (case r1 => first | omega | ((simp (disch := omega) only [zU_c, zU_e, zU_k, zF_c, zF_i, zF_o, zW_o, zW_i, zC_c, zC_i, zC_o]); omega)); (case r2 => first | omega | ((simp (disch := omega) only [zU_c, zU_e, zU_k, zF_c, zF_i, zF_o, zW_o, zW_i, zC_c, zC_i, zC_o]); omega)))
    | (with_reducible apply z_0pointsInto; (case a1 => assumption); (case a2 => assumption); (case r7 => first | omega | ((simp (disch := omega) only [zU_c, zU_e, zU_k, zF_c, zF_i, zF_o, zW_o, zW_i, zC_c, zC_i, zC_o]); omega)); (case r3 => first | omega | ((simp (disch := omega) only [zU_c, zU_e, zU_k, zF_c, zF_i, zF_o, zW_o, zW_i, zC_c, zC_i, zC_o]); omega)); (case r1 => first | omega | ((simp (disch := omega) only [zU_c, zU_e, zU_k, zF_c, zF_i, zF_o, zW_o, zW_i, zC_c, zC_i, zC_o]); omega)); (case r2 => first | omega | ((simp (disch := omega) only [zU_c, zU_e, zU_k, zF_c, zF_i, zF_o, zW_o, zW_i, zC_c, zC_i, zC_o]); omega)); (case a3 => assumption))
    | (with_reducible apply z_5open; (case a1 => assumption); intro _ _ _))
  refine z_0pointsInto (r := 3) (Or.inl rfl) zl_37 (by omega) hT hN hK (zWf_g a1) ?_
  (first
    | (with_reducible apply z_nm; (case he => repeat (with_reducible first | exact zv_l _ | exact zv_r | apply zv_add | apply zv_sub | apply zv_neg)))
    | (with_reducible apply z_b_ck; (case h => with_unfolding_all rfl))
    | (with_reducible apply z_I; (case h => first | exact zg_I1 (by assumption) | with_unfolding_all rfl); (case hy => first | ((simp (disch := omega) only [zU_c, zU_e, zU_k, zF_c, zF_i, zF_o, zW_o, zW_i, zC_c, zC_i, zC_o]); rfl) | rfl))
    | (with_reducible apply z_b_R; (case h => first | with_unfolding_all rfl))
    | (with_reducible apply z_PU; (case he => repeat (with_reducible first | exact zv_l _ | exact zv_r | apply zv_add | apply zv_sub | apply zv_neg)); (case h => with_reducible first | exact zp_36_3 _ | exact zp_36_4 _))
    | (with_reducible apply z_S; (case he => repeat (with_reducible first | exact zv_l _ | exact zv_r | apply zv_add | apply zv_sub | apply zv_neg)); (case hg => repeat (with_reducible first | exact zv_l _ | exact zv_r | apply zv_add | apply zv_sub | apply zv_neg)); (case hn => with_reducible first | assumption | exact zl_2 | exact zl_4 | exact zl_5 | exact zl_6 | exact zl_7 | exact zl_8 | exact zl_9 | exact zl_10 | exact zl_37 | exact zl_38); (case h => omega))
    | (with_reducible apply z_0isLeft; (case a1 => assumption); (case e1 => repeat (with_reducible first | exact zv_l _ | exact zv_r | apply zv_add | apply zv_sub | apply zv_neg)); (case r1 => first | omega | ((simp (disch := omega) only [zU_c, zU_e, zU_k, zF_c, zF_i, zF_o, zW_o, zW_i, zC_c, zC_i, zC_o]); omega)); (case r2 => first | omega | ((simp (disch := omega) only [zU_c, zU_e, zU_k, zF_c, zF_i, zF_o, zW_o, zW_i, zC_c, zC_i, zC_o]); omega)))
    | (with_reducible apply z_0pointsInto; (case a1 => assumption); (case a2 => assumption); (case r7 => first | omega | ((simp (disch := omega) only [zU_c, zU_e, zU_k, zF_c, zF_i, zF_o, zW_o, zW_i, zC_c, zC_i, zC_o]); omega)); (case r3 => first | omega | ((simp (disch := omega) only [zU_c, zU_e, zU_k, zF_c, zF_i, zF_o, zW_o, zW_i, zC_c, zC_i, zC_o]); omega)); (case r1 => first | omega | ((simp (disch := omega) only [zU_c, zU_e, zU_k, zF_c, zF_i, zF_o, zW_o, zW_i, zC_c, zC_i, zC_o]); omega)); (case r2 => first | omega | ((simp (disch := omega) only [zU_c, zU_e, zU_k, zF_c, zF_i, zF_o, zW_o, zW_i, zC_c, zC_i, zC_o]); omega)); (case a3 => assumption))
    | (with_reducible apply z_5open; (case a1 => assumption); intro _ _ _))
  (first
    | (with_reducible apply z_nm; (case he => repeat (with_reducible first | exact zv_l _ | exact zv_r | apply zv_add | apply zv_sub | apply zv_neg)))
    | (with_reducible apply z_b_ck; (case h => with_unfolding_all rfl))
    | (with_reducible apply z_I; (case h => first | exact zg_I1 (by assumption) | with_unfolding_all rfl); (case hy => first | ((simp (disch := omega) only [zU_c, zU_e, zU_k, zF_c, zF_i, zF_o, zW_o, zW_i, zC_c, zC_i, zC_o]); rfl) | rfl))
    | (with_reducible apply z_b_R; (case h => first | with_unfolding_all rfl))
    | (with_reducible apply z_PU; (case he => repeat (with_reducible first | exact zv_l _ | exact zv_r | apply zv_add | apply zv_sub | apply zv_neg)); (case h => with_reducible first | exact zp_36_3 _ | exact zp_36_4 _))
    | (with_reducible apply z_S; (case he => repeat (with_reducible first | exact zv_l _ | exact zv_r | apply zv_add | apply zv_sub | apply zv_neg)); (case hg => repeat (with_reducible first | exact zv_l _ | exact zv_r | apply zv_add | apply zv_sub | apply zv_neg)); (case hn => with_reducible first | assumption | exact zl_2 | exact zl_4 | exact zl_5 | exact zl_6 | exact zl_7 | exact zl_8 | exact zl_9 | exact zl_10 | exact zl_37 | exact zl_38); (case h => omega))
    | (with_reducible apply z_0isLeft; (case a1 => assumption); (case e1 => repeat (with_reducible first | exact zv_l _ | exact zv_r | apply zv_add | apply zv_sub | apply zv_neg)); (case r1 => first | omega | ((simp (disch := omega) only [zU_c, zU_e, zU_k, zF_c, zF_i, zF_o, zW_o, zW_i, zC_c, zC_i, zC_o]); omega)); (case r2 => first | omega | ((simp (disch := omega) only [zU_c, zU_e, zU_k, zF_c, zF_i, zF_o, zW_o, zW_i, zC_c, zC_i, zC_o]); omega)))
    | (with_reducible apply z_0pointsInto; (case a1 => assumption); (case a2 => assumption); (case r7 => first | omega | ((simp (disch := omega) only [zU_c, zU_e, zU_k, zF_c, zF_i, zF_o, zW_o, zW_i, zC_c, zC_i, zC_o]); omega)); (case r3 => first | omega | ((simp (disch := omega) only [zU_c, zU_e, zU_k, zF_c, zF_i, zF_o, zW_o, zW_i, zC_c, zC_i, zC_o]); omega)); (case r1 => first | omega | ((simp (disch := omega) only [zU_c, zU_e, zU_k, zF_c, zF_i, zF_o, zW_o, zW_i, zC_c, zC_i, zC_o]); omega)); (case r2 => first | omega | ((simp (disch := omega) only [zU_c, zU_e, zU_k, zF_c, zF_i, zF_o, zW_o, zW_i, zC_c, zC_i, zC_o]); omega)); (case a3 => assumption))
    | (with_reducible apply z_5open; (case a1 => assumption); intro _ _ _))
  have hM : zU (zU (zF m 37 0 6 (zPt m 3)) 36 4 0) 36 3 0 = zW m 36 38 (zU (zU (zF m 37 0 6 (zPt m 3)) 36 4 0) 36 3 0) := zW_self (fun c j hc => by rw [zU_c (by omega), zU_c (by omega), zF_c (by omega)])
  rw [hM]
  refine z_lp (fun n v m1 => ∃ (i : Nat) (w : zMe), v = (36, 3, zI (i : Int)) ∧ (i : Int) ≤ m 3 1 ∧ n = (m 3 1 - i).toNat ∧ m1 = zW m 36 38 w ∧ w 36 3 = ((zLa m 3 i).length : Int) ∧ w 36 4 = 0 ∧ (∀ j : Nat, j < (zLa m 3 i).length → w 38 (j : Int) = (((zLa m 3 i).getD j 0 : Nat) : Int)) ∧ ∀ u, 0 ≤ u → u < 6 → w 37 u = zPt m 3 u) (fun _ _ _ m1 => ∃ w, m1 = zW m 36 38 w ∧ w 36 3 = ((zLa m 3 (m 3 1).toNat).length : Int) ∧ w 36 4 = 0 ∧ (∀ j : Nat, j < (zLa m 3 (m 3 1).toNat).length → w 38 (j : Int) = (((zLa m 3 (m 3 1).toNat).getD j 0 : Nat) : Int)) ∧ ∀ u, 0 ≤ u → u < 6 → w 37 u = zPt m 3 u) ?_ 600 (m 3 1).toNat _ _ (by omega) ⟨0, _, rfl, by omega, by omega, rfl, by rw [zU_e]; rfl, by rw [zU_k (by omega), zU_e], fun j hj => absurd hj (by simp [zLa]), fun u u0 u1 => by rw [zU_c (by omega), zU_c (by omega), zF_i (by omega), Int.sub_zero]⟩
  rintro n v m1 k ⟨i, w, rfl, h1, rfl, rfl, w1, w2, w3, w4⟩ hk
  have hg := zWf_g a1 (i : Int) (by omega)
  have hln := zLa_len m 3 i
  have hpn := zPn_le i (fun k => decide (m (3 + 7) (k : Int) = -1))
  unfold f_X5_open_20
  dsimp only
  (first
    | (with_reducible apply z_nm; (case he => repeat (with_reducible first | exact zv_l _ | exact zv_r | apply zv_add | apply zv_sub | apply zv_neg)))
    | (with_reducible apply z_b_ck; (case h => with_unfolding_all rfl))
    | (with_reducible apply z_I; (case h => first | exact zg_I1 (by assumption) | with_unfolding_all rfl); (case hy => first | ((simp (disch := omega) only [zU_c, zU_e, zU_k, zF_c, zF_i, zF_o, zW_o, zW_i, zC_c, zC_i, zC_o]); rfl) | rfl))
    | (with_reducible apply z_b_R; (case h => first | with_unfolding_all rfl))
    | (with_reducible apply z_PU; (case he => repeat (with_reducible first | exact zv_l _ | exact zv_r | apply zv_add | apply zv_sub | apply zv_neg)); (case h => with_reducible first | exact zp_36_3 _ | exact zp_36_4 _))
    | (with_reducible apply z_S; (case he => repeat (with_reducible first | exact zv_l _ | exact zv_r | apply zv_add | apply zv_sub | apply zv_neg)); (case hg => repeat (with_reducible first | exact zv_l _ | exact zv_r | apply zv_add | apply zv_sub | apply zv_neg)); (case hn => with_reducible first | assumption | exact zl_2 | exact zl_4 | exact zl_5 | exact zl_6 | exact zl_7 | exact zl_8 | exact zl_9 | exact zl_10 | exact zl_37 | exact zl_38); (case h => omega))
    | (with_reducible apply z_0isLeft; (case a1 => assumption); (case e1 => repeat (with_reducible first | exact zv_l _ | exact zv_r | apply zv_add | apply zv_sub | apply zv_neg)); (case r1 => first | omega | ((simp (disch := omega) only [zU_c, zU_e, zU_k, zF_c, zF_i, zF_o, zW_o, zW_i, zC_c, zC_i, zC_o]); omega)); (case r2 => first | omega | ((simp (disch := omega) only [zU_c, zU_e, zU_k, zF_c, zF_i, zF_o, zW_o, zW_i, zC_c, zC_i, zC_o]); omega)))
    | (with_reducible apply z_0pointsInto; (case a1 => assumption); (case a2 => assumption); (case r7 => first | omega | ((simp (disch := omega) only [zU_c, zU_e, zU_k, zF_c, zF_i, zF_o, zW_o, zW_i, zC_c, zC_i, zC_o]); omega)); (case r3 => first | omega | ((simp (disch := omega) only [zU_c, zU_e, zU_k, zF_c, zF_i, zF_o, zW_o, zW_i, zC_c, zC_i, zC_o]); omega)); (case r1 => first | omega | ((simp (disch := omega) only [zU_c, zU_e, zU_k, zF_c, zF_i, zF_o, zW_o, zW_i, zC_c, zC_i, zC_o]); omega)); (case r2 => first | omega | ((simp (disch := omega) only [zU_c, zU_e, zU_k, zF_c, zF_i, zF_o, zW_o, zW_i, zC_c, zC_i, zC_o]); omega)); (case a3 => assumption))
    | (with_reducible apply z_5open; (case a1 => assumption); intro _ _ _))
  (first
    | (with_reducible apply z_B; all_goals (intro _; try (exfalso; omega)))
    | (with_reducible apply z_E; all_goals intro _)
    | (with_reducible apply z_lt; (case ha => repeat (with_reducible first | exact zv_l _ | exact zv_r | apply zv_add | apply zv_sub | apply zv_neg)); (case hb => repeat (with_reducible first | exact zv_l _ | exact zv_r | apply zv_add | apply zv_sub | apply zv_neg)); (case hx => omega); (case hy => omega); all_goals (intro _; try (exfalso; omega)))
    | (with_reducible apply z_le; (case ha => repeat (with_reducible first | exact zv_l _ | exact zv_r | apply zv_add | apply zv_sub | apply zv_neg)); (case hb => repeat (with_reducible first | exact zv_l _ | exact zv_r | apply zv_add | apply zv_sub | apply zv_neg)); (case hx => omega); (case hy => omega); all_goals (intro _; try (exfalso; omega)))
    | (with_reducible apply z_eq; (case ha => repeat (with_reducible first | exact zv_l _ | exact zv_r | apply zv_add | apply zv_sub | apply zv_neg)); (case hb => repeat (with_reducible first | exact zv_l _ | exact zv_r | apply zv_add | apply zv_sub | apply zv_neg)); (case hx => omega); (case hy => omega); all_goals (intro _; try (exfalso; omega))))
  · have : i = (m 3 1).toNat := by omega
    subst this
    exact ⟨_, _, rfl, w, rfl, w1, w2, w3, w4⟩
  · have hg := hg (by omega)
    have eL : zLa m 3 (i + 1) = if m (3 + 7) (i : Int) = -1 then zLa m 3 i ++ [i] else zLa m 3 i := rfl
    refine z_0isLeft (r := 3) (k := (i : Int)) (Or.inl rfl) rfl (by omega) (by rw [zW_o (by omega)]; exact hg.1) ?_
    rw [zW_o (by omega)]
    refine z_B (fun hq => ?_) (fun hq => ?_)
    · rw [if_neg hq] at eL
      repeat' (first
    | (with_reducible apply z_nm; (case he => repeat (with_reducible first | exact zv_l _ | exact zv_r | apply zv_add | apply zv_sub | apply zv_neg)))
    | (with_reducible apply z_b_ck; (case h => with_unfolding_all rfl))
    | (with_reducible apply z_I; (case h => first | exact zg_I1 (by assumption) | with_unfolding_all rfl); (case hy => first | ((simp (disch := omega) only [zU_c, zU_e, zU_k, zF_c, zF_i, zF_o, zW_o, zW_i, zC_c, zC_i, zC_o]); rfl) | rfl))
    | (with_reducible apply z_b_R; (case h => first | with_unfolding_all rfl))
    | (with_reducible apply z_PU; (case he => repeat (with_reducible first | exact zv_l _ | exact zv_r | apply zv_add | apply zv_sub | apply zv_neg)); (case h => with_reducible first | exact zp_36_3 _ | exact zp_36_4 _))
    | (with_reducible apply z_S; (case he => repeat (with_reducible first | exact zv_l _ | exact zv_r | apply zv_add | apply zv_sub | apply zv_neg)); (case hg => repeat (with_reducible first | exact zv_l _ | exact zv_r | apply zv_add | apply zv_sub | apply zv_neg)); (case hn => with_reducible first | assumption | exact zl_2 | exact zl_4 | exact zl_5 | exact zl_6 | exact zl_7 | exact zl_8 | exact zl_9 | exact zl_10 | exact zl_37 | exact zl_38); (case h => omega))
    | (with_reducible apply z_0isLeft; (case a1 => assumption); (case e1 => repeat (with_reducible first | exact zv_l _ | exact zv_r | apply zv_add | apply zv_sub | apply zv_neg)); (case r1 => first | omega | ((simp (disch := omega) only [zU_c, zU_e, zU_k, zF_c, zF_i, zF_o, zW_o, zW_i, zC_c, zC_i, zC_o]); omega)); (case r2 => first | omega | ((simp (disch := omega) only [zU_c, zU_e, zU_k, zF_c, zF_i, zF_o, zW_o, zW_i, zC_c, zC_i, zC_o]); omega)))
    | (with_reducible apply z_0pointsInto; (case a1 => assumption); (case a2 => assumption); (case r7 => first | omega | ((simp (disch := omega) only [zU_c, zU_e, zU_k, zF_c, zF_i, zF_o, zW_o, zW_i, zC_c, zC_i, zC_o]); omega)); (case r3 => first | omega | ((simp (disch := omega) only [zU_c, zU_e, zU_k, zF_c, zF_i, zF_o, zW_o, zW_i, zC_c, zC_i, zC_o]); omega)); (case r1 => first | omega | ((simp (disch := omega) only [zU_c, zU_e, zU_k, zF_c, zF_i, zF_o, zW_o, zW_i, zC_c, zC_i, zC_o]); omega)); (case r2 => first | omega | ((simp (disch := omega) only [zU_c, zU_e, zU_k, zF_c, zF_i, zF_o, zW_o, zW_i, zC_c, zC_i, zC_o]); omega)); (case a3 => assumption))
    | (with_reducible apply z_5open; (case a1 => assumption); intro _ _ _))
      exact hk _ _ _ (by omega) ⟨i + 1, w, rfl, by omega, rfl, rfl, by rw [eL]; exact w1, w2, by rw [eL]; exact w3, w4⟩
    · rw [if_pos hq] at eL
      (first
    | (with_reducible apply z_nm; (case he => repeat (with_reducible first | exact zv_l _ | exact zv_r | apply zv_add | apply zv_sub | apply zv_neg)))
    | (with_reducible apply z_b_ck; (case h => with_unfolding_all rfl))
    | (with_reducible apply z_I; (case h => first | exact zg_I1 (by assumption) | with_unfolding_all rfl); (case hy => first | ((simp (disch := omega) only [zU_c, zU_e, zU_k, zF_c, zF_i, zF_o, zW_o, zW_i, zC_c, zC_i, zC_o]); rfl) | rfl))
    | (with_reducible apply z_b_R; (case h => first | with_unfolding_all rfl))
    | (with_reducible apply z_PU; (case he => repeat (with_reducible first | exact zv_l _ | exact zv_r | apply zv_add | apply zv_sub | apply zv_neg)); (case h => with_reducible first | exact zp_36_3 _ | exact zp_36_4 _))
    | (with_reducible apply z_S; (case he => repeat (with_reducible first | exact zv_l _ | exact zv_r | apply zv_add | apply zv_sub | apply zv_neg)); (case hg => repeat (with_reducible first | exact zv_l _ | exact zv_r | apply zv_add | apply zv_sub | apply zv_neg)); (case hn => with_reducible first | assumption | exact zl_2 | exact zl_4 | exact zl_5 | exact zl_6 | exact zl_7 | exact zl_8 | exact zl_9 | exact zl_10 | exact zl_37 | exact zl_38); (case h => omega))
    | (with_reducible apply z_0isLeft; (case a1 => assumption); (case e1 => repeat (with_reducible first | exact zv_l _ | exact zv_r | apply zv_add | apply zv_sub | apply zv_neg)); (case r1 => first | omega | ((simp (disch := omega) only [zU_c, zU_e, zU_k, zF_c, zF_i, zF_o, zW_o, zW_i, zC_c, zC_i, zC_o]); omega)); (case r2 => first | omega | ((simp (disch := omega) only [zU_c, zU_e, zU_k, zF_c, zF_i, zF_o, zW_o, zW_i, zC_c, zC_i, zC_o]); omega)))
    | (with_reducible apply z_0pointsInto; (case a1 => assumption); (case a2 => assumption); (case r7 => first | omega | ((simp (disch := omega) only [zU_c, zU_e, zU_k, zF_c, zF_i, zF_o, zW_o, zW_i, zC_c, zC_i, zC_o]); omega)); (case r3 => first | omega | ((simp (disch := omega) only [zU_c, zU_e, zU_k, zF_c, zF_i, zF_o, zW_o, zW_i, zC_c, zC_i, zC_o]); omega)); (case r1 => first | omega | ((simp (disch := omega) only [zU_c, zU_e, zU_k, zF_c, zF_i, zF_o, zW_o, zW_i, zC_c, zC_i, zC_o]); omega)); (case r2 => first | omega | ((simp (disch := omega) only [zU_c, zU_e, zU_k, zF_c, zF_i, zF_o, zW_o, zW_i, zC_c, zC_i, zC_o]); omega)); (case a3 => assumption))
    | (with_reducible apply z_5open; (case a1 => assumption); intro _ _ _))
      refine z_I (y := w 36 3) (by with_unfolding_all rfl) (zW_i (by omega)) ?_
      (first
    | (with_reducible apply z_nm; (case he => repeat (with_reducible first | exact zv_l _ | exact zv_r | apply zv_add | apply zv_sub | apply zv_neg)))
    | (with_reducible apply z_b_ck; (case h => with_unfolding_all rfl))
    | (with_reducible apply z_I; (case h => first | exact zg_I1 (by assumption) | with_unfolding_all rfl); (case hy => first | ((simp (disch := omega) only [zU_c, zU_e, zU_k, zF_c, zF_i, zF_o, zW_o, zW_i, zC_c, zC_i, zC_o]); rfl) | rfl))
    | (with_reducible apply z_b_R; (case h => first | with_unfolding_all rfl))
    | (with_reducible apply z_PU; (case he => repeat (with_reducible first | exact zv_l _ | exact zv_r | apply zv_add | apply zv_sub | apply zv_neg)); (case h => with_reducible first | exact zp_36_3 _ | exact zp_36_4 _))
    | (with_reducible apply z_S; (case he => repeat (with_reducible first | exact zv_l _ | exact zv_r | apply zv_add | apply zv_sub | apply zv_neg)); (case hg => repeat (with_reducible first | exact zv_l _ | exact zv_r | apply zv_add | apply zv_sub | apply zv_neg)); (case hn => with_reducible first | assumption | exact zl_2 | exact zl_4 | exact zl_5 | exact zl_6 | exact zl_7 | exact zl_8 | exact zl_9 | exact zl_10 | exact zl_37 | exact zl_38); (case h => omega))
    | (with_reducible apply z_0isLeft; (case a1 => assumption); (case e1 => repeat (with_reducible first | exact zv_l _ | exact zv_r | apply zv_add | apply zv_sub | apply zv_neg)); (case r1 => first | omega | ((simp (disch := omega) only [zU_c, zU_e, zU_k, zF_c, zF_i, zF_o, zW_o, zW_i, zC_c, zC_i, zC_o]); omega)); (case r2 => first | omega | ((simp (disch := omega) only [zU_c, zU_e, zU_k, zF_c, zF_i, zF_o, zW_o, zW_i, zC_c, zC_i, zC_o]); omega)))
    | (with_reducible apply z_0pointsInto; (case a1 => assumption); (case a2 => assumption); (case r7 => first | omega | ((simp (disch := omega) only [zU_c, zU_e, zU_k, zF_c, zF_i, zF_o, zW_o, zW_i, zC_c, zC_i, zC_o]); omega)); (case r3 => first | omega | ((simp (disch := omega) only [zU_c, zU_e, zU_k, zF_c, zF_i, zF_o, zW_o, zW_i, zC_c, zC_i, zC_o]); omega)); (case r1 => first | omega | ((simp (disch := omega) only [zU_c, zU_e, zU_k, zF_c, zF_i, zF_o, zW_o, zW_i, zC_c, zC_i, zC_o]); omega)); (case r2 => first | omega | ((simp (disch := omega) only [zU_c, zU_e, zU_k, zF_c, zF_i, zF_o, zW_o, zW_i, zC_c, zC_i, zC_o]); omega)); (case a3 => assumption))
    | (with_reducible apply z_5open; (case a1 => assumption); intro _ _ _))
      rw [zU_W (by omega)]
      refine z_I (y := w 36 3) (by with_unfolding_all rfl) (by rw [zW_i (by omega), zU_c (by omega)]) ?_
      (first
    | (with_reducible apply z_nm; (case he => repeat (with_reducible first | exact zv_l _ | exact zv_r | apply zv_add | apply zv_sub | apply zv_neg)))
    | (with_reducible apply z_b_ck; (case h => with_unfolding_all rfl))
    | (with_reducible apply z_I; (case h => first | exact zg_I1 (by assumption) | with_unfolding_all rfl); (case hy => first | ((simp (disch := omega) only [zU_c, zU_e, zU_k, zF_c, zF_i, zF_o, zW_o, zW_i, zC_c, zC_i, zC_o]); rfl) | rfl))
    | (with_reducible apply z_b_R; (case h => first | with_unfolding_all rfl))
    | (with_reducible apply z_PU; (case he => repeat (with_reducible first | exact zv_l _ | exact zv_r | apply zv_add | apply zv_sub | apply zv_neg)); (case h => with_reducible first | exact zp_36_3 _ | exact zp_36_4 _))
    | (with_reducible apply z_S; (case he => repeat (with_reducible first | exact zv_l _ | exact zv_r | apply zv_add | apply zv_sub | apply zv_neg)); (case hg => repeat (with_reducible first | exact zv_l _ | exact zv_r | apply zv_add | apply zv_sub | apply zv_neg)); (case hn => with_reducible first | assumption | exact zl_2 | exact zl_4 | exact zl_5 | exact zl_6 | exact zl_7 | exact zl_8 | exact zl_9 | exact zl_10 | exact zl_37 | exact zl_38); (case h => omega))
    | (with_reducible apply z_0isLeft; (case a1 => assumption); (case e1 => repeat (with_reducible first | exact zv_l _ | exact zv_r | apply zv_add | apply zv_sub | apply zv_neg)); (case r1 => first | omega | ((simp (disch := omega) only [zU_c, zU_e, zU_k, zF_c, zF_i, zF_o, zW_o, zW_i, zC_c, zC_i, zC_o]); omega)); (case r2 => first | omega | ((simp (disch := omega) only [zU_c, zU_e, zU_k, zF_c, zF_i, zF_o, zW_o, zW_i, zC_c, zC_i, zC_o]); omega)))
    | (with_reducible apply z_0pointsInto; (case a1 => assumption); (case a2 => assumption); (case r7 => first | omega | ((simp (disch := omega) only [zU_c, zU_e, zU_k, zF_c, zF_i, zF_o, zW_o, zW_i, zC_c, zC_i, zC_o]); omega)); (case r3 => first | omega | ((simp (disch := omega) only [zU_c, zU_e, zU_k, zF_c, zF_i, zF_o, zW_o, zW_i, zC_c, zC_i, zC_o]); omega)); (case r1 => first | omega | ((simp (disch := omega) only [zU_c, zU_e, zU_k, zF_c, zF_i, zF_o, zW_o, zW_i, zC_c, zC_i, zC_o]); omega)); (case r2 => first | omega | ((simp (disch := omega) only [zU_c, zU_e, zU_k, zF_c, zF_i, zF_o, zW_o, zW_i, zC_c, zC_i, zC_o]); omega)); (case a3 => assumption))
    | (with_reducible apply z_5open; (case a1 => assumption); intro _ _ _))
      rw [zU_W (by omega)]
      (first
    | (with_reducible apply z_nm; (case he => repeat (with_reducible first | exact zv_l _ | exact zv_r | apply zv_add | apply zv_sub | apply zv_neg)))
    | (with_reducible apply z_b_ck; (case h => with_unfolding_all rfl))
    | (with_reducible apply z_I; (case h => first | exact zg_I1 (by assumption) | with_unfolding_all rfl); (case hy => first | ((simp (disch := omega) only [zU_c, zU_e, zU_k, zF_c, zF_i, zF_o, zW_o, zW_i, zC_c, zC_i, zC_o]); rfl) | rfl))
    | (with_reducible apply z_b_R; (case h => first | with_unfolding_all rfl))
    | (with_reducible apply z_PU; (case he => repeat (with_reducible first | exact zv_l _ | exact zv_r | apply zv_add | apply zv_sub | apply zv_neg)); (case h => with_reducible first | exact zp_36_3 _ | exact zp_36_4 _))
    | (with_reducible apply z_S; (case he => repeat (with_reducible first | exact zv_l _ | exact zv_r | apply zv_add | apply zv_sub | apply zv_neg)); (case hg => repeat (with_reducible first | exact zv_l _ | exact zv_r | apply zv_add | apply zv_sub | apply zv_neg)); (case hn => with_reducible first | assumption | exact zl_2 | exact zl_4 | exact zl_5 | exact zl_6 | exact zl_7 | exact zl_8 | exact zl_9 | exact zl_10 | exact zl_37 | exact zl_38); (case h => omega))
    | (with_reducible apply z_0isLeft; (case a1 => assumption); (case e1 => repeat (with_reducible first | exact zv_l _ | exact zv_r | apply zv_add | apply zv_sub | apply zv_neg)); (case r1 => first | omega | ((simp (disch := omega) only [zU_c, zU_e, zU_k, zF_c, zF_i, zF_o, zW_o, zW_i, zC_c, zC_i, zC_o]); omega)); (case r2 => first | omega | ((simp (disch := omega) only [zU_c, zU_e, zU_k, zF_c, zF_i, zF_o, zW_o, zW_i, zC_c, zC_i, zC_o]); omega)))
    | (with_reducible apply z_0pointsInto; (case a1 => assumption); (case a2 => assumption); (case r7 => first | omega | ((simp (disch := omega) only [zU_c, zU_e, zU_k, zF_c, zF_i, zF_o, zW_o, zW_i, zC_c, zC_i, zC_o]); omega)); (case r3 => first | omega | ((simp (disch := omega) only [zU_c, zU_e, zU_k, zF_c, zF_i, zF_o, zW_o, zW_i, zC_c, zC_i, zC_o]); omega)); (case r1 => first | omega | ((simp (disch := omega) only [zU_c, zU_e, zU_k, zF_c, zF_i, zF_o, zW_o, zW_i, zC_c, zC_i, zC_o]); omega)); (case r2 => first | omega | ((simp (disch := omega) only [zU_c, zU_e, zU_k, zF_c, zF_i, zF_o, zW_o, zW_i, zC_c, zC_i, zC_o]); omega)); (case a3 => assumption))
    | (with_reducible apply z_5open; (case a1 => assumption); intro _ _ _))
      refine hk _ _ _ (by omega) ⟨i + 1, _, rfl, by omega, rfl, rfl, ?_, ?_, fun j hj => ?_, fun u u0 u1 => ?_⟩
      · rw [zU_e, eL, List.length_append, w1]
        simp
      · rw [zU_k (by omega), zU_c (by omega)]
        exact w2
      · rw [eL] at hj ⊢
        rw [List.length_append] at hj
        simp only [List.length_cons, List.length_nil] at hj
        rw [zU_c (by omega)]
        by_cases hq2 : j = (zLa m 3 i).length
        · subst hq2
          rw [w1, zU_e]
          simp [List.getD]
        · rw [w1, zU_k (by omega), w3 j (by omega)]
          simp [List.getD, List.getElem?_append_left (show j < (zLa m 3 i).length by omega)]
      · rw [zU_c (by omega), zU_c (by omega)]
        exact w4 u u0 u1
theorem zPl_c {o p o' p' : Int → Int} {n : Nat} {i : Int} (h : ∀ j, i ≤ j → j < i + n → o j = o' j ∧ p j = p' j) : zPl o p n i = zPl o' p' n i := by
  induction n generalizing i with
  | zero => rfl
  | succ n ih =>
    have h0 := h i (by omega) (by omega)
    show (o i, p i) :: zPl o p n (i + 1) = (o' i, p' i) :: zPl o' p' n (i + 1)
    rw [h0.1, h0.2, ih (fun j a b => h j (by omega) (by omega))]
/-- what tables tells -/
def zTbl (m : zMe) (y : Int) : Prop := (4 < zPop (zLeft m 3) ∧ y = -6) ∨ (zPop (zLeft m 3) ≤ 4 ∧ ∃ (g : Nat → Int) (n : Nat), zDf g n (fun x => zQk (m 3 2) (if m 3 2 = 0 then 0 else 1) (zGl m 3 (zLa m 3 (m 3 1).toNat)) (zPt m 3) x) ∧ y = (n : Int))
theorem zTbl_u {m : zMe} {y y' : Int} (h1 : zTbl m y) (h2 : zTbl m y') : y = y' := by
  rcases h1 with ⟨h, rfl⟩ | ⟨h, g, n, hd, rfl⟩
  · rcases h2 with ⟨h', rfl⟩ | ⟨h', g', n', hd', rfl⟩
    · rfl
    · exfalso
      omega
  · rcases h2 with ⟨h', rfl⟩ | ⟨h', g', n', hd', rfl⟩
    · exfalso
      omega
    · rw [zDf_u hd hd']
theorem zDf_0 {g : Nat → Int} : zDf g 0 (fun _ => False) := ⟨fun i j hi => absurd hi (by omega), fun x => ⟨fun q => by obtain ⟨j, hj, -⟩ := q; omega, fun q => q.elim⟩⟩
set_option maxRecDepth 100000 in
set_option maxHeartbeats 1000000 in
theorem s6_tablesE {m : zMe} (a1 : zWf m 3) : zOk (f_X6_tables 0 (zM m)) (fun v m1 => (∃ y, v = zI y ∧ zTbl m y) ∧ zFr 19 m m1) := by
  have hG : zG 3 := Or.inl rfl
  have hN := a1.1.2.1
  have hT := a1.1.1
  unfold f_X6_tables
  (first
    | (with_reducible apply z_nm; (case he => repeat (with_reducible first | exact zv_l _ | exact zv_r | apply zv_add | apply zv_sub | apply zv_neg)))
    | (with_reducible apply z_b_ck; (case h => with_unfolding_all rfl))
    | (with_reducible apply z_b_R; (case h => first | with_unfolding_all rfl))
    | (with_reducible apply z_0left; (case a1 => assumption); (case r1 => first | omega | ((simp (disch := omega) only [zU_c, zU_e, zU_k, zF_c, zF_i, zF_o, zW_o, zW_i, zC_c, zC_i, zC_o]); omega)); (case a2 => assumption))
    | (with_reducible apply z_5open; (case a1 => assumption); intro _ _ _)
    | (with_reducible apply z_6tables; (case a1 => assumption); intro _ _ _))
  (first
    | (with_reducible apply z_nm; (case he => repeat (with_reducible first | exact zv_l _ | exact zv_r | apply zv_add | apply zv_sub | apply zv_neg)))
    | (with_reducible apply z_b_ck; (case h => with_unfolding_all rfl))
    | (with_reducible apply z_b_R; (case h => first | with_unfolding_all rfl))
    | (with_reducible apply z_0left; (case a1 => assumption); (case r1 => first | omega | ((simp (disch := omega) only [zU_c, zU_e, zU_k, zF_c, zF_i, zF_o, zW_o, zW_i, zC_c, zC_i, zC_o]); omega)); (case a2 => assumption))
    | (with_reducible apply z_5open; (case a1 => assumption); intro _ _ _)
    | (with_reducible apply z_6tables; (case a1 => assumption); intro _ _ _))
  refine z_0left hG hN (fun k q0 q1 => (zWf_g2 a1 k q0 q1).1) ?_
  refine z_6bitCount rfl (zLeft_lt hN) ?_
  have hp := zPop_le (zLeft m 3)
  have hlen := zLa_pop (m := m) (r := 3) hN
  refine z_le (x := (zPop (zLeft m 3) : Int)) (y := 4) rfl (zv_l 4) (by omega) (by omega) (fun h4 => ?_) (fun h4 => ?_)
  · (first
    | (with_reducible apply z_nm; (case he => repeat (with_reducible first | exact zv_l _ | exact zv_r | apply zv_add | apply zv_sub | apply zv_neg)))
    | (with_reducible apply z_b_ck; (case h => with_unfolding_all rfl))
    | (with_reducible apply z_b_R; (case h => first | with_unfolding_all rfl))
    | (with_reducible apply z_0left; (case a1 => assumption); (case r1 => first | omega | ((simp (disch := omega) only [zU_c, zU_e, zU_k, zF_c, zF_i, zF_o, zW_o, zW_i, zC_c, zC_i, zC_o]); omega)); (case a2 => assumption))
    | (with_reducible apply z_5open; (case a1 => assumption); intro _ _ _)
    | (with_reducible apply z_6tables; (case a1 => assumption); intro _ _ _))
    (first
    | (with_reducible apply z_nm; (case he => repeat (with_reducible first | exact zv_l _ | exact zv_r | apply zv_add | apply zv_sub | apply zv_neg)))
    | (with_reducible apply z_b_ck; (case h => with_unfolding_all rfl))
    | (with_reducible apply z_b_R; (case h => first | with_unfolding_all rfl))
    | (with_reducible apply z_0left; (case a1 => assumption); (case r1 => first | omega | ((simp (disch := omega) only [zU_c, zU_e, zU_k, zF_c, zF_i, zF_o, zW_o, zW_i, zC_c, zC_i, zC_o]); omega)); (case a2 => assumption))
    | (with_reducible apply z_5open; (case a1 => assumption); intro _ _ _)
    | (with_reducible apply z_6tables; (case a1 => assumption); intro _ _ _))
    refine z_call (s5_openE a1) (fun _ m1 hv => ?_)
    obtain ⟨w, rfl, w1, w2, w3, w4⟩ := hv
    (first
    | (with_reducible apply z_nm; (case he => repeat (with_reducible first | exact zv_l _ | exact zv_r | apply zv_add | apply zv_sub | apply zv_neg)))
    | (with_reducible apply z_b_ck; (case h => with_unfolding_all rfl))
    | (with_reducible apply z_b_R; (case h => first | with_unfolding_all rfl))
    | (with_reducible apply z_0left; (case a1 => assumption); (case r1 => first | omega | ((simp (disch := omega) only [zU_c, zU_e, zU_k, zF_c, zF_i, zF_o, zW_o, zW_i, zC_c, zC_i, zC_o]); omega)); (case a2 => assumption))
    | (with_reducible apply z_5open; (case a1 => assumption); intro _ _ _)
    | (with_reducible apply z_6tables; (case a1 => assumption); intro _ _ _))
    (first
    | (with_reducible apply z_nm; (case he => repeat (with_reducible first | exact zv_l _ | exact zv_r | apply zv_add | apply zv_sub | apply zv_neg)))
    | (with_reducible apply z_b_ck; (case h => with_unfolding_all rfl))
    | (with_reducible apply z_b_R; (case h => first | with_unfolding_all rfl))
    | (with_reducible apply z_0left; (case a1 => assumption); (case r1 => first | omega | ((simp (disch := omega) only [zU_c, zU_e, zU_k, zF_c, zF_i, zF_o, zW_o, zW_i, zC_c, zC_i, zC_o]); omega)); (case a2 => assumption))
    | (with_reducible apply z_5open; (case a1 => assumption); intro _ _ _)
    | (with_reducible apply z_6tables; (case a1 => assumption); intro _ _ _))
    have hlt : ∀ j : Nat, j < (zLa m 3 (m 3 1).toNat).length → (zLa m 3 (m 3 1).toNat).getD j 0 < (m 3 1).toNat := fun j hj => getD_lt (fun x hx => zLa_in hx) hj
    have o : ∀ c j, ¬ (36 ≤ c ∧ c ≤ 38) → zW m 36 38 w c j = m c j := fun c j hc => zW_o hc
    have i' : ∀ c j, (36 ≤ c ∧ c ≤ 38) → zW m 36 38 w c j = w c j := fun c j hc => zW_i hc
    generalize zW m 36 38 w = M at o i' ⊢
    have hW1 : zWf M 3 := zWf_S (fun c a b j => o c j (by omega)) a1
    have hq : zWq M 0 := by
      refine ⟨hW1, ⟨by rw [i' 36 3 (by omega), w1]; omega, by rw [i' 36 4 (by omega), w2]; omega, fun j j0 j1 => ?_⟩, by rw [i' 36 3 (by omega), w1]; omega, ?_, fun u u0 u1 => ?_, fun j hj => ?_⟩
      · rw [i' 36 3 (by omega), w1] at j1
        have hj := hlt j.toNat (by omega)
        have ej : ((j.toNat : Nat) : Int) = j := by omega
        have hw := w3 j.toNat (by omega)
        rw [ej] at hw
        rw [i' 38 j (by omega), o 3 1 (by omega), hw]
        omega
      · rw [i' 36 3 (by omega), i' 36 4 (by omega), w1, w2]
        have h1 : 3 ^ (((zLa m 3 (m 3 1).toNat).length : Int) - 0).toNat ≤ 3 ^ 4 := Nat.pow_le_pow_right (by omega) (by omega)
        have h2 : (3 : Nat) ^ 4 = 81 := rfl
        omega
      · have hpt := zPt_range a1 u0
        rw [i' 37 u (by omega), w4 u u0 u1, i' 36 3 (by omega), w1]
        omega
      · rw [i' 36 4 (by omega), w2] at hj
        exfalso
        omega
    have hgo := s5_fromE hq
    generalize f_X5_fromN 12 = ff at hgo ⊢
    refine z_call hgo (fun v m2 hv => ?_)
    obtain ⟨hX, rfl, hc, hs, hd⟩ := hv
    rw [i' 36 4 (by omega), w2] at hc hd
    have hd := hd (fun _ => False) zDf_0
    refine ⟨_, _, rfl, ⟨m2 36 4 - M 36 4, rfl, Or.inr ⟨by omega, fun j => m2 39 (j : Int), (m2 36 4).toNat, zDf_iff (fun x => ?_) hd, ?_⟩⟩, fun c hc j => by rw [hX c j (by omega) (by omega), o c j (by omega)]⟩
    · have eW : zWlk M (M 36 3 - 0).toNat 0 = zGl m 3 (zLa m 3 (m 3 1).toNat) := by
        rw [i' 36 3 (by omega), w1, show (((zLa m 3 (m 3 1).toNat).length : Int) - 0).toNat = (zLa m 3 (m 3 1).toNat).length by omega]
        unfold zWlk zGl
        rw [← zPl_map (zLa m 3 (m 3 1).toNat) (fun k => m (3 + 4) (k : Int)) (fun k => m (3 + 5) (k : Int))]
        refine zPl_c (fun j j0 j1 => ?_)
        have ej : ((j.toNat : Nat) : Int) = j := by omega
        have hw := w3 j.toNat (by omega)
        rw [ej] at hw
        rw [i' 38 j (by omega), hw, o _ _ (by omega), o _ _ (by omega)]
        exact ⟨rfl, rfl⟩
      have eQ : zQk (M 3 2) (if M 3 2 = 0 then 0 else 1) (zWlk M (M 36 3 - 0).toNat 0) (M 37) x ↔ zQk (m 3 2) (if m 3 2 = 0 then 0 else 1) (zGl m 3 (zLa m 3 (m 3 1).toNat)) (zPt m 3) x := by
        rw [eW, o 3 2 (by omega)]
        exact zQk_congr (fun u u0 u1 => by rw [i' 37 u (by omega), w4 u u0 u1])
      rw [eQ]
      exact ⟨fun q => q.elim (fun f => f.elim) id, fun q => Or.inr q⟩
    · rw [i' 36 4 (by omega), w2]
      omega
  · exact ⟨_, _, rfl, ⟨-6, rfl, Or.inl ⟨by omega, rfl⟩⟩, zFr_r _ _⟩
