/-! the class's walk, exact: rows that have not been seen -/
set_option maxRecDepth 100000 in
set_option maxHeartbeats 1000000 in
theorem s5_isNewE {m : zMe} (hr : ∀ u, 0 ≤ u → u < 6 → 0 ≤ m 37 u ∧ m 37 u < 64) (hn : 0 ≤ m 36 4 ∧ m 36 4 ≤ 80) (hs : ∀ j : Nat, (j : Int) < m 36 4 → 0 ≤ m 39 (j : Int) ∧ m 39 (j : Int) < 68719476736) : zOk (f_X5_isNew 36 (zM m)) (fun v m1 => ((∃ j : Nat, (j : Int) < m 36 4 ∧ m 39 (j : Int) = zKy (m 37) 6) ∧ v = zI 0 ∧ m1 = m) ∨ ((¬ ∃ j : Nat, (j : Int) < m 36 4 ∧ m 39 (j : Int) = zKy (m 37) 6) ∧ v = zI 1 ∧ m1 = zU (zU m 39 (m 36 4) (zKy (m 37) 6)) 36 4 (m 36 4 + 1))) := by
  unfold f_X5_isNew
  (first
    | (with_reducible apply z_nm; (case he => repeat (with_reducible first | exact zv_l _ | exact zv_r | apply zv_add | apply zv_sub | apply zv_or | apply zv_shl | apply zv_and)))
    | (with_reducible apply z_b_ck; (case h => with_unfolding_all rfl))
    | (with_reducible apply z_I; (case h => first | with_unfolding_all rfl); (case hy => first | ((simp (disch := omega) only [zU_c, zU_e, zU_k, zF_c, zF_i, zF_o, zW_o, zW_i, zC_c, zC_i, zC_o]); rfl) | rfl))
    | (with_reducible apply z_b_R; (case h => first | with_unfolding_all rfl))
    | (with_reducible apply z_PU; (case he => repeat (with_reducible first | exact zv_l _ | exact zv_r | apply zv_add | apply zv_sub | apply zv_or | apply zv_shl | apply zv_and)); (case h => with_reducible first | exact zp_36_4 _))
    | (with_reducible apply z_L; (case he => repeat (with_reducible first | exact zv_l _ | exact zv_r | apply zv_add | apply zv_sub | apply zv_or | apply zv_shl | apply zv_and)); (case hn => with_reducible first | assumption | exact zl_4 | exact zl_5 | exact zl_6 | exact zl_37); (case h => omega); (case hy => first | ((simp (disch := omega) only [zU_c, zU_e, zU_k, zF_c, zF_i, zF_o, zW_o, zW_i, zC_c, zC_i, zC_o]); rfl) | rfl))
    | (with_reducible apply z_5isNew; (case a1 => assumption); intro _ _ _))
  refine z_lp (fun n v m1 => ∃ i : Nat, v = (36, zJ (zKy (m 37) i), zI (i : Int)) ∧ i ≤ 6 ∧ n = 6 - i ∧ m1 = m) (fun _ _ v m1 => ((∃ j : Nat, (j : Int) < m 36 4 ∧ m 39 (j : Int) = zKy (m 37) 6) ∧ v = zI 0 ∧ m1 = m) ∨ ((¬ ∃ j : Nat, (j : Int) < m 36 4 ∧ m 39 (j : Int) = zKy (m 37) 6) ∧ v = zI 1 ∧ m1 = zU (zU m 39 (m 36 4) (zKy (m 37) 6)) 36 4 (m 36 4 + 1))) ?_ 600 6 _ _ (by omega) ⟨0, rfl, by omega, rfl, rfl⟩
  rintro n v m1 k ⟨i, rfl, h1, rfl, rfl⟩ hk
  unfold f_X5_isNew_4
  dsimp only
  refine z_le (x := 6) (y := (i : Int)) (zv_l 6) rfl (by omega) (by omega) (fun h6 => ?_) (fun h6 => ?_)
  · have : i = 6 := by omega
    subst this
    have hkey := zKy_36 (f := m1 37) (fun k hk => hr (k : Int) (by omega) (by omega))
    generalize zKy (m1 37) 6 = key at hkey ⊢
    have ekey : (zJ key).toInt = key := Int64.toInt_ofInt_of_le (by omega) (by omega)
    refine z_lp (fun n v m2 => ∃ i : Nat, v = (36, zJ key, zI (i : Int)) ∧ (i : Int) ≤ m1 36 4 ∧ n = (m1 36 4 - i).toNat ∧ m2 = m1 ∧ ∀ j : Nat, j < i → ¬ m1 39 (j : Int) = key) (fun _ _ v m2 => ((∃ j : Nat, (j : Int) < m1 36 4 ∧ m1 39 (j : Int) = key) ∧ v = zI 0 ∧ m2 = m1) ∨ ((¬ ∃ j : Nat, (j : Int) < m1 36 4 ∧ m1 39 (j : Int) = key) ∧ v = zI 1 ∧ m2 = zU (zU m1 39 (m1 36 4) key) 36 4 (m1 36 4 + 1))) ?_ 600 (m1 36 4).toNat _ _ (by omega) ⟨0, rfl, by omega, by omega, rfl, fun j hj => absurd hj (by omega)⟩
    rintro n v m2 k2 ⟨i, rfl, h2, rfl, rfl, hno⟩ hk2
    unfold f_X5_isNew_31
    dsimp only
    (first
    | (with_reducible apply z_nm; (case he => repeat (with_reducible first | exact zv_l _ | exact zv_r | apply zv_add | apply zv_sub | apply zv_or | apply zv_shl | apply zv_and)))
    | (with_reducible apply z_b_ck; (case h => with_unfolding_all rfl))
    | (with_reducible apply z_I; (case h => first | with_unfolding_all rfl); (case hy => first | ((simp (disch := omega) only [zU_c, zU_e, zU_k, zF_c, zF_i, zF_o, zW_o, zW_i, zC_c, zC_i, zC_o]); rfl) | rfl))
    | (with_reducible apply z_b_R; (case h => first | with_unfolding_all rfl))
    | (with_reducible apply z_PU; (case he => repeat (with_reducible first | exact zv_l _ | exact zv_r | apply zv_add | apply zv_sub | apply zv_or | apply zv_shl | apply zv_and)); (case h => with_reducible first | exact zp_36_4 _))
    | (with_reducible apply z_L; (case he => repeat (with_reducible first | exact zv_l _ | exact zv_r | apply zv_add | apply zv_sub | apply zv_or | apply zv_shl | apply zv_and)); (case hn => with_reducible first | assumption | exact zl_4 | exact zl_5 | exact zl_6 | exact zl_37); (case h => omega); (case hy => first | ((simp (disch := omega) only [zU_c, zU_e, zU_k, zF_c, zF_i, zF_o, zW_o, zW_i, zC_c, zC_i, zC_o]); rfl) | rfl))
    | (with_reducible apply z_5isNew; (case a1 => assumption); intro _ _ _))
    refine z_le (x := m2 36 4) (y := (i : Int)) rfl rfl (by omega) (by omega) (fun hle => ?_) (fun hle => ?_)
    · (first
    | (with_reducible apply z_nm; (case he => repeat (with_reducible first | exact zv_l _ | exact zv_r | apply zv_add | apply zv_sub | apply zv_or | apply zv_shl | apply zv_and)))
    | (with_reducible apply z_b_ck; (case h => with_unfolding_all rfl))
    | (with_reducible apply z_I; (case h => first | with_unfolding_all rfl); (case hy => first | ((simp (disch := omega) only [zU_c, zU_e, zU_k, zF_c, zF_i, zF_o, zW_o, zW_i, zC_c, zC_i, zC_o]); rfl) | rfl))
    | (with_reducible apply z_b_R; (case h => first | with_unfolding_all rfl))
    | (with_reducible apply z_PU; (case he => repeat (with_reducible first | exact zv_l _ | exact zv_r | apply zv_add | apply zv_sub | apply zv_or | apply zv_shl | apply zv_and)); (case h => with_reducible first | exact zp_36_4 _))
    | (with_reducible apply z_L; (case he => repeat (with_reducible first | exact zv_l _ | exact zv_r | apply zv_add | apply zv_sub | apply zv_or | apply zv_shl | apply zv_and)); (case hn => with_reducible first | assumption | exact zl_4 | exact zl_5 | exact zl_6 | exact zl_37); (case h => omega); (case hy => first | ((simp (disch := omega) only [zU_c, zU_e, zU_k, zF_c, zF_i, zF_o, zW_o, zW_i, zC_c, zC_i, zC_o]); rfl) | rfl))
    | (with_reducible apply z_5isNew; (case a1 => assumption); intro _ _ _))
      refine z_lt (x := m2 36 4) (y := 81) rfl (zv_l 81) (by omega) (by omega) (fun hlt => ?_) (fun hlt => by exfalso; omega)
      (first
    | (with_reducible apply z_nm; (case he => repeat (with_reducible first | exact zv_l _ | exact zv_r | apply zv_add | apply zv_sub | apply zv_or | apply zv_shl | apply zv_and)))
    | (with_reducible apply z_b_ck; (case h => with_unfolding_all rfl))
    | (with_reducible apply z_I; (case h => first | with_unfolding_all rfl); (case hy => first | ((simp (disch := omega) only [zU_c, zU_e, zU_k, zF_c, zF_i, zF_o, zW_o, zW_i, zC_c, zC_i, zC_o]); rfl) | rfl))
    | (with_reducible apply z_b_R; (case h => first | with_unfolding_all rfl))
    | (with_reducible apply z_PU; (case he => repeat (with_reducible first | exact zv_l _ | exact zv_r | apply zv_add | apply zv_sub | apply zv_or | apply zv_shl | apply zv_and)); (case h => with_reducible first | exact zp_36_4 _))
    | (with_reducible apply z_L; (case he => repeat (with_reducible first | exact zv_l _ | exact zv_r | apply zv_add | apply zv_sub | apply zv_or | apply zv_shl | apply zv_and)); (case hn => with_reducible first | assumption | exact zl_4 | exact zl_5 | exact zl_6 | exact zl_37); (case h => omega); (case hy => first | ((simp (disch := omega) only [zU_c, zU_e, zU_k, zF_c, zF_i, zF_o, zW_o, zW_i, zC_c, zC_i, zC_o]); rfl) | rfl))
    | (with_reducible apply z_5isNew; (case a1 => assumption); intro _ _ _))
      (first
    | (with_reducible apply z_nm; (case he => repeat (with_reducible first | exact zv_l _ | exact zv_r | apply zv_add | apply zv_sub | apply zv_or | apply zv_shl | apply zv_and)))
    | (with_reducible apply z_b_ck; (case h => with_unfolding_all rfl))
    | (with_reducible apply z_I; (case h => first | with_unfolding_all rfl); (case hy => first | ((simp (disch := omega) only [zU_c, zU_e, zU_k, zF_c, zF_i, zF_o, zW_o, zW_i, zC_c, zC_i, zC_o]); rfl) | rfl))
    | (with_reducible apply z_b_R; (case h => first | with_unfolding_all rfl))
    | (with_reducible apply z_PU; (case he => repeat (with_reducible first | exact zv_l _ | exact zv_r | apply zv_add | apply zv_sub | apply zv_or | apply zv_shl | apply zv_and)); (case h => with_reducible first | exact zp_36_4 _))
    | (with_reducible apply z_L; (case he => repeat (with_reducible first | exact zv_l _ | exact zv_r | apply zv_add | apply zv_sub | apply zv_or | apply zv_shl | apply zv_and)); (case hn => with_reducible first | assumption | exact zl_4 | exact zl_5 | exact zl_6 | exact zl_37); (case h => omega); (case hy => first | ((simp (disch := omega) only [zU_c, zU_e, zU_k, zF_c, zF_i, zF_o, zW_o, zW_i, zC_c, zC_i, zC_o]); rfl) | rfl))
    | (with_reducible apply z_5isNew; (case a1 => assumption); intro _ _ _))
      refine z_lS rfl (by omega) ?_
      refine z_I (y := m2 36 4) (by with_unfolding_all rfl) (zU_c (by omega)) ?_
      (first
    | (with_reducible apply z_nm; (case he => repeat (with_reducible first | exact zv_l _ | exact zv_r | apply zv_add | apply zv_sub | apply zv_or | apply zv_shl | apply zv_and)))
    | (with_reducible apply z_b_ck; (case h => with_unfolding_all rfl))
    | (with_reducible apply z_I; (case h => first | with_unfolding_all rfl); (case hy => first | ((simp (disch := omega) only [zU_c, zU_e, zU_k, zF_c, zF_i, zF_o, zW_o, zW_i, zC_c, zC_i, zC_o]); rfl) | rfl))
    | (with_reducible apply z_b_R; (case h => first | with_unfolding_all rfl))
    | (with_reducible apply z_PU; (case he => repeat (with_reducible first | exact zv_l _ | exact zv_r | apply zv_add | apply zv_sub | apply zv_or | apply zv_shl | apply zv_and)); (case h => with_reducible first | exact zp_36_4 _))
    | (with_reducible apply z_L; (case he => repeat (with_reducible first | exact zv_l _ | exact zv_r | apply zv_add | apply zv_sub | apply zv_or | apply zv_shl | apply zv_and)); (case hn => with_reducible first | assumption | exact zl_4 | exact zl_5 | exact zl_6 | exact zl_37); (case h => omega); (case hy => first | ((simp (disch := omega) only [zU_c, zU_e, zU_k, zF_c, zF_i, zF_o, zW_o, zW_i, zC_c, zC_i, zC_o]); rfl) | rfl))
    | (with_reducible apply z_5isNew; (case a1 => assumption); intro _ _ _))
      refine ⟨_, _, rfl, Or.inr ⟨fun q => ?_, rfl, ?_⟩⟩
      · obtain ⟨j, hj, e⟩ := q
        exact hno j (by omega) e
      · rw [ekey]
    · have hsi := hs i (by omega)
      (first
    | (with_reducible apply z_nm; (case he => repeat (with_reducible first | exact zv_l _ | exact zv_r | apply zv_add | apply zv_sub | apply zv_or | apply zv_shl | apply zv_and)))
    | (with_reducible apply z_b_ck; (case h => with_unfolding_all rfl))
    | (with_reducible apply z_I; (case h => first | with_unfolding_all rfl); (case hy => first | ((simp (disch := omega) only [zU_c, zU_e, zU_k, zF_c, zF_i, zF_o, zW_o, zW_i, zC_c, zC_i, zC_o]); rfl) | rfl))
    | (with_reducible apply z_b_R; (case h => first | with_unfolding_all rfl))
    | (with_reducible apply z_PU; (case he => repeat (with_reducible first | exact zv_l _ | exact zv_r | apply zv_add | apply zv_sub | apply zv_or | apply zv_shl | apply zv_and)); (case h => with_reducible first | exact zp_36_4 _))
    | (with_reducible apply z_L; (case he => repeat (with_reducible first | exact zv_l _ | exact zv_r | apply zv_add | apply zv_sub | apply zv_or | apply zv_shl | apply zv_and)); (case hn => with_reducible first | assumption | exact zl_4 | exact zl_5 | exact zl_6 | exact zl_37); (case h => omega); (case hy => first | ((simp (disch := omega) only [zU_c, zU_e, zU_k, zF_c, zF_i, zF_o, zW_o, zW_i, zC_c, zC_i, zC_o]); rfl) | rfl))
    | (with_reducible apply z_5isNew; (case a1 => assumption); intro _ _ _))
      refine z_lL rfl (by omega) ?_
      refine z_ite (fun hq => ?_) (fun hq => ?_)
      · have e : m2 39 (i : Int) = key := (zJ_inj (by omega) (by omega)).mp ((lg_cmp_eq _ _).mp hq)
        have hlt' : (i : Int) < m2 36 4 := by omega
        exact ⟨_, _, rfl, Or.inl ⟨⟨i, hlt', e⟩, rfl, rfl⟩⟩
      · repeat' (first
    | (with_reducible apply z_nm; (case he => repeat (with_reducible first | exact zv_l _ | exact zv_r | apply zv_add | apply zv_sub | apply zv_or | apply zv_shl | apply zv_and)))
    | (with_reducible apply z_b_ck; (case h => with_unfolding_all rfl))
    | (with_reducible apply z_I; (case h => first | with_unfolding_all rfl); (case hy => first | ((simp (disch := omega) only [zU_c, zU_e, zU_k, zF_c, zF_i, zF_o, zW_o, zW_i, zC_c, zC_i, zC_o]); rfl) | rfl))
    | (with_reducible apply z_b_R; (case h => first | with_unfolding_all rfl))
    | (with_reducible apply z_PU; (case he => repeat (with_reducible first | exact zv_l _ | exact zv_r | apply zv_add | apply zv_sub | apply zv_or | apply zv_shl | apply zv_and)); (case h => with_reducible first | exact zp_36_4 _))
    | (with_reducible apply z_L; (case he => repeat (with_reducible first | exact zv_l _ | exact zv_r | apply zv_add | apply zv_sub | apply zv_or | apply zv_shl | apply zv_and)); (case hn => with_reducible first | assumption | exact zl_4 | exact zl_5 | exact zl_6 | exact zl_37); (case h => omega); (case hy => first | ((simp (disch := omega) only [zU_c, zU_e, zU_k, zF_c, zF_i, zF_o, zW_o, zW_i, zC_c, zC_i, zC_o]); rfl) | rfl))
    | (with_reducible apply z_5isNew; (case a1 => assumption); intro _ _ _))
        refine hk2 _ _ _ (by omega) ⟨i + 1, rfl, by omega, rfl, rfl, fun j hj e => ?_⟩
        by_cases hji : j = i
        · subst hji
          exact hq ((lg_cmp_eq _ _).mpr (by rw [e]))
        · exact hno j (by omega) e
  · have hri := hr (i : Int) (by omega) (by omega)
    have hkr := zKy_range (f := m1 37) (n := i) (fun k hk => hr (k : Int) (by omega) (by omega))
    have hp : 64 ^ i ≤ 64 ^ 5 := Nat.pow_le_pow_right (by omega) (by omega)
    have hp5 : (64 : Nat) ^ 5 = 1073741824 := rfl
    (first
    | (with_reducible apply z_nm; (case he => repeat (with_reducible first | exact zv_l _ | exact zv_r | apply zv_add | apply zv_sub | apply zv_or | apply zv_shl | apply zv_and)))
    | (with_reducible apply z_b_ck; (case h => with_unfolding_all rfl))
    | (with_reducible apply z_I; (case h => first | with_unfolding_all rfl); (case hy => first | ((simp (disch := omega) only [zU_c, zU_e, zU_k, zF_c, zF_i, zF_o, zW_o, zW_i, zC_c, zC_i, zC_o]); rfl) | rfl))
    | (with_reducible apply z_b_R; (case h => first | with_unfolding_all rfl))
    | (with_reducible apply z_PU; (case he => repeat (with_reducible first | exact zv_l _ | exact zv_r | apply zv_add | apply zv_sub | apply zv_or | apply zv_shl | apply zv_and)); (case h => with_reducible first | exact zp_36_4 _))
    | (with_reducible apply z_L; (case he => repeat (with_reducible first | exact zv_l _ | exact zv_r | apply zv_add | apply zv_sub | apply zv_or | apply zv_shl | apply zv_and)); (case hn => with_reducible first | assumption | exact zl_4 | exact zl_5 | exact zl_6 | exact zl_37); (case h => omega); (case hy => first | ((simp (disch := omega) only [zU_c, zU_e, zU_k, zF_c, zF_i, zF_o, zW_o, zW_i, zC_c, zC_i, zC_o]); rfl) | rfl))
    | (with_reducible apply z_5isNew; (case a1 => assumption); intro _ _ _))
    (first
    | (with_reducible apply z_nm; (case he => repeat (with_reducible first | exact zv_l _ | exact zv_r | apply zv_add | apply zv_sub | apply zv_or | apply zv_shl | apply zv_and)))
    | (with_reducible apply z_b_ck; (case h => with_unfolding_all rfl))
    | (with_reducible apply z_I; (case h => first | with_unfolding_all rfl); (case hy => first | ((simp (disch := omega) only [zU_c, zU_e, zU_k, zF_c, zF_i, zF_o, zW_o, zW_i, zC_c, zC_i, zC_o]); rfl) | rfl))
    | (with_reducible apply z_b_R; (case h => first | with_unfolding_all rfl))
    | (with_reducible apply z_PU; (case he => repeat (with_reducible first | exact zv_l _ | exact zv_r | apply zv_add | apply zv_sub | apply zv_or | apply zv_shl | apply zv_and)); (case h => with_reducible first | exact zp_36_4 _))
    | (with_reducible apply z_L; (case he => repeat (with_reducible first | exact zv_l _ | exact zv_r | apply zv_add | apply zv_sub | apply zv_or | apply zv_shl | apply zv_and)); (case hn => with_reducible first | assumption | exact zl_4 | exact zl_5 | exact zl_6 | exact zl_37); (case h => omega); (case hy => first | ((simp (disch := omega) only [zU_c, zU_e, zU_k, zF_c, zF_i, zF_o, zW_o, zW_i, zC_c, zC_i, zC_o]); rfl) | rfl))
    | (with_reducible apply z_5isNew; (case a1 => assumption); intro _ _ _))
    refine z_nml ?_
    rw [zJ_step (by omega) (by omega)]
    repeat' (first
    | (with_reducible apply z_nm; (case he => repeat (with_reducible first | exact zv_l _ | exact zv_r | apply zv_add | apply zv_sub | apply zv_or | apply zv_shl | apply zv_and)))
    | (with_reducible apply z_b_ck; (case h => with_unfolding_all rfl))
    | (with_reducible apply z_I; (case h => first | with_unfolding_all rfl); (case hy => first | ((simp (disch := omega) only [zU_c, zU_e, zU_k, zF_c, zF_i, zF_o, zW_o, zW_i, zC_c, zC_i, zC_o]); rfl) | rfl))
    | (with_reducible apply z_b_R; (case h => first | with_unfolding_all rfl))
    | (with_reducible apply z_PU; (case he => repeat (with_reducible first | exact zv_l _ | exact zv_r | apply zv_add | apply zv_sub | apply zv_or | apply zv_shl | apply zv_and)); (case h => with_reducible first | exact zp_36_4 _))
    | (with_reducible apply z_L; (case he => repeat (with_reducible first | exact zv_l _ | exact zv_r | apply zv_add | apply zv_sub | apply zv_or | apply zv_shl | apply zv_and)); (case hn => with_reducible first | assumption | exact zl_4 | exact zl_5 | exact zl_6 | exact zl_37); (case h => omega); (case hy => first | ((simp (disch := omega) only [zU_c, zU_e, zU_k, zF_c, zF_i, zF_o, zW_o, zW_i, zC_c, zC_i, zC_o]); rfl) | rfl))
    | (with_reducible apply z_5isNew; (case a1 => assumption); intro _ _ _))
    exact hk _ _ _ (by omega) ⟨i + 1, rfl, by omega, rfl, rfl⟩
/-- the games that a walk goes through from i on -/
def zWlk (m : zMe) (n : Nat) (i : Int) : List (Int × Int) := zPl (fun j => m (3 + 4) (m 38 j)) (fun j => m (3 + 5) (m 38 j)) n i
def zWq (m : zMe) (i : Int) : Prop := zWf m 3 ∧ zWk m ∧ (0 ≤ i ∧ i ≤ m 36 3) ∧ (m 36 4 + ((3 ^ (m 36 3 - i).toNat : Nat) : Int) ≤ 81) ∧ (∀ u, 0 ≤ u → u < 6 → 0 ≤ m 37 u ∧ m 37 u + 3 * (m 36 3 - i) ≤ 63) ∧ ∀ j : Nat, (j : Int) < m 36 4 → 0 ≤ m 39 (j : Int) ∧ m 39 (j : Int) < 68719476736
def zWx (m m2 : zMe) : Prop := ∀ c j, ¬ c = 39 → ¬ (c = 36 ∧ j = 4) → m2 c j = m c j
def zWp (m : zMe) (i : Int) (v : Int32) (m2 : zMe) : Prop := zWx m m2 ∧ v = zI (m2 36 4 - m 36 4) ∧ (m 36 4 ≤ m2 36 4 ∧ m2 36 4 ≤ m 36 4 + ((3 ^ (m 36 3 - i).toNat : Nat) : Int)) ∧ (∀ j : Nat, (j : Int) < m2 36 4 → 0 ≤ m2 39 (j : Int) ∧ m2 39 (j : Int) < 68719476736) ∧ ∀ P, zDf (fun j => m 39 (j : Int)) (m 36 4).toNat P → zDf (fun j => m2 39 (j : Int)) (m2 36 4).toNat (fun x => P x ∨ zQk (m 3 2) (if m 3 2 = 0 then 0 else 1) (zWlk m (m 36 3 - i).toNat i) (m 37) x)
theorem zWx_Wf {m m2 : zMe} (h : zWx m m2) (hW : zWf m 3) : zWf m2 3 := zWf_S (fun c a b j => h c j (by omega) (by omega)) hW
set_option maxRecDepth 100000 in
set_option maxHeartbeats 2000000 in
theorem s5_fromE {m : zMe} {i : Int} (h : zWq m i) : zOk (f_X5_fromN 12 36 (zI i) 3 (zM m)) (zWp m i) := by
  have h9 := h.2.1.1
  refine z_lp (fun n v m1 => ∃ i : Int, v = (36, zI i, 3) ∧ n = (m1 36 3 - i).toNat ∧ zWq m1 i) (fun v m1 a m2 => ∀ i : Int, v = (36, zI i, 3) → (0 ≤ i ∧ i ≤ 9) → zWp m1 i a m2) ?_ 12 (m 36 3 - i).toNat (36, zI i, 3) m (by have := h.2.2.1; omega) ⟨i, rfl, rfl, h⟩ |>.mono (fun v m' q => q i rfl (by have := h.2.2.1; omega))
  clear h9 h i m
  rintro n v m k ⟨i, rfl, rfl, h⟩ hrec
  obtain ⟨hW, hk, hi, h81, hrow, hseen⟩ := id h
  have hS := hk.1
  have hkn := hk.2.1
  have hK := hW.1.2.2
  have hN := hW.1.2.1
  suffices hgoal : zOk (f_X5_fromN_r k 36 (zI i) 3 (zM m)) (zWp m i) from hgoal.mono (fun a m2 q i' e' hi' => by
    have e : i' = i := by
      have e1 : (zI i, 3) = (zI i', 3) := (Prod.mk.inj e').2
      have e'' : zI i = zI i' := (Prod.mk.inj e1).1
      exact ((zI_inj (by omega) (by omega)).mp e'').symm
    subst e
    exact q)
  unfold f_X5_fromN_r
  (first
    | (with_reducible apply z_nm; (case he => repeat (with_reducible first | exact zv_l _ | exact zv_r | apply zv_add | apply zv_sub | apply zv_mul | apply zv_neg)))
    | (with_reducible apply z_b_ck; (case h => with_unfolding_all rfl))
    | (with_reducible apply z_I; (case h => first | with_unfolding_all rfl); (case hy => first | ((simp (disch := omega) only [zU_c, zU_e, zU_k, zF_c, zF_i, zF_o, zW_o, zW_i, zC_c, zC_i, zC_o]); rfl) | rfl))
    | (with_reducible apply z_b_R; (case h => first | with_unfolding_all rfl))
    | (with_reducible apply z_L; (case he => repeat (with_reducible first | exact zv_l _ | exact zv_r | apply zv_add | apply zv_sub | apply zv_mul | apply zv_neg)); (case hn => with_reducible first | assumption | exact zl_2 | exact zl_4 | exact zl_5 | exact zl_6 | exact zl_9 | exact zl_12 | exact zl_37 | exact zl_38); (case h => omega); (case hy => first | ((simp (disch := omega) only [zU_c, zU_e, zU_k, zF_c, zF_i, zF_o, zW_o, zW_i, zC_c, zC_i, zC_o]); rfl) | rfl))
    | (with_reducible apply z_0firstResult; (case a1 => assumption); (case r1 => first | omega | ((simp (disch := omega) only [zU_c, zU_e, zU_k, zF_c, zF_i, zF_o, zW_o, zW_i, zC_c, zC_i, zC_o]); omega)))
    | (with_reducible apply z_0award; (case a1 => assumption); (case a2 => assumption); (case r7 => first | omega | ((simp (disch := omega) only [zU_c, zU_e, zU_k, zF_c, zF_i, zF_o, zW_o, zW_i, zC_c, zC_i, zC_o]); omega)); (case e1 => repeat (with_reducible first | exact zv_l _ | exact zv_r | apply zv_add | apply zv_sub | apply zv_mul | apply zv_neg)); (case e2 => repeat (with_reducible first | exact zv_l _ | exact zv_r | apply zv_add | apply zv_sub | apply zv_mul | apply zv_neg)); (case e3 => repeat (with_reducible first | exact zv_l _ | exact zv_r | apply zv_add | apply zv_sub | apply zv_mul | apply zv_neg)); (case r1 => first | omega | ((simp (disch := omega) only [zU_c, zU_e, zU_k, zF_c, zF_i, zF_o, zW_o, zW_i, zC_c, zC_i, zC_o]); omega)); (case r2 => first | omega | ((simp (disch := omega) only [zU_c, zU_e, zU_k, zF_c, zF_i, zF_o, zW_o, zW_i, zC_c, zC_i, zC_o]); omega)); (case r3 => first | omega | ((simp (disch := omega) only [zU_c, zU_e, zU_k, zF_c, zF_i, zF_o, zW_o, zW_i, zC_c, zC_i, zC_o]); omega)); (case r4 => first | omega | ((simp (disch := omega) only [zU_c, zU_e, zU_k, zF_c, zF_i, zF_o, zW_o, zW_i, zC_c, zC_i, zC_o]); omega)); (case r5 => first | omega | ((simp (disch := omega) only [zU_c, zU_e, zU_k, zF_c, zF_i, zF_o, zW_o, zW_i, zC_c, zC_i, zC_o]); omega)); (case r6 => first | omega | ((simp (disch := omega) only [zU_c, zU_e, zU_k, zF_c, zF_i, zF_o, zW_o, zW_i, zC_c, zC_i, zC_o]); omega)))
    | (with_reducible apply z_5isNew; (case a1 => assumption); intro _ _ _))
  (first
    | (with_reducible apply z_nm; (case he => repeat (with_reducible first | exact zv_l _ | exact zv_r | apply zv_add | apply zv_sub | apply zv_mul | apply zv_neg)))
    | (with_reducible apply z_b_ck; (case h => with_unfolding_all rfl))
    | (with_reducible apply z_I; (case h => first | with_unfolding_all rfl); (case hy => first | ((simp (disch := omega) only [zU_c, zU_e, zU_k, zF_c, zF_i, zF_o, zW_o, zW_i, zC_c, zC_i, zC_o]); rfl) | rfl))
    | (with_reducible apply z_b_R; (case h => first | with_unfolding_all rfl))
    | (with_reducible apply z_L; (case he => repeat (with_reducible first | exact zv_l _ | exact zv_r | apply zv_add | apply zv_sub | apply zv_mul | apply zv_neg)); (case hn => with_reducible first | assumption | exact zl_2 | exact zl_4 | exact zl_5 | exact zl_6 | exact zl_9 | exact zl_12 | exact zl_37 | exact zl_38); (case h => omega); (case hy => first | ((simp (disch := omega) only [zU_c, zU_e, zU_k, zF_c, zF_i, zF_o, zW_o, zW_i, zC_c, zC_i, zC_o]); rfl) | rfl))
    | (with_reducible apply z_0firstResult; (case a1 => assumption); (case r1 => first | omega | ((simp (disch := omega) only [zU_c, zU_e, zU_k, zF_c, zF_i, zF_o, zW_o, zW_i, zC_c, zC_i, zC_o]); omega)))
    | (with_reducible apply z_0award; (case a1 => assumption); (case a2 => assumption); (case r7 => first | omega | ((simp (disch := omega) only [zU_c, zU_e, zU_k, zF_c, zF_i, zF_o, zW_o, zW_i, zC_c, zC_i, zC_o]); omega)); (case e1 => repeat (with_reducible first | exact zv_l _ | exact zv_r | apply zv_add | apply zv_sub | apply zv_mul | apply zv_neg)); (case e2 => repeat (with_reducible first | exact zv_l _ | exact zv_r | apply zv_add | apply zv_sub | apply zv_mul | apply zv_neg)); (case e3 => repeat (with_reducible first | exact zv_l _ | exact zv_r | apply zv_add | apply zv_sub | apply zv_mul | apply zv_neg)); (case r1 => first | omega | ((simp (disch := omega) only [zU_c, zU_e, zU_k, zF_c, zF_i, zF_o, zW_o, zW_i, zC_c, zC_i, zC_o]); omega)); (case r2 => first | omega | ((simp (disch := omega) only [zU_c, zU_e, zU_k, zF_c, zF_i, zF_o, zW_o, zW_i, zC_c, zC_i, zC_o]); omega)); (case r3 => first | omega | ((simp (disch := omega) only [zU_c, zU_e, zU_k, zF_c, zF_i, zF_o, zW_o, zW_i, zC_c, zC_i, zC_o]); omega)); (case r4 => first | omega | ((simp (disch := omega) only [zU_c, zU_e, zU_k, zF_c, zF_i, zF_o, zW_o, zW_i, zC_c, zC_i, zC_o]); omega)); (case r5 => first | omega | ((simp (disch := omega) only [zU_c, zU_e, zU_k, zF_c, zF_i, zF_o, zW_o, zW_i, zC_c, zC_i, zC_o]); omega)); (case r6 => first | omega | ((simp (disch := omega) only [zU_c, zU_e, zU_k, zF_c, zF_i, zF_o, zW_o, zW_i, zC_c, zC_i, zC_o]); omega)))
    | (with_reducible apply z_5isNew; (case a1 => assumption); intro _ _ _))
  refine z_lt (x := i) (y := m 36 3) rfl rfl (by omega) (by omega) (fun hlt => ?_) (fun hlt => ?_)
  · obtain ⟨n', en⟩ : ∃ n', (m 36 3 - i).toNat = n' + 1 := ⟨(m 36 3 - i).toNat - 1, by omega⟩
    have en2 : (m 36 3 - (i + 1)).toNat = n' := by omega
    have ep : (3 ^ (n' + 1) : Nat) = 3 * 3 ^ n' := by rw [Nat.pow_succ]; omega
    have h38 := hk.2.2 i hi.1 hlt
    have hg := zWf_g hW (m 38 i) h38.1 h38.2
    unfold zWp
    rw [en, ep] at h81 ⊢
    have hpp : 0 < 3 ^ n' := Nat.pow_pos (by omega)
    generalize hPd : 3 ^ n' = P3 at h81 hpp ⊢
    have eL : zWlk m (n' + 1) i = (m (3 + 4) (m 38 i), m (3 + 5) (m 38 i)) :: zWlk m n' (i + 1) := rfl
    rw [eL]
    refine z_0firstResult (r := 3) (Or.inl rfl) hK ?_
    generalize hfrd : (if m 3 2 = 0 then (1 : Int) else 0) = fr
    have hfr : 0 ≤ fr ∧ fr ≤ 1 := by
      rw [← hfrd]
      split <;> omega
    generalize hdd : (if m 3 2 = 0 then (0 : Int) else 1) = d
    have hox : ∀ y, zOx d y ↔ fr ≤ y ∧ y < 3 := fun y => by
      unfold zOx
      rw [← hfrd, ← hdd]
      by_cases hk0 : m 3 2 = 0
      · rw [if_pos hk0, if_pos hk0]
        omega
      · rw [if_neg hk0, if_neg hk0]
        omega
    refine z_lp (fun n v m1 => ∃ res : Int, v = (36, zI i, 3, zI (m1 36 4 - m 36 4), zI res) ∧ fr ≤ res ∧ res ≤ 3 ∧ n = (3 - res).toNat ∧ zWx m m1 ∧ (m 36 4 ≤ m1 36 4 ∧ ((res = 0 ∧ m1 36 4 ≤ m 36 4) ∨ (res = 1 ∧ m1 36 4 ≤ m 36 4 + P3) ∨ (res = 2 ∧ m1 36 4 ≤ m 36 4 + 2 * P3) ∨ (res = 3 ∧ m1 36 4 ≤ m 36 4 + 3 * P3))) ∧ (∀ j : Nat, (j : Int) < m1 36 4 → 0 ≤ m1 39 (j : Int) ∧ m1 39 (j : Int) < 68719476736) ∧ ∀ P, zDf (fun j => m 39 (j : Int)) (m 36 4).toNat P → zDf (fun j => m1 39 (j : Int)) (m1 36 4).toNat (fun x => P x ∨ ∃ y, (fr ≤ y ∧ y < res) ∧ zQk (m 3 2) d (zWlk m n' (i + 1)) (fun u => m 37 u + zGn (m 3 2) (m (3 + 4) (m 38 i)) (m (3 + 5) (m 38 i)) y u) x)) (fun _ _ v m2 => zWx m m2 ∧ v = zI (m2 36 4 - m 36 4) ∧ (m 36 4 ≤ m2 36 4 ∧ m2 36 4 ≤ m 36 4 + ((3 * P3 : Nat) : Int)) ∧ (∀ j : Nat, (j : Int) < m2 36 4 → 0 ≤ m2 39 (j : Int) ∧ m2 39 (j : Int) < 68719476736) ∧ ∀ P, zDf (fun j => m 39 (j : Int)) (m 36 4).toNat P → zDf (fun j => m2 39 (j : Int)) (m2 36 4).toNat (fun x => P x ∨ zQk (m 3 2) d ((m (3 + 4) (m 38 i), m (3 + 5) (m 38 i)) :: zWlk m n' (i + 1)) (m 37) x)) ?_ 600 (3 - fr).toNat _ _ (by omega) ⟨fr, by rw [Int.sub_self]; rfl, by omega, by omega, rfl, fun _ _ _ _ => rfl, by omega, hseen, fun P hP => zDf_iff (fun x => ⟨fun q => Or.inl q, fun q => q.elim id (fun w => by obtain ⟨y, hy, -⟩ := w; exfalso; omega)⟩) hP⟩
    rintro n v m1 k2 ⟨res, rfl, r0, r1, rfl, hX, hcnt, hsn, hdf⟩ hk2
    have hW1 := zWx_Wf hX hW
    unfold f_X5_fromN_45
    dsimp only
    refine z_lt (x := 2) (y := res) (zv_l 2) rfl (by omega) (by omega) (fun h2 => ?_) (fun h2 => ?_)
    · have : res = 3 := by omega
      subst this
      refine ⟨_, _, rfl, hX, rfl, ⟨hcnt.1, by omega⟩, hsn, fun P hP => zDf_iff (fun x => ?_) (hdf P hP)⟩
      rw [zQk_c]
      simp only [hox]
    · have e36 : m1 36 3 = m 36 3 := hX 36 3 (by omega) (by omega)
      have e38 : ∀ j, m1 38 j = m 38 j := fun j => hX 38 j (by omega) (by omega)
      have e7 : ∀ j, m1 (3 + 4) j = m (3 + 4) j := fun j => hX _ j (by omega) (by omega)
      have e8 : ∀ j, m1 (3 + 5) j = m (3 + 5) j := fun j => hX _ j (by omega) (by omega)
      have e3 : ∀ j, m1 3 j = m 3 j := fun j => hX 3 j (by omega) (by omega)
      have e37 : ∀ j, m1 37 j = m 37 j := fun j => hX 37 j (by omega) (by omega)
      have hgr : ∀ u, 0 ≤ zGm m1 3 (m 38 i) res u ∧ zGm m1 3 (m 38 i) res u ≤ 3 := fun u => by
        unfold zGm
        rw [e3, e7, e8]
        have q1 := zGn_0 (o := m (3 + 4) (m 38 i)) (p := m (3 + 5) (m 38 i)) (x := res) (u := u) hK
        have q2 := zGn_le (x := res) (u := u) hK hg.2.2.2
        split at q2 <;> omega
      (first
    | (with_reducible apply z_nm; (case he => repeat (with_reducible first | exact zv_l _ | exact zv_r | apply zv_add | apply zv_sub | apply zv_mul | apply zv_neg)))
    | (with_reducible apply z_b_ck; (case h => with_unfolding_all rfl))
    | (with_reducible apply z_I; (case h => first | with_unfolding_all rfl); (case hy => first | ((simp (disch := omega) only [zU_c, zU_e, zU_k, zF_c, zF_i, zF_o, zW_o, zW_i, zC_c, zC_i, zC_o]); rfl) | rfl))
    | (with_reducible apply z_b_R; (case h => first | with_unfolding_all rfl))
    | (with_reducible apply z_L; (case he => repeat (with_reducible first | exact zv_l _ | exact zv_r | apply zv_add | apply zv_sub | apply zv_mul | apply zv_neg)); (case hn => with_reducible first | assumption | exact zl_2 | exact zl_4 | exact zl_5 | exact zl_6 | exact zl_9 | exact zl_12 | exact zl_37 | exact zl_38); (case h => omega); (case hy => first | ((simp (disch := omega) only [zU_c, zU_e, zU_k, zF_c, zF_i, zF_o, zW_o, zW_i, zC_c, zC_i, zC_o]); rfl) | rfl))
    | (with_reducible apply z_0firstResult; (case a1 => assumption); (case r1 => first | omega | ((simp (disch := omega) only [zU_c, zU_e, zU_k, zF_c, zF_i, zF_o, zW_o, zW_i, zC_c, zC_i, zC_o]); omega)))
    | (with_reducible apply z_0award; (case a1 => assumption); (case a2 => assumption); (case r7 => first | omega | ((simp (disch := omega) only [zU_c, zU_e, zU_k, zF_c, zF_i, zF_o, zW_o, zW_i, zC_c, zC_i, zC_o]); omega)); (case e1 => repeat (with_reducible first | exact zv_l _ | exact zv_r | apply zv_add | apply zv_sub | apply zv_mul | apply zv_neg)); (case e2 => repeat (with_reducible first | exact zv_l _ | exact zv_r | apply zv_add | apply zv_sub | apply zv_mul | apply zv_neg)); (case e3 => repeat (with_reducible first | exact zv_l _ | exact zv_r | apply zv_add | apply zv_sub | apply zv_mul | apply zv_neg)); (case r1 => first | omega | ((simp (disch := omega) only [zU_c, zU_e, zU_k, zF_c, zF_i, zF_o, zW_o, zW_i, zC_c, zC_i, zC_o]); omega)); (case r2 => first | omega | ((simp (disch := omega) only [zU_c, zU_e, zU_k, zF_c, zF_i, zF_o, zW_o, zW_i, zC_c, zC_i, zC_o]); omega)); (case r3 => first | omega | ((simp (disch := omega) only [zU_c, zU_e, zU_k, zF_c, zF_i, zF_o, zW_o, zW_i, zC_c, zC_i, zC_o]); omega)); (case r4 => first | omega | ((simp (disch := omega) only [zU_c, zU_e, zU_k, zF_c, zF_i, zF_o, zW_o, zW_i, zC_c, zC_i, zC_o]); omega)); (case r5 => first | omega | ((simp (disch := omega) only [zU_c, zU_e, zU_k, zF_c, zF_i, zF_o, zW_o, zW_i, zC_c, zC_i, zC_o]); omega)); (case r6 => first | omega | ((simp (disch := omega) only [zU_c, zU_e, zU_k, zF_c, zF_i, zF_o, zW_o, zW_i, zC_c, zC_i, zC_o]); omega)))
    | (with_reducible apply z_5isNew; (case a1 => assumption); intro _ _ _))
      (first
    | (with_reducible apply z_nm; (case he => repeat (with_reducible first | exact zv_l _ | exact zv_r | apply zv_add | apply zv_sub | apply zv_mul | apply zv_neg)))
    | (with_reducible apply z_b_ck; (case h => with_unfolding_all rfl))
    | (with_reducible apply z_I; (case h => first | with_unfolding_all rfl); (case hy => first | ((simp (disch := omega) only [zU_c, zU_e, zU_k, zF_c, zF_i, zF_o, zW_o, zW_i, zC_c, zC_i, zC_o]); rfl) | rfl))
    | (with_reducible apply z_b_R; (case h => first | with_unfolding_all rfl))
    | (with_reducible apply z_L; (case he => repeat (with_reducible first | exact zv_l _ | exact zv_r | apply zv_add | apply zv_sub | apply zv_mul | apply zv_neg)); (case hn => with_reducible first | assumption | exact zl_2 | exact zl_4 | exact zl_5 | exact zl_6 | exact zl_9 | exact zl_12 | exact zl_37 | exact zl_38); (case h => omega); (case hy => first | ((simp (disch := omega) only [zU_c, zU_e, zU_k, zF_c, zF_i, zF_o, zW_o, zW_i, zC_c, zC_i, zC_o]); rfl) | rfl))
    | (with_reducible apply z_0firstResult; (case a1 => assumption); (case r1 => first | omega | ((simp (disch := omega) only [zU_c, zU_e, zU_k, zF_c, zF_i, zF_o, zW_o, zW_i, zC_c, zC_i, zC_o]); omega)))
    | (with_reducible apply z_0award; (case a1 => assumption); (case a2 => assumption); (case r7 => first | omega | ((simp (disch := omega) only [zU_c, zU_e, zU_k, zF_c, zF_i, zF_o, zW_o, zW_i, zC_c, zC_i, zC_o]); omega)); (case e1 => repeat (with_reducible first | exact zv_l _ | exact zv_r | apply zv_add | apply zv_sub | apply zv_mul | apply zv_neg)); (case e2 => repeat (with_reducible first | exact zv_l _ | exact zv_r | apply zv_add | apply zv_sub | apply zv_mul | apply zv_neg)); (case e3 => repeat (with_reducible first | exact zv_l _ | exact zv_r | apply zv_add | apply zv_sub | apply zv_mul | apply zv_neg)); (case r1 => first | omega | ((simp (disch := omega) only [zU_c, zU_e, zU_k, zF_c, zF_i, zF_o, zW_o, zW_i, zC_c, zC_i, zC_o]); omega)); (case r2 => first | omega | ((simp (disch := omega) only [zU_c, zU_e, zU_k, zF_c, zF_i, zF_o, zW_o, zW_i, zC_c, zC_i, zC_o]); omega)); (case r3 => first | omega | ((simp (disch := omega) only [zU_c, zU_e, zU_k, zF_c, zF_i, zF_o, zW_o, zW_i, zC_c, zC_i, zC_o]); omega)); (case r4 => first | omega | ((simp (disch := omega) only [zU_c, zU_e, zU_k, zF_c, zF_i, zF_o, zW_o, zW_i, zC_c, zC_i, zC_o]); omega)); (case r5 => first | omega | ((simp (disch := omega) only [zU_c, zU_e, zU_k, zF_c, zF_i, zF_o, zW_o, zW_i, zC_c, zC_i, zC_o]); omega)); (case r6 => first | omega | ((simp (disch := omega) only [zU_c, zU_e, zU_k, zF_c, zF_i, zF_o, zW_o, zW_i, zC_c, zC_i, zC_o]); omega)))
    | (with_reducible apply z_5isNew; (case a1 => assumption); intro _ _ _))
      refine z_L (y := m 38 i) rfl zl_38 (by omega) (e38 i) ?_
      refine z_0award (r := 3) (Or.inl rfl) zl_37 (by omega) rfl rfl (zv_l 1) (by omega) (by omega) (by rw [e7]; exact hg.2.1) (by rw [e8]; exact hg.2.2.1) (by rw [e7, e8]; exact hg.2.2.2) (by rw [e3]; exact hK) ?_
      generalize hm2 : zAw m1 37 (fun t => zGm m1 3 (m 38 i) res t * 1) = m2
      have f2 : ∀ c j, ¬ c = 37 → m2 c j = m1 c j := fun c j hc => by rw [← hm2, zAw_c hc]
      have f37 : ∀ j, m2 37 j = m 37 j + zGm m1 3 (m 38 i) res j := fun j => by rw [← hm2, zAw_q, e37, Int.mul_one]
      have hWf2 : zWf m2 3 := zWf_S (fun c a b j => f2 c j (by omega)) hW1
      have hq2 : zWq m2 (i + 1) := by
        refine ⟨hWf2, ⟨by rw [f2 36 3 (by omega), e36]; exact hS, by rw [f2 36 4 (by omega)]; omega, fun j j0 j1 => ?_⟩, by rw [f2 36 3 (by omega), e36]; omega, ?_, fun u u0 u1 => ?_, fun j hj => ?_⟩
        · rw [f2 36 3 (by omega), e36] at j1
          rw [f2 38 j (by omega), f2 3 1 (by omega), e38, e3]
          exact hk.2.2 j j0 j1
        · rw [f2 36 4 (by omega), f2 36 3 (by omega), e36, en2, hPd]
          omega
        · have q1 := hrow u u0 u1
          have q2 := hgr u
          rw [f37, f2 36 3 (by omega), e36]
          omega
        · rw [f2 36 4 (by omega)] at hj
          rw [f2 39 (j : Int) (by omega)]
          exact hsn j hj
      (first
    | (with_reducible apply z_nm; (case he => repeat (with_reducible first | exact zv_l _ | exact zv_r | apply zv_add | apply zv_sub | apply zv_mul | apply zv_neg)))
    | (with_reducible apply z_b_ck; (case h => with_unfolding_all rfl))
    | (with_reducible apply z_I; (case h => first | with_unfolding_all rfl); (case hy => first | ((simp (disch := omega) only [zU_c, zU_e, zU_k, zF_c, zF_i, zF_o, zW_o, zW_i, zC_c, zC_i, zC_o]); rfl) | rfl))
    | (with_reducible apply z_b_R; (case h => first | with_unfolding_all rfl))
    | (with_reducible apply z_L; (case he => repeat (with_reducible first | exact zv_l _ | exact zv_r | apply zv_add | apply zv_sub | apply zv_mul | apply zv_neg)); (case hn => with_reducible first | assumption | exact zl_2 | exact zl_4 | exact zl_5 | exact zl_6 | exact zl_9 | exact zl_12 | exact zl_37 | exact zl_38); (case h => omega); (case hy => first | ((simp (disch := omega) only [zU_c, zU_e, zU_k, zF_c, zF_i, zF_o, zW_o, zW_i, zC_c, zC_i, zC_o]); rfl) | rfl))
    | (with_reducible apply z_0firstResult; (case a1 => assumption); (case r1 => first | omega | ((simp (disch := omega) only [zU_c, zU_e, zU_k, zF_c, zF_i, zF_o, zW_o, zW_i, zC_c, zC_i, zC_o]); omega)))
    | (with_reducible apply z_0award; (case a1 => assumption); (case a2 => assumption); (case r7 => first | omega | ((simp (disch := omega) only [zU_c, zU_e, zU_k, zF_c, zF_i, zF_o, zW_o, zW_i, zC_c, zC_i, zC_o]); omega)); (case e1 => repeat (with_reducible first | exact zv_l _ | exact zv_r | apply zv_add | apply zv_sub | apply zv_mul | apply zv_neg)); (case e2 => repeat (with_reducible first | exact zv_l _ | exact zv_r | apply zv_add | apply zv_sub | apply zv_mul | apply zv_neg)); (case e3 => repeat (with_reducible first | exact zv_l _ | exact zv_r | apply zv_add | apply zv_sub | apply zv_mul | apply zv_neg)); (case r1 => first | omega | ((simp (disch := omega) only [zU_c, zU_e, zU_k, zF_c, zF_i, zF_o, zW_o, zW_i, zC_c, zC_i, zC_o]); omega)); (case r2 => first | omega | ((simp (disch := omega) only [zU_c, zU_e, zU_k, zF_c, zF_i, zF_o, zW_o, zW_i, zC_c, zC_i, zC_o]); omega)); (case r3 => first | omega | ((simp (disch := omega) only [zU_c, zU_e, zU_k, zF_c, zF_i, zF_o, zW_o, zW_i, zC_c, zC_i, zC_o]); omega)); (case r4 => first | omega | ((simp (disch := omega) only [zU_c, zU_e, zU_k, zF_c, zF_i, zF_o, zW_o, zW_i, zC_c, zC_i, zC_o]); omega)); (case r5 => first | omega | ((simp (disch := omega) only [zU_c, zU_e, zU_k, zF_c, zF_i, zF_o, zW_o, zW_i, zC_c, zC_i, zC_o]); omega)); (case r6 => first | omega | ((simp (disch := omega) only [zU_c, zU_e, zU_k, zF_c, zF_i, zF_o, zW_o, zW_i, zC_c, zC_i, zC_o]); omega)))
    | (with_reducible apply z_5isNew; (case a1 => assumption); intro _ _ _))
      rw [show zI i + 1 = zI (i + 1) from zv_add rfl (zv_l 1)]
      refine z_call (hrec (m2 36 3 - (i + 1)).toNat (36, zI (i + 1), 3) m2 (by rw [f2 36 3 (by omega), e36]; omega) ⟨i + 1, rfl, rfl, hq2⟩) (fun v m3 hv => ?_)
      obtain ⟨hX3, rfl, hc3, hs3, hd3⟩ := hv (i + 1) rfl (by omega)
      rw [f2 36 3 (by omega), e36, en2, hPd, f2 36 4 (by omega)] at hc3
      have f336 : m3 36 3 = m 36 3 := by rw [hX3 36 3 (by omega) (by omega), f2 36 3 (by omega), e36]
      have f3 : ∀ c j, ¬ c = 37 → ¬ c = 39 → ¬ (c = 36 ∧ j = 4) → m3 c j = m c j := fun c j a b c' => by rw [hX3 c j b c', f2 c j a, hX c j b c']
      have f337 : ∀ j, m3 37 j = m 37 j + zGm m1 3 (m 38 i) res j := fun j => by rw [hX3 37 j (by omega) (by omega), f37]
      refine z_nm (x := m3 36 4 - m 36 4) ?_ ?_
      · rw [f2 36 4 (by omega)]
        exact (zv_add rfl rfl).trans (by rw [show m1 36 4 - m 36 4 + (m3 36 4 - m1 36 4) = m3 36 4 - m 36 4 by omega])
      (first
    | (with_reducible apply z_nm; (case he => repeat (with_reducible first | exact zv_l _ | exact zv_r | apply zv_add | apply zv_sub | apply zv_mul | apply zv_neg)))
    | (with_reducible apply z_b_ck; (case h => with_unfolding_all rfl))
    | (with_reducible apply z_I; (case h => first | with_unfolding_all rfl); (case hy => first | ((simp (disch := omega) only [zU_c, zU_e, zU_k, zF_c, zF_i, zF_o, zW_o, zW_i, zC_c, zC_i, zC_o]); rfl) | rfl))
    | (with_reducible apply z_b_R; (case h => first | with_unfolding_all rfl))
    | (with_reducible apply z_L; (case he => repeat (with_reducible first | exact zv_l _ | exact zv_r | apply zv_add | apply zv_sub | apply zv_mul | apply zv_neg)); (case hn => with_reducible first | assumption | exact zl_2 | exact zl_4 | exact zl_5 | exact zl_6 | exact zl_9 | exact zl_12 | exact zl_37 | exact zl_38); (case h => omega); (case hy => first | ((simp (disch := omega) only [zU_c, zU_e, zU_k, zF_c, zF_i, zF_o, zW_o, zW_i, zC_c, zC_i, zC_o]); rfl) | rfl))
    | (with_reducible apply z_0firstResult; (case a1 => assumption); (case r1 => first | omega | ((simp (disch := omega) only [zU_c, zU_e, zU_k, zF_c, zF_i, zF_o, zW_o, zW_i, zC_c, zC_i, zC_o]); omega)))
    | (with_reducible apply z_0award; (case a1 => assumption); (case a2 => assumption); (case r7 => first | omega | ((simp (disch := omega) only [zU_c, zU_e, zU_k, zF_c, zF_i, zF_o, zW_o, zW_i, zC_c, zC_i, zC_o]); omega)); (case e1 => repeat (with_reducible first | exact zv_l _ | exact zv_r | apply zv_add | apply zv_sub | apply zv_mul | apply zv_neg)); (case e2 => repeat (with_reducible first | exact zv_l _ | exact zv_r | apply zv_add | apply zv_sub | apply zv_mul | apply zv_neg)); (case e3 => repeat (with_reducible first | exact zv_l _ | exact zv_r | apply zv_add | apply zv_sub | apply zv_mul | apply zv_neg)); (case r1 => first | omega | ((simp (disch := omega) only [zU_c, zU_e, zU_k, zF_c, zF_i, zF_o, zW_o, zW_i, zC_c, zC_i, zC_o]); omega)); (case r2 => first | omega | ((simp (disch := omega) only [zU_c, zU_e, zU_k, zF_c, zF_i, zF_o, zW_o, zW_i, zC_c, zC_i, zC_o]); omega)); (case r3 => first | omega | ((simp (disch := omega) only [zU_c, zU_e, zU_k, zF_c, zF_i, zF_o, zW_o, zW_i, zC_c, zC_i, zC_o]); omega)); (case r4 => first | omega | ((simp (disch := omega) only [zU_c, zU_e, zU_k, zF_c, zF_i, zF_o, zW_o, zW_i, zC_c, zC_i, zC_o]); omega)); (case r5 => first | omega | ((simp (disch := omega) only [zU_c, zU_e, zU_k, zF_c, zF_i, zF_o, zW_o, zW_i, zC_c, zC_i, zC_o]); omega)); (case r6 => first | omega | ((simp (disch := omega) only [zU_c, zU_e, zU_k, zF_c, zF_i, zF_o, zW_o, zW_i, zC_c, zC_i, zC_o]); omega)))
    | (with_reducible apply z_5isNew; (case a1 => assumption); intro _ _ _))
      (first
    | (with_reducible apply z_nm; (case he => repeat (with_reducible first | exact zv_l _ | exact zv_r | apply zv_add | apply zv_sub | apply zv_mul | apply zv_neg)))
    | (with_reducible apply z_b_ck; (case h => with_unfolding_all rfl))
    | (with_reducible apply z_I; (case h => first | with_unfolding_all rfl); (case hy => first | ((simp (disch := omega) only [zU_c, zU_e, zU_k, zF_c, zF_i, zF_o, zW_o, zW_i, zC_c, zC_i, zC_o]); rfl) | rfl))
    | (with_reducible apply z_b_R; (case h => first | with_unfolding_all rfl))
    | (with_reducible apply z_L; (case he => repeat (with_reducible first | exact zv_l _ | exact zv_r | apply zv_add | apply zv_sub | apply zv_mul | apply zv_neg)); (case hn => with_reducible first | assumption | exact zl_2 | exact zl_4 | exact zl_5 | exact zl_6 | exact zl_9 | exact zl_12 | exact zl_37 | exact zl_38); (case h => omega); (case hy => first | ((simp (disch := omega) only [zU_c, zU_e, zU_k, zF_c, zF_i, zF_o, zW_o, zW_i, zC_c, zC_i, zC_o]); rfl) | rfl))
    | (with_reducible apply z_0firstResult; (case a1 => assumption); (case r1 => first | omega | ((simp (disch := omega) only [zU_c, zU_e, zU_k, zF_c, zF_i, zF_o, zW_o, zW_i, zC_c, zC_i, zC_o]); omega)))
    | (with_reducible apply z_0award; (case a1 => assumption); (case a2 => assumption); (case r7 => first | omega | ((simp (disch := omega) only [zU_c, zU_e, zU_k, zF_c, zF_i, zF_o, zW_o, zW_i, zC_c, zC_i, zC_o]); omega)); (case e1 => repeat (with_reducible first | exact zv_l _ | exact zv_r | apply zv_add | apply zv_sub | apply zv_mul | apply zv_neg)); (case e2 => repeat (with_reducible first | exact zv_l _ | exact zv_r | apply zv_add | apply zv_sub | apply zv_mul | apply zv_neg)); (case e3 => repeat (with_reducible first | exact zv_l _ | exact zv_r | apply zv_add | apply zv_sub | apply zv_mul | apply zv_neg)); (case r1 => first | omega | ((simp (disch := omega) only [zU_c, zU_e, zU_k, zF_c, zF_i, zF_o, zW_o, zW_i, zC_c, zC_i, zC_o]); omega)); (case r2 => first | omega | ((simp (disch := omega) only [zU_c, zU_e, zU_k, zF_c, zF_i, zF_o, zW_o, zW_i, zC_c, zC_i, zC_o]); omega)); (case r3 => first | omega | ((simp (disch := omega) only [zU_c, zU_e, zU_k, zF_c, zF_i, zF_o, zW_o, zW_i, zC_c, zC_i, zC_o]); omega)); (case r4 => first | omega | ((simp (disch := omega) only [zU_c, zU_e, zU_k, zF_c, zF_i, zF_o, zW_o, zW_i, zC_c, zC_i, zC_o]); omega)); (case r5 => first | omega | ((simp (disch := omega) only [zU_c, zU_e, zU_k, zF_c, zF_i, zF_o, zW_o, zW_i, zC_c, zC_i, zC_o]); omega)); (case r6 => first | omega | ((simp (disch := omega) only [zU_c, zU_e, zU_k, zF_c, zF_i, zF_o, zW_o, zW_i, zC_c, zC_i, zC_o]); omega)))
    | (with_reducible apply z_5isNew; (case a1 => assumption); intro _ _ _))
      refine z_L (y := m 38 i) rfl zl_38 (by omega) (f3 38 i (by omega) (by omega) (by omega)) ?_
      refine z_0award (r := 3) (Or.inl rfl) zl_37 (by omega) rfl rfl (show (-1 : Int32) = zI (-1) from rfl) (by omega) (by omega) (by rw [f3 (3 + 4) _ (by omega) (by omega) (by omega)]; exact hg.2.1) (by rw [f3 (3 + 5) _ (by omega) (by omega) (by omega)]; exact hg.2.2.1) (by rw [f3 (3 + 4) _ (by omega) (by omega) (by omega), f3 (3 + 5) _ (by omega) (by omega) (by omega)]; exact hg.2.2.2) (by rw [f3 3 2 (by omega) (by omega) (by omega)]; exact hK) ?_
      have eGm : ∀ j, zGm m3 3 (m 38 i) res j = zGm m1 3 (m 38 i) res j := fun j => by
        unfold zGm
        rw [e3, e7, e8, f3 3 2 (by omega) (by omega) (by omega), f3 (3 + 4) _ (by omega) (by omega) (by omega), f3 (3 + 5) _ (by omega) (by omega) (by omega)]
      generalize hm4 : zAw m3 37 (fun t => zGm m3 3 (m 38 i) res t * -1) = m4
      have f4 : ∀ c j, ¬ c = 37 → m4 c j = m3 c j := fun c j hc => by rw [← hm4, zAw_c hc]
      have f437 : ∀ j, m4 37 j = m 37 j := fun j => by
        rw [← hm4, zAw_q, eGm, f337]
        omega
      (first
    | (with_reducible apply z_nm; (case he => repeat (with_reducible first | exact zv_l _ | exact zv_r | apply zv_add | apply zv_sub | apply zv_mul | apply zv_neg)))
    | (with_reducible apply z_b_ck; (case h => with_unfolding_all rfl))
    | (with_reducible apply z_I; (case h => first | with_unfolding_all rfl); (case hy => first | ((simp (disch := omega) only [zU_c, zU_e, zU_k, zF_c, zF_i, zF_o, zW_o, zW_i, zC_c, zC_i, zC_o]); rfl) | rfl))
    | (with_reducible apply z_b_R; (case h => first | with_unfolding_all rfl))
    | (with_reducible apply z_L; (case he => repeat (with_reducible first | exact zv_l _ | exact zv_r | apply zv_add | apply zv_sub | apply zv_mul | apply zv_neg)); (case hn => with_reducible first | assumption | exact zl_2 | exact zl_4 | exact zl_5 | exact zl_6 | exact zl_9 | exact zl_12 | exact zl_37 | exact zl_38); (case h => omega); (case hy => first | ((simp (disch := omega) only [zU_c, zU_e, zU_k, zF_c, zF_i, zF_o, zW_o, zW_i, zC_c, zC_i, zC_o]); rfl) | rfl))
    | (with_reducible apply z_0firstResult; (case a1 => assumption); (case r1 => first | omega | ((simp (disch := omega) only [zU_c, zU_e, zU_k, zF_c, zF_i, zF_o, zW_o, zW_i, zC_c, zC_i, zC_o]); omega)))
    | (with_reducible apply z_0award; (case a1 => assumption); (case a2 => assumption); (case r7 => first | omega | ((simp (disch := omega) only [zU_c, zU_e, zU_k, zF_c, zF_i, zF_o, zW_o, zW_i, zC_c, zC_i, zC_o]); omega)); (case e1 => repeat (with_reducible first | exact zv_l _ | exact zv_r | apply zv_add | apply zv_sub | apply zv_mul | apply zv_neg)); (case e2 => repeat (with_reducible first | exact zv_l _ | exact zv_r | apply zv_add | apply zv_sub | apply zv_mul | apply zv_neg)); (case e3 => repeat (with_reducible first | exact zv_l _ | exact zv_r | apply zv_add | apply zv_sub | apply zv_mul | apply zv_neg)); (case r1 => first | omega | ((simp (disch := omega) only [zU_c, zU_e, zU_k, zF_c, zF_i, zF_o, zW_o, zW_i, zC_c, zC_i, zC_o]); omega)); (case r2 => first | omega | ((simp (disch := omega) only [zU_c, zU_e, zU_k, zF_c, zF_i, zF_o, zW_o, zW_i, zC_c, zC_i, zC_o]); omega)); (case r3 => first | omega | ((simp (disch := omega) only [zU_c, zU_e, zU_k, zF_c, zF_i, zF_o, zW_o, zW_i, zC_c, zC_i, zC_o]); omega)); (case r4 => first | omega | ((simp (disch := omega) only [zU_c, zU_e, zU_k, zF_c, zF_i, zF_o, zW_o, zW_i, zC_c, zC_i, zC_o]); omega)); (case r5 => first | omega | ((simp (disch := omega) only [zU_c, zU_e, zU_k, zF_c, zF_i, zF_o, zW_o, zW_i, zC_c, zC_i, zC_o]); omega)); (case r6 => first | omega | ((simp (disch := omega) only [zU_c, zU_e, zU_k, zF_c, zF_i, zF_o, zW_o, zW_i, zC_c, zC_i, zC_o]); omega)))
    | (with_reducible apply z_5isNew; (case a1 => assumption); intro _ _ _))
      have e464 : m3 36 4 = m4 36 4 := (f4 36 4 (by omega)).symm
      rw [e464]
      refine hk2 _ _ _ (by omega) ⟨res + 1, rfl, by omega, by omega, rfl, fun c j a b => ?_, ?_, fun j hj => ?_, fun P hP => ?_⟩
      · by_cases hc : c = 37
        · rw [hc]
          exact f437 j
        · rw [f4 c j hc]
          exact f3 c j hc a b
      · rw [← e464]
        omega
      · rw [← e464] at hj
        rw [f4 39 (j : Int) (by omega)]
        exact hs3 j hj
      · have h1 := hdf P hP
        have h2 : zDf (fun j => m2 39 (j : Int)) (m2 36 4).toNat (fun x => P x ∨ ∃ y, (fr ≤ y ∧ y < res) ∧ zQk (m 3 2) d (zWlk m n' (i + 1)) (fun u => m 37 u + zGn (m 3 2) (m (3 + 4) (m 38 i)) (m (3 + 5) (m 38 i)) y u) x) := by
          rw [f2 36 4 (by omega)]
          exact zDf_congr (fun j hj => f2 39 (j : Int) (by omega)) h1
        have h3 := hd3 _ h2
        have g7 : m2 (3 + 4) = m (3 + 4) := by
          funext j
          rw [f2 _ j (by omega), e7]
        have g8 : m2 (3 + 5) = m (3 + 5) := by
          funext j
          rw [f2 _ j (by omega), e8]
        have g38 : m2 38 = m 38 := by
          funext j
          rw [f2 _ j (by omega), e38]
        have g37 : m2 37 = fun u => m 37 u + zGn (m 3 2) (m (3 + 4) (m 38 i)) (m (3 + 5) (m 38 i)) res u := by
          funext u
          rw [f37]
          unfold zGm
          rw [e3, e7, e8]
        have gW : zWlk m2 n' (i + 1) = zWlk m n' (i + 1) := by
          unfold zWlk
          rw [g7, g8, g38]
        rw [f2 36 3 (by omega), e36, en2, f2 3 2 (by omega), e3, hdd, gW, g37] at h3
        rw [← e464]
        refine zDf_congr (fun j hj => f4 39 (j : Int) (by omega)) (zDf_iff (fun x => ?_) h3)
        constructor
        · rintro ((q | ⟨y, hy, q⟩) | q)
          · exact Or.inl q
          · exact Or.inr ⟨y, by omega, q⟩
          · exact Or.inr ⟨res, by omega, q⟩
        · rintro (q | ⟨y, hy, q⟩)
          · exact Or.inl (Or.inl q)
          · by_cases hyr : y = res
            · subst hyr
              exact Or.inr q
            · exact Or.inl (Or.inr ⟨y, by omega, q⟩)
  · have en : (m 36 3 - i).toNat = 0 := by omega
    unfold zWp
    have e1 : (3 ^ 0 : Nat) = 1 := rfl
    rw [en, e1] at h81 ⊢
    have hrow64 : ∀ u, 0 ≤ u → u < 6 → 0 ≤ m 37 u ∧ m 37 u < 64 := fun u u0 u1 => by
      have := hrow u u0 u1
      omega
    have hkey := zKy_36 (f := m 37) (fun k hk => hrow64 (k : Int) (by omega) (by omega))
    have eN : ((m 36 4).toNat : Int) = m 36 4 := Int.toNat_of_nonneg hkn.1
    have hmem : ∀ P, zDf (fun j => m 39 (j : Int)) (m 36 4).toNat P → ((∃ j : Nat, (j : Int) < m 36 4 ∧ m 39 (j : Int) = zKy (m 37) 6) ↔ P (zKy (m 37) 6)) := fun P hP => by
      rw [← hP.2 (zKy (m 37) 6)]
      constructor
      · rintro ⟨j, hj, e⟩
        exact ⟨j, by omega, e⟩
      · rintro ⟨j, hj, e⟩
        exact ⟨j, by omega, e⟩
    refine z_call (s5_isNewE hrow64 (by omega) hseen) (fun v m1 hv => ?_)
    rcases hv with ⟨hold, rfl, rfl⟩ | ⟨hnew, rfl, rfl⟩
    · refine z_eq (x := 0) (y := 0) rfl rfl (by omega) (by omega) (fun _ => ?_) (fun q => absurd rfl q)
      refine ⟨_, _, rfl, fun _ _ _ _ => rfl, by rw [Int.sub_self]; rfl, by omega, hseen, fun P hP => zDf_iff (fun x => ?_) hP⟩
      have hp := (hmem P hP).mp hold
      have eQ : zQk (m1 3 2) (if m1 3 2 = 0 then 0 else 1) (zWlk m1 0 i) (m1 37) x ↔ x = zKy (m1 37) 6 := zQk_n
      rw [eQ]
      constructor
      · exact fun q => Or.inl q
      · rintro (q | q)
        · exact q
        · rw [q]
          exact hp
    · refine z_eq (x := 1) (y := 0) rfl rfl (by omega) (by omega) (fun q => by exfalso; omega) (fun _ => ?_)
      have u4 : zU (zU m 39 (m 36 4) (zKy (m 37) 6)) 36 4 (m 36 4 + 1) 36 4 = m 36 4 + 1 := zU_e
      have u39 : ∀ j, ¬ j = m 36 4 → zU (zU m 39 (m 36 4) (zKy (m 37) 6)) 36 4 (m 36 4 + 1) 39 j = m 39 j := fun j hj => by rw [zU_c (by omega), zU_k hj]
      have u39e : zU (zU m 39 (m 36 4) (zKy (m 37) 6)) 36 4 (m 36 4 + 1) 39 (m 36 4) = zKy (m 37) 6 := by rw [zU_c (by omega), zU_e]
      refine ⟨_, _, rfl, fun c j a b => ?_, ?_, ?_, fun j hj => ?_, fun P hP => ?_⟩
      · by_cases hc : c = 36
        · subst hc
          rw [zU_k (by omega), zU_c (by omega)]
        · rw [zU_c hc, zU_c a]
      · rw [u4, show m 36 4 + 1 - m 36 4 = 1 by omega]
        rfl
      · rw [u4]
        omega
      · rw [u4] at hj
        by_cases hje : (j : Int) = m 36 4
        · rw [hje, u39e]
          exact hkey
        · rw [u39 _ hje]
          exact hseen j (by omega)
      · rw [u4, show (m 36 4 + 1).toNat = (m 36 4).toNat + 1 by omega]
        have eQ : ∀ x, zQk (m 3 2) (if m 3 2 = 0 then 0 else 1) (zWlk m 0 i) (m 37) x ↔ x = zKy (m 37) 6 := fun x => zQk_n
        refine zDf_iff (fun x => by rw [eQ]) (zDf_add hP (fun q => hnew ((hmem P hP).mpr q)) (fun j hj => u39 _ (by omega)) ?_)
        rw [eN]
        exact u39e
