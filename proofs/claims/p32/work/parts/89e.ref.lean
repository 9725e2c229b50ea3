/-! the reference: chances, what can be passed, rows, what was told -/
noncomputable def zCc7 (m : zMe) (t : Int) (seed : Int32) : Nat → Nat
  | 0 => 0
  | n + 1 => zCc7 m t seed n + (if (zFs7 m (seed + zI (n : Int))).testBit t.toNat = true then 1 else 0)
theorem zCc7_le (m : zMe) (t : Int) (seed : Int32) (n : Nat) : zCc7 m t seed n ≤ n := by
  induction n with
  | zero => exact Nat.le_refl _
  | succ n ih =>
    unfold zCc7
    split <;> omega
noncomputable def zCv7 (m : zMe) (t : Int) (seed : Int32) (n : Nat) (p : Int) : Int := (if p = 0 then (zCc7 m t seed n : Int) else (n : Int)) / (Nat.gcd (zCc7 m t seed n) n : Nat)
theorem zDz7_X {m m1 : zMe} (h : ∀ j, m1 51 j = m 51 j) (seed : Int32) (n : Nat) : zDz7 m1 seed n = zDz7 m seed n := by
  induction n with
  | zero => rfl
  | succ n ih =>
    unfold zDz7 zRs
    rw [ih, h]
theorem zDq_X {m m1 : zMe} (h : ∀ j, m1 51 j = m 51 j) (seed : Int32) (n : Nat) : zDq m1 seed n = zDq m seed n := by
  have e1 : zRs m1 = zRs m := by
    funext k
    exact h _
  funext t
  have e2 : zQt (zLk m1 (zRs m1)) t = zQt (zLk m (zRs m)) t := by
    unfold zQt zQi zG7 zLk
    rw [e1]
    have q : ∀ g j, zF m1 53 0 (m1 51 1) g 51 j = zF m 53 0 (m 51 1) g 51 j := fun g j => by rw [zF_c (by omega), zF_c (by omega), h]
    simp only [q]
    congr 1
    refine zSm_congr (fun k hk => ?_)
    rw [zF_c (by omega)] at hk
    rw [zF_i (by rw [h]; omega), zF_i (by omega)]
  unfold zDq
  rw [e2, e1]
  congr 1
  refine zSm_congr (fun k hk => ?_)
  unfold zG7
  rw [zDz7_X h, h, h, h]
theorem zFs7_X {m m1 : zMe} (h : ∀ j, m1 51 j = m 51 j) (seed : Int32) : zFs7 m1 seed = zFs7 m seed := by
  unfold zFs7
  rw [zDq_X h, h, h]
theorem zFs7_512 {m : zMe} (h : zRw m) (seed : Int32) : zFs7 m seed < 512 := by
  have := h.1.1
  exact zTop_512 (by omega)
set_option maxRecDepth 100000 in
set_option maxHeartbeats 1000000 in
theorem s7_gcd {m : zMe} {p : Int} {c n : Nat} (hp : p = 0 ∨ p = 1) (hc : c ≤ 20) (hn : 1 ≤ n ∧ n ≤ 20) : zOk (lp f_X7_chance_88 600 (zI (n : Int), zI p, zI (c : Int), zI (c : Int), zI (n : Int)) (zM m)) (fun v m1 => v = zI ((if p = 0 then (c : Int) else (n : Int)) / (Nat.gcd c n : Nat)) ∧ m1 = m) := by
  have hg := gcd_20 (a := c) hn
  refine z_lp (fun nn v m1 => ∃ (x y : Nat), v = (zI (n : Int), zI p, zI (c : Int), zI (x : Int), zI (y : Int)) ∧ x ≤ 20 ∧ y ≤ 20 ∧ y = nn ∧ m1 = m ∧ Nat.gcd x y = Nat.gcd c n) (fun _ _ v m1 => v = zI ((if p = 0 then (c : Int) else (n : Int)) / (Nat.gcd c n : Nat)) ∧ m1 = m) ?_ 600 n _ _ (by omega) ⟨c, n, rfl, by omega, by omega, rfl, rfl, rfl⟩
  rintro nn v m1 k ⟨x, y, rfl, hx, hy, rfl, rfl, hgc⟩ hk
  unfold f_X7_chance_88
  dsimp only
  (first
    | (with_reducible apply z_B; all_goals (intro _; try (exfalso; omega)))
    | (with_reducible apply z_E; all_goals intro _)
    | (with_reducible apply z_lt; (case ha => repeat (with_reducible first | exact zv_l _ | exact zv_r | apply zv_sub | apply zv_mul | apply zv_div)); (case hb => repeat (with_reducible first | exact zv_l _ | exact zv_r | apply zv_sub | apply zv_mul | apply zv_div)); (case hx => omega); (case hy => omega); all_goals (intro _; try (exfalso; omega)))
    | (with_reducible apply z_le; (case ha => repeat (with_reducible first | exact zv_l _ | exact zv_r | apply zv_sub | apply zv_mul | apply zv_div)); (case hb => repeat (with_reducible first | exact zv_l _ | exact zv_r | apply zv_sub | apply zv_mul | apply zv_div)); (case hx => omega); (case hy => omega); all_goals (intro _; try (exfalso; omega)))
    | (with_reducible apply z_eq; (case ha => repeat (with_reducible first | exact zv_l _ | exact zv_r | apply zv_sub | apply zv_mul | apply zv_div)); (case hb => repeat (with_reducible first | exact zv_l _ | exact zv_r | apply zv_sub | apply zv_mul | apply zv_div)); (case hx => omega); (case hy => omega); all_goals (intro _; try (exfalso; omega))))
  · have hy0 : y = 0 := by omega
    subst hy0
    rw [Nat.gcd_zero_right] at hgc
    unfold f_X7_chance_122
    (first
    | (with_reducible apply z_B; all_goals (intro _; try (exfalso; omega)))
    | (with_reducible apply z_E; all_goals intro _)
    | (with_reducible apply z_lt; (case ha => repeat (with_reducible first | exact zv_l _ | exact zv_r | apply zv_sub | apply zv_mul | apply zv_div)); (case hb => repeat (with_reducible first | exact zv_l _ | exact zv_r | apply zv_sub | apply zv_mul | apply zv_div)); (case hx => omega); (case hy => omega); all_goals (intro _; try (exfalso; omega)))
    | (with_reducible apply z_le; (case ha => repeat (with_reducible first | exact zv_l _ | exact zv_r | apply zv_sub | apply zv_mul | apply zv_div)); (case hb => repeat (with_reducible first | exact zv_l _ | exact zv_r | apply zv_sub | apply zv_mul | apply zv_div)); (case hx => omega); (case hy => omega); all_goals (intro _; try (exfalso; omega)))
    | (with_reducible apply z_eq; (case ha => repeat (with_reducible first | exact zv_l _ | exact zv_r | apply zv_sub | apply zv_mul | apply zv_div)); (case hb => repeat (with_reducible first | exact zv_l _ | exact zv_r | apply zv_sub | apply zv_mul | apply zv_div)); (case hx => omega); (case hy => omega); all_goals (intro _; try (exfalso; omega))))
    · refine z_eq (x := (x : Int)) (y := 0) rfl rfl (by omega) (by omega) (fun q => by exfalso; omega) (fun _ => ?_)
      refine ⟨_, _, rfl, ?_, rfl⟩
      rw [zv_div rfl rfl, zDiv_pos (by omega) (by omega), if_pos (by assumption), hgc]
    · refine z_eq (x := (x : Int)) (y := 0) rfl rfl (by omega) (by omega) (fun q => by exfalso; omega) (fun _ => ?_)
      refine ⟨_, _, rfl, ?_, rfl⟩
      rw [zv_div rfl rfl, zDiv_pos (by omega) (by omega), if_neg (by assumption), hgc]
  · (first
    | (with_reducible apply z_B; all_goals (intro _; try (exfalso; omega)))
    | (with_reducible apply z_E; all_goals intro _)
    | (with_reducible apply z_lt; (case ha => repeat (with_reducible first | exact zv_l _ | exact zv_r | apply zv_sub | apply zv_mul | apply zv_div)); (case hb => repeat (with_reducible first | exact zv_l _ | exact zv_r | apply zv_sub | apply zv_mul | apply zv_div)); (case hx => omega); (case hy => omega); all_goals (intro _; try (exfalso; omega)))
    | (with_reducible apply z_le; (case ha => repeat (with_reducible first | exact zv_l _ | exact zv_r | apply zv_sub | apply zv_mul | apply zv_div)); (case hb => repeat (with_reducible first | exact zv_l _ | exact zv_r | apply zv_sub | apply zv_mul | apply zv_div)); (case hx => omega); (case hy => omega); all_goals (intro _; try (exfalso; omega)))
    | (with_reducible apply z_eq; (case ha => repeat (with_reducible first | exact zv_l _ | exact zv_r | apply zv_sub | apply zv_mul | apply zv_div)); (case hb => repeat (with_reducible first | exact zv_l _ | exact zv_r | apply zv_sub | apply zv_mul | apply zv_div)); (case hx => omega); (case hy => omega); all_goals (intro _; try (exfalso; omega))))
    rw [zmod_pos (x := (x : Int)) (y := (y : Int)) rfl rfl rfl (by omega) (by omega)]
    repeat' (first
    | (with_reducible apply z_nm; (case he => repeat (with_reducible first | exact zv_l _ | exact zv_r | apply zv_sub | apply zv_mul | apply zv_div))))
    have hm := Nat.mod_lt x (y := y) (by omega)
    refine hk _ _ _ hm ⟨y, x % y, ?_, by omega, by omega, rfl, rfl, ?_⟩
    · rw [Int.natCast_emod]
    · rw [← hgc]
      exact (gcd_s x y (by omega)).symm
set_option maxRecDepth 100000 in
set_option maxHeartbeats 1000000 in
theorem s_7chance {m : zMe} {e1 e2 e3 e4 : Int32} {t mm p : Int} (e5 : e1 = zI t) (e6 : e3 = zI mm) (e7 : e4 = zI p) (r1 : -2147483648 ≤ t ∧ t < 2147483648) (r2 : -2147483648 ≤ mm ∧ mm < 2147483648) (r3 : -2147483648 ≤ p ∧ p < 2147483648) (a1 : zRw m) : zOk (f_X7_chance 50 e1 e2 e3 e4 (zM m)) (fun v m1 => v = zI (if (0 ≤ t ∧ t < m 51 0) ∧ (1 ≤ mm ∧ mm ≤ 20) ∧ (p = 0 ∨ p = 1) then zCv7 m t e2 mm.toNat p else -2) ∧ zY m m1) := by
  subst e5; subst e6; subst e7
  have hT := a1.1.1
  unfold f_X7_chance
  (first
    | (with_reducible apply z_nm; (case he => repeat (with_reducible first | exact zv_l _ | exact zv_r | apply zv_add | apply zv_sub | apply zv_neg)))
    | (with_reducible apply z_b_ck; (case h => with_unfolding_all rfl))
    | (with_reducible apply z_in; (case hA => first | with_reducible exact zj_l _ (by decide) | with_reducible exact zj_m1 | (with_reducible apply zj_e; repeat (with_reducible first | exact zv_l _ | exact zv_r | apply zv_add | apply zv_sub | apply zv_neg))); (case hL => first | with_reducible exact zj_l _ (by decide) | with_reducible exact zj_m1 | (with_reducible apply zj_e; repeat (with_reducible first | exact zv_l _ | exact zv_r | apply zv_add | apply zv_sub | apply zv_neg))); (case hH => first | with_reducible exact zj_l _ (by decide) | with_reducible exact zj_m1 | (with_reducible apply zj_e; repeat (with_reducible first | exact zv_l _ | exact zv_r | apply zv_add | apply zv_sub | apply zv_neg))); (case rx => omega); (case rl => omega); (case rh => omega))
    | (with_reducible apply z_7has; (case e1 => repeat (with_reducible first | exact zv_l _ | exact zv_r | apply zv_add | apply zv_sub | apply zv_neg)); (case e2 => repeat (with_reducible first | exact zv_l _ | exact zv_r | apply zv_add | apply zv_sub | apply zv_neg)); (case r1 => first | omega | ((simp (disch := omega) only [zU_c, zU_e, zU_k, zF_c, zF_i, zF_o, zW_o, zW_i, zC_c, zC_i, zC_o]); omega)); (case r2 => first | omega | ((simp (disch := omega) only [zU_c, zU_e, zU_k, zF_c, zF_i, zF_o, zW_o, zW_i, zC_c, zC_i, zC_o]); omega)))
    | (with_reducible apply z_7isTeam; (case e1 => repeat (with_reducible first | exact zv_l _ | exact zv_r | apply zv_add | apply zv_sub | apply zv_neg)); (case r1 => first | omega | ((simp (disch := omega) only [zU_c, zU_e, zU_k, zF_c, zF_i, zF_o, zW_o, zW_i, zC_c, zC_i, zC_o]); omega)); (case r2 => first | omega | ((simp (disch := omega) only [zU_c, zU_e, zU_k, zF_c, zF_i, zF_o, zW_o, zW_i, zC_c, zC_i, zC_o]); omega)))
    | (with_reducible apply z_7draws; (case a2 => assumption))
    | (with_reducible apply z_7firstOnes; (case r1 => first | omega | ((simp (disch := omega) only [zU_c, zU_e, zU_k, zF_c, zF_i, zF_o, zW_o, zW_i, zC_c, zC_i, zC_o]); omega)); (case a1 => assumption)))
  refine z_7isTeam rfl r1 hT ?_
  (first
    | (with_reducible apply z_B; all_goals (intro _; try (exfalso; omega)))
    | (with_reducible apply z_E; all_goals intro _)
    | (with_reducible apply z_lt; (case ha => repeat (with_reducible first | exact zv_l _ | exact zv_r | apply zv_add | apply zv_sub | apply zv_neg)); (case hb => repeat (with_reducible first | exact zv_l _ | exact zv_r | apply zv_add | apply zv_sub | apply zv_neg)); (case hx => omega); (case hy => omega); all_goals (intro _; try (exfalso; omega)))
    | (with_reducible apply z_le; (case ha => repeat (with_reducible first | exact zv_l _ | exact zv_r | apply zv_add | apply zv_sub | apply zv_neg)); (case hb => repeat (with_reducible first | exact zv_l _ | exact zv_r | apply zv_add | apply zv_sub | apply zv_neg)); (case hx => omega); (case hy => omega); all_goals (intro _; try (exfalso; omega)))
    | (with_reducible apply z_eq; (case ha => repeat (with_reducible first | exact zv_l _ | exact zv_r | apply zv_add | apply zv_sub | apply zv_neg)); (case hb => repeat (with_reducible first | exact zv_l _ | exact zv_r | apply zv_add | apply zv_sub | apply zv_neg)); (case hx => omega); (case hy => omega); all_goals (intro _; try (exfalso; omega))))
  · rename_i hq
    rw [if_neg (fun q => hq q.1)]
    exact ⟨_, _, rfl, rfl, zY_r _⟩
  · rename_i hq
    (first
    | (with_reducible apply z_nm; (case he => repeat (with_reducible first | exact zv_l _ | exact zv_r | apply zv_add | apply zv_sub | apply zv_neg)))
    | (with_reducible apply z_b_ck; (case h => with_unfolding_all rfl))
    | (with_reducible apply z_in; (case hA => first | with_reducible exact zj_l _ (by decide) | with_reducible exact zj_m1 | (with_reducible apply zj_e; repeat (with_reducible first | exact zv_l _ | exact zv_r | apply zv_add | apply zv_sub | apply zv_neg))); (case hL => first | with_reducible exact zj_l _ (by decide) | with_reducible exact zj_m1 | (with_reducible apply zj_e; repeat (with_reducible first | exact zv_l _ | exact zv_r | apply zv_add | apply zv_sub | apply zv_neg))); (case hH => first | with_reducible exact zj_l _ (by decide) | with_reducible exact zj_m1 | (with_reducible apply zj_e; repeat (with_reducible first | exact zv_l _ | exact zv_r | apply zv_add | apply zv_sub | apply zv_neg))); (case rx => omega); (case rl => omega); (case rh => omega))
    | (with_reducible apply z_7has; (case e1 => repeat (with_reducible first | exact zv_l _ | exact zv_r | apply zv_add | apply zv_sub | apply zv_neg)); (case e2 => repeat (with_reducible first | exact zv_l _ | exact zv_r | apply zv_add | apply zv_sub | apply zv_neg)); (case r1 => first | omega | ((simp (disch := omega) only [zU_c, zU_e, zU_k, zF_c, zF_i, zF_o, zW_o, zW_i, zC_c, zC_i, zC_o]); omega)); (case r2 => first | omega | ((simp (disch := omega) only [zU_c, zU_e, zU_k, zF_c, zF_i, zF_o, zW_o, zW_i, zC_c, zC_i, zC_o]); omega)))
    | (with_reducible apply z_7isTeam; (case e1 => repeat (with_reducible first | exact zv_l _ | exact zv_r | apply zv_add | apply zv_sub | apply zv_neg)); (case r1 => first | omega | ((simp (disch := omega) only [zU_c, zU_e, zU_k, zF_c, zF_i, zF_o, zW_o, zW_i, zC_c, zC_i, zC_o]); omega)); (case r2 => first | omega | ((simp (disch := omega) only [zU_c, zU_e, zU_k, zF_c, zF_i, zF_o, zW_o, zW_i, zC_c, zC_i, zC_o]); omega)))
    | (with_reducible apply z_7draws; (case a2 => assumption))
    | (with_reducible apply z_7firstOnes; (case r1 => first | omega | ((simp (disch := omega) only [zU_c, zU_e, zU_k, zF_c, zF_i, zF_o, zW_o, zW_i, zC_c, zC_i, zC_o]); omega)); (case a1 => assumption)))
    (first
    | (with_reducible apply z_B; all_goals (intro _; try (exfalso; omega)))
    | (with_reducible apply z_E; all_goals intro _)
    | (with_reducible apply z_lt; (case ha => repeat (with_reducible first | exact zv_l _ | exact zv_r | apply zv_add | apply zv_sub | apply zv_neg)); (case hb => repeat (with_reducible first | exact zv_l _ | exact zv_r | apply zv_add | apply zv_sub | apply zv_neg)); (case hx => omega); (case hy => omega); all_goals (intro _; try (exfalso; omega)))
    | (with_reducible apply z_le; (case ha => repeat (with_reducible first | exact zv_l _ | exact zv_r | apply zv_add | apply zv_sub | apply zv_neg)); (case hb => repeat (with_reducible first | exact zv_l _ | exact zv_r | apply zv_add | apply zv_sub | apply zv_neg)); (case hx => omega); (case hy => omega); all_goals (intro _; try (exfalso; omega)))
    | (with_reducible apply z_eq; (case ha => repeat (with_reducible first | exact zv_l _ | exact zv_r | apply zv_add | apply zv_sub | apply zv_neg)); (case hb => repeat (with_reducible first | exact zv_l _ | exact zv_r | apply zv_add | apply zv_sub | apply zv_neg)); (case hx => omega); (case hy => omega); all_goals (intro _; try (exfalso; omega))))
    · rw [if_neg (by omega)]
      exact ⟨_, _, rfl, rfl, zY_r _⟩
    · (first
    | (with_reducible apply z_nm; (case he => repeat (with_reducible first | exact zv_l _ | exact zv_r | apply zv_add | apply zv_sub | apply zv_neg)))
    | (with_reducible apply z_b_ck; (case h => with_unfolding_all rfl))
    | (with_reducible apply z_in; (case hA => first | with_reducible exact zj_l _ (by decide) | with_reducible exact zj_m1 | (with_reducible apply zj_e; repeat (with_reducible first | exact zv_l _ | exact zv_r | apply zv_add | apply zv_sub | apply zv_neg))); (case hL => first | with_reducible exact zj_l _ (by decide) | with_reducible exact zj_m1 | (with_reducible apply zj_e; repeat (with_reducible first | exact zv_l _ | exact zv_r | apply zv_add | apply zv_sub | apply zv_neg))); (case hH => first | with_reducible exact zj_l _ (by decide) | with_reducible exact zj_m1 | (with_reducible apply zj_e; repeat (with_reducible first | exact zv_l _ | exact zv_r | apply zv_add | apply zv_sub | apply zv_neg))); (case rx => omega); (case rl => omega); (case rh => omega))
    | (with_reducible apply z_7has; (case e1 => repeat (with_reducible first | exact zv_l _ | exact zv_r | apply zv_add | apply zv_sub | apply zv_neg)); (case e2 => repeat (with_reducible first | exact zv_l _ | exact zv_r | apply zv_add | apply zv_sub | apply zv_neg)); (case r1 => first | omega | ((simp (disch := omega) only [zU_c, zU_e, zU_k, zF_c, zF_i, zF_o, zW_o, zW_i, zC_c, zC_i, zC_o]); omega)); (case r2 => first | omega | ((simp (disch := omega) only [zU_c, zU_e, zU_k, zF_c, zF_i, zF_o, zW_o, zW_i, zC_c, zC_i, zC_o]); omega)))
    | (with_reducible apply z_7isTeam; (case e1 => repeat (with_reducible first | exact zv_l _ | exact zv_r | apply zv_add | apply zv_sub | apply zv_neg)); (case r1 => first | omega | ((simp (disch := omega) only [zU_c, zU_e, zU_k, zF_c, zF_i, zF_o, zW_o, zW_i, zC_c, zC_i, zC_o]); omega)); (case r2 => first | omega | ((simp (disch := omega) only [zU_c, zU_e, zU_k, zF_c, zF_i, zF_o, zW_o, zW_i, zC_c, zC_i, zC_o]); omega)))
    | (with_reducible apply z_7draws; (case a2 => assumption))
    | (with_reducible apply z_7firstOnes; (case r1 => first | omega | ((simp (disch := omega) only [zU_c, zU_e, zU_k, zF_c, zF_i, zF_o, zW_o, zW_i, zC_c, zC_i, zC_o]); omega)); (case a1 => assumption)))
      (first
    | (with_reducible apply z_B; all_goals (intro _; try (exfalso; omega)))
    | (with_reducible apply z_E; all_goals intro _)
    | (with_reducible apply z_lt; (case ha => repeat (with_reducible first | exact zv_l _ | exact zv_r | apply zv_add | apply zv_sub | apply zv_neg)); (case hb => repeat (with_reducible first | exact zv_l _ | exact zv_r | apply zv_add | apply zv_sub | apply zv_neg)); (case hx => omega); (case hy => omega); all_goals (intro _; try (exfalso; omega)))
    | (with_reducible apply z_le; (case ha => repeat (with_reducible first | exact zv_l _ | exact zv_r | apply zv_add | apply zv_sub | apply zv_neg)); (case hb => repeat (with_reducible first | exact zv_l _ | exact zv_r | apply zv_add | apply zv_sub | apply zv_neg)); (case hx => omega); (case hy => omega); all_goals (intro _; try (exfalso; omega)))
    | (with_reducible apply z_eq; (case ha => repeat (with_reducible first | exact zv_l _ | exact zv_r | apply zv_add | apply zv_sub | apply zv_neg)); (case hb => repeat (with_reducible first | exact zv_l _ | exact zv_r | apply zv_add | apply zv_sub | apply zv_neg)); (case hx => omega); (case hy => omega); all_goals (intro _; try (exfalso; omega))))
      · rw [if_neg (by omega)]
        exact ⟨_, _, rfl, rfl, zY_r _⟩
      · rw [if_pos ⟨hq, by omega, by omega⟩]
        have hmm : ((mm.toNat : Nat) : Int) = mm := by omega
        have hm1 : 1 ≤ mm.toNat ∧ mm.toNat ≤ 20 := by omega
        rw [← hmm]
        rw [hmm]
        generalize mm.toNat = N at hmm hm1
        subst hmm
        refine z_lp (fun n v m1 => ∃ i : Nat, v = (50, zI t, e2, zI (N : Int), zI p, zI (zCc7 m t e2 i : Int), zI (i : Int)) ∧ i ≤ N ∧ n = N - i ∧ zY m m1) (fun _ _ v m1 => v = zI (zCv7 m t e2 N p) ∧ zY m m1) ?_ 600 N _ _ (by omega) ⟨0, rfl, by omega, by omega, zY_r _⟩
        rintro n v m1 k ⟨i, rfl, hi, rfl, hY⟩ hk
        have hX := hY.1
        have hcc := zCc7_le m t e2 i
        unfold f_X7_chance_40
        dsimp only
        (first
    | (with_reducible apply z_B; all_goals (intro _; try (exfalso; omega)))
    | (with_reducible apply z_E; all_goals intro _)
    | (with_reducible apply z_lt; (case ha => repeat (with_reducible first | exact zv_l _ | exact zv_r | apply zv_add | apply zv_sub | apply zv_neg)); (case hb => repeat (with_reducible first | exact zv_l _ | exact zv_r | apply zv_add | apply zv_sub | apply zv_neg)); (case hx => omega); (case hy => omega); all_goals (intro _; try (exfalso; omega)))
    | (with_reducible apply z_le; (case ha => repeat (with_reducible first | exact zv_l _ | exact zv_r | apply zv_add | apply zv_sub | apply zv_neg)); (case hb => repeat (with_reducible first | exact zv_l _ | exact zv_r | apply zv_add | apply zv_sub | apply zv_neg)); (case hx => omega); (case hy => omega); all_goals (intro _; try (exfalso; omega)))
    | (with_reducible apply z_eq; (case ha => repeat (with_reducible first | exact zv_l _ | exact zv_r | apply zv_add | apply zv_sub | apply zv_neg)); (case hb => repeat (with_reducible first | exact zv_l _ | exact zv_r | apply zv_add | apply zv_sub | apply zv_neg)); (case hx => omega); (case hy => omega); all_goals (intro _; try (exfalso; omega))))
        · have : i = N := by omega
          subst this
          refine (s7_gcd (by omega) (by omega) hm1).mono (fun v m2 hv => ?_)
          obtain ⟨rfl, rfl⟩ := hv
          exact ⟨rfl, hY⟩
        · have hR1 := zRw_X (zX_51 hX) a1
          refine z_7draws hR1 ?_
          refine s7_dfirst hR1 ?_
          rw [zFs7_X (zX_51 hX)]
          have hcs : zCc7 m t e2 (i + 1) = zCc7 m t e2 i + (if (zFs7 m (e2 + zI (i : Int))).testBit t.toNat = true then 1 else 0) := rfl
          refine z_7has rfl (i := t.toNat) (by rw [Int.toNat_of_nonneg hq.1]) (zFs7_512 a1 _) (by omega) ?_
          refine z_B (fun hb => ?_) (fun hb => ?_)
          · rw [if_neg hb] at hcs
            repeat' (first
    | (with_reducible apply z_nm; (case he => repeat (with_reducible first | exact zv_l _ | exact zv_r | apply zv_add | apply zv_sub | apply zv_neg)))
    | (with_reducible apply z_b_ck; (case h => with_unfolding_all rfl))
    | (with_reducible apply z_in; (case hA => first | with_reducible exact zj_l _ (by decide) | with_reducible exact zj_m1 | (with_reducible apply zj_e; repeat (with_reducible first | exact zv_l _ | exact zv_r | apply zv_add | apply zv_sub | apply zv_neg))); (case hL => first | with_reducible exact zj_l _ (by decide) | with_reducible exact zj_m1 | (with_reducible apply zj_e; repeat (with_reducible first | exact zv_l _ | exact zv_r | apply zv_add | apply zv_sub | apply zv_neg))); (case hH => first | with_reducible exact zj_l _ (by decide) | with_reducible exact zj_m1 | (with_reducible apply zj_e; repeat (with_reducible first | exact zv_l _ | exact zv_r | apply zv_add | apply zv_sub | apply zv_neg))); (case rx => omega); (case rl => omega); (case rh => omega))
    | (with_reducible apply z_7has; (case e1 => repeat (with_reducible first | exact zv_l _ | exact zv_r | apply zv_add | apply zv_sub | apply zv_neg)); (case e2 => repeat (with_reducible first | exact zv_l _ | exact zv_r | apply zv_add | apply zv_sub | apply zv_neg)); (case r1 => first | omega | ((simp (disch := omega) only [zU_c, zU_e, zU_k, zF_c, zF_i, zF_o, zW_o, zW_i, zC_c, zC_i, zC_o]); omega)); (case r2 => first | omega | ((simp (disch := omega) only [zU_c, zU_e, zU_k, zF_c, zF_i, zF_o, zW_o, zW_i, zC_c, zC_i, zC_o]); omega)))
    | (with_reducible apply z_7isTeam; (case e1 => repeat (with_reducible first | exact zv_l _ | exact zv_r | apply zv_add | apply zv_sub | apply zv_neg)); (case r1 => first | omega | ((simp (disch := omega) only [zU_c, zU_e, zU_k, zF_c, zF_i, zF_o, zW_o, zW_i, zC_c, zC_i, zC_o]); omega)); (case r2 => first | omega | ((simp (disch := omega) only [zU_c, zU_e, zU_k, zF_c, zF_i, zF_o, zW_o, zW_i, zC_c, zC_i, zC_o]); omega)))
    | (with_reducible apply z_7draws; (case a2 => assumption))
    | (with_reducible apply z_7firstOnes; (case r1 => first | omega | ((simp (disch := omega) only [zU_c, zU_e, zU_k, zF_c, zF_i, zF_o, zW_o, zW_i, zC_c, zC_i, zC_o]); omega)); (case a1 => assumption)))
            refine hk _ _ _ (by omega) ⟨i + 1, ?_, by omega, rfl, zY_t hY zDm_Y⟩
            rw [hcs]
            rfl
          · rw [if_pos hb] at hcs
            repeat' (first
    | (with_reducible apply z_nm; (case he => repeat (with_reducible first | exact zv_l _ | exact zv_r | apply zv_add | apply zv_sub | apply zv_neg)))
    | (with_reducible apply z_b_ck; (case h => with_unfolding_all rfl))
    | (with_reducible apply z_in; (case hA => first | with_reducible exact zj_l _ (by decide) | with_reducible exact zj_m1 | (with_reducible apply zj_e; repeat (with_reducible first | exact zv_l _ | exact zv_r | apply zv_add | apply zv_sub | apply zv_neg))); (case hL => first | with_reducible exact zj_l _ (by decide) | with_reducible exact zj_m1 | (with_reducible apply zj_e; repeat (with_reducible first | exact zv_l _ | exact zv_r | apply zv_add | apply zv_sub | apply zv_neg))); (case hH => first | with_reducible exact zj_l _ (by decide) | with_reducible exact zj_m1 | (with_reducible apply zj_e; repeat (with_reducible first | exact zv_l _ | exact zv_r | apply zv_add | apply zv_sub | apply zv_neg))); (case rx => omega); (case rl => omega); (case rh => omega))
    | (with_reducible apply z_7has; (case e1 => repeat (with_reducible first | exact zv_l _ | exact zv_r | apply zv_add | apply zv_sub | apply zv_neg)); (case e2 => repeat (with_reducible first | exact zv_l _ | exact zv_r | apply zv_add | apply zv_sub | apply zv_neg)); (case r1 => first | omega | ((simp (disch := omega) only [zU_c, zU_e, zU_k, zF_c, zF_i, zF_o, zW_o, zW_i, zC_c, zC_i, zC_o]); omega)); (case r2 => first | omega | ((simp (disch := omega) only [zU_c, zU_e, zU_k, zF_c, zF_i, zF_o, zW_o, zW_i, zC_c, zC_i, zC_o]); omega)))
    | (with_reducible apply z_7isTeam; (case e1 => repeat (with_reducible first | exact zv_l _ | exact zv_r | apply zv_add | apply zv_sub | apply zv_neg)); (case r1 => first | omega | ((simp (disch := omega) only [zU_c, zU_e, zU_k, zF_c, zF_i, zF_o, zW_o, zW_i, zC_c, zC_i, zC_o]); omega)); (case r2 => first | omega | ((simp (disch := omega) only [zU_c, zU_e, zU_k, zF_c, zF_i, zF_o, zW_o, zW_i, zC_c, zC_i, zC_o]); omega)))
    | (with_reducible apply z_7draws; (case a2 => assumption))
    | (with_reducible apply z_7firstOnes; (case r1 => first | omega | ((simp (disch := omega) only [zU_c, zU_e, zU_k, zF_c, zF_i, zF_o, zW_o, zW_i, zC_c, zC_i, zC_o]); omega)); (case a1 => assumption)))
            refine hk _ _ _ (by omega) ⟨i + 1, ?_, by omega, rfl, zY_t hY zDm_Y⟩
            rw [hcs]
            rfl
theorem z_7chance {m : zMe} {e1 e2 e3 e4 : Int32} {t mm p : Int} (e5 : e1 = zI t) (e6 : e3 = zI mm) (e7 : e4 = zI p) (r1 : -2147483648 ≤ t ∧ t < 2147483648) (r2 : -2147483648 ≤ mm ∧ mm < 2147483648) (r3 : -2147483648 ≤ p ∧ p < 2147483648) (a1 : zRw m) {α : Type} {kf : Int32 × Hp → Option (α × Hp)} {Q : α → zMe → Prop} (K : ∀ (v : Int32) (m1 : zMe), (fun v m1 => v = zI (if (0 ≤ t ∧ t < m 51 0) ∧ (1 ≤ mm ∧ mm ≤ 20) ∧ (p = 0 ∨ p = 1) then zCv7 m t e2 mm.toNat p else -2) ∧ zY m m1) v m1 → zOk (kf (v, zM m1)) Q) : zOk ((f_X7_chance 50 e1 e2 e3 e4 (zM m)).bind kf) Q := z_call (s_7chance e5 e6 e7 r1 r2 r3 a1) K
/-- points alone are touched -/
def zPv (m m1 : zMe) : Prop := ∀ c, ¬ c = 54 → ∀ j, m1 c j = m c j
theorem zPv_X {m m1 : zMe} (h : zPv m m1) : zX m m1 := fun c j hc => h c (by unfold zSr at hc; omega) j
theorem zPv_t {m m1 m2 : zMe} (h1 : zPv m m1) (h2 : zPv m1 m2) : zPv m m2 := fun c hc j => by rw [h2 c hc j, h1 c hc j]
theorem zPv_r (m : zMe) : zPv m m := fun c _ j => rfl
theorem zPv_As {m m1 : zMe} (h : zPv m m1) (ha : zAs m) : zAs m1 := fun k k0 k1 => by
  rw [h 51 (by omega)] at k1
  rw [h 53 (by omega)]
  exact ha k k0 k1
theorem zPv_R {m m1 : zMe} (h : zPv m m1) (ha : zRw m) : zRw m1 := zRw_X (h 51 (by omega)) ha
set_option maxRecDepth 100000 in
set_option maxHeartbeats 1000000 in
theorem s7_bp {m : zMe} {g res x : Int} (hR : zRw m) (hg : 0 ≤ g ∧ g < m 51 1) (hr : 0 ≤ res ∧ res ≤ 2) {α : Type} {f : Unit × Hp → Option (α × Hp)} {Q : α → zMe → Prop} {e : Int32} (he : e = zI x) (K : ∀ m1, zPv m m1 → zOk (f ((), zM m1)) Q) : zOk ((f_X7_brings 50 (zI g) (zI res) e (zM m)).bind f) Q := by
  obtain ⟨g1, g2, g3, g4, g5⟩ := hR.2.2 g hg.1 hg.2
  have hT := hR.1.1
  have hN := hR.1.2.1
  refine z_7brings rfl rfl he (by omega) hr (by omega) (by omega) g4 hR.1.2.2 ?_
  exact K _ (fun c hc j => zAw_c hc)
set_option maxRecDepth 100000 in
set_option maxHeartbeats 1000000 in
theorem s7_passed {m : zMe} {t g : Int} (hR : zRw m) (hA : zAs m) (ht : 0 ≤ t ∧ t < 6) (hg : 0 ≤ g ∧ g ≤ m 51 1) : zOk (f_X7_canBePassed 12 50 (zI t) (zI g) (zM m)) (fun v m1 => (∃ p : Prop, v = zI (zE p)) ∧ zPv m m1) := by
  refine z_lp (fun n v m1 => ∃ g : Int, v = (50, zI t, zI g) ∧ (0 ≤ g ∧ g ≤ m1 51 1) ∧ n = (m1 51 1 - g).toNat ∧ zRw m1 ∧ zAs m1) (fun _ m1 v m2 => (∃ p : Prop, v = zI (zE p)) ∧ zPv m1 m2) ?_ 12 (m 51 1 - g).toNat (50, zI t, zI g) m (by have := hR.1.2.1; omega) ⟨g, rfl, hg, rfl, hR, hA⟩
  clear hg hA hR g m
  rintro n v m k ⟨g, rfl, hg, rfl, hR, hA⟩ hrec
  have hN := hR.1.2.1
  have hT := hR.1.1
  have hag := hA g hg.1
  show zOk (f_X7_canBePassed_r k 50 (zI t) (zI g) (zM m)) _
  unfold f_X7_canBePassed_r
  (first
    | (with_reducible apply z_nm; (case he => repeat (with_reducible first | exact zv_l _ | exact zv_r | apply zv_add | apply zv_sub | apply zv_neg)))
    | (with_reducible apply z_b_ck; (case h => with_unfolding_all rfl))
    | (with_reducible apply z_b_R; (case h => first | with_unfolding_all rfl))
    | (with_reducible apply z_L; (case he => repeat (with_reducible first | exact zv_l _ | exact zv_r | apply zv_add | apply zv_sub | apply zv_neg)); (case hn => with_reducible first | assumption | exact zl_2 | exact zl_6 | exact zl_12 | exact zl_51 | exact zl_53 | exact zl_54); (case h => omega); (case hy => first | ((simp (disch := omega) only [zU_c, zU_e, zU_k, zF_c, zF_i, zF_o, zW_o, zW_i, zC_c, zC_i, zC_o]); rfl) | rfl))
    | with_reducible refine z_bz ?_
    | with_reducible refine z_bzE ?_
    | (with_reducible apply z_bzl; (case h => omega))
    | (with_reducible apply z_7results; (case r1 => first | omega | ((simp (disch := omega) only [zU_c, zU_e, zU_k, zF_c, zF_i, zF_o, zW_o, zW_i, zC_c, zC_i, zC_o]); omega)))
    | (with_reducible apply z_7resultAt; (case e1 => repeat (with_reducible first | exact zv_l _ | exact zv_r | apply zv_add | apply zv_sub | apply zv_neg)); (case r1 => first | omega | ((simp (disch := omega) only [zU_c, zU_e, zU_k, zF_c, zF_i, zF_o, zW_o, zW_i, zC_c, zC_i, zC_o]); omega)))
    | (with_reducible apply z_7brings; (case e1 => repeat (with_reducible first | exact zv_l _ | exact zv_r | apply zv_add | apply zv_sub | apply zv_neg)); (case e2 => repeat (with_reducible first | exact zv_l _ | exact zv_r | apply zv_add | apply zv_sub | apply zv_neg)); (case e3 => repeat (with_reducible first | exact zv_l _ | exact zv_r | apply zv_add | apply zv_sub | apply zv_neg)); (case r1 => first | omega | ((simp (disch := omega) only [zU_c, zU_e, zU_k, zF_c, zF_i, zF_o, zW_o, zW_i, zC_c, zC_i, zC_o]); omega)); (case r2 => first | omega | ((simp (disch := omega) only [zU_c, zU_e, zU_k, zF_c, zF_i, zF_o, zW_o, zW_i, zC_c, zC_i, zC_o]); omega)); (case r3 => first | omega | ((simp (disch := omega) only [zU_c, zU_e, zU_k, zF_c, zF_i, zF_o, zW_o, zW_i, zC_c, zC_i, zC_o]); omega)); (case r4 => first | omega | ((simp (disch := omega) only [zU_c, zU_e, zU_k, zF_c, zF_i, zF_o, zW_o, zW_i, zC_c, zC_i, zC_o]); omega)); (case r5 => first | omega | ((simp (disch := omega) only [zU_c, zU_e, zU_k, zF_c, zF_i, zF_o, zW_o, zW_i, zC_c, zC_i, zC_o]); omega)); (case r6 => first | omega | ((simp (disch := omega) only [zU_c, zU_e, zU_k, zF_c, zF_i, zF_o, zW_o, zW_i, zC_c, zC_i, zC_o]); omega))))
  (first
    | (with_reducible apply z_nm; (case he => repeat (with_reducible first | exact zv_l _ | exact zv_r | apply zv_add | apply zv_sub | apply zv_neg)))
    | (with_reducible apply z_b_ck; (case h => with_unfolding_all rfl))
    | (with_reducible apply z_b_R; (case h => first | with_unfolding_all rfl))
    | (with_reducible apply z_L; (case he => repeat (with_reducible first | exact zv_l _ | exact zv_r | apply zv_add | apply zv_sub | apply zv_neg)); (case hn => with_reducible first | assumption | exact zl_2 | exact zl_6 | exact zl_12 | exact zl_51 | exact zl_53 | exact zl_54); (case h => omega); (case hy => first | ((simp (disch := omega) only [zU_c, zU_e, zU_k, zF_c, zF_i, zF_o, zW_o, zW_i, zC_c, zC_i, zC_o]); rfl) | rfl))
    | with_reducible refine z_bz ?_
    | with_reducible refine z_bzE ?_
    | (with_reducible apply z_bzl; (case h => omega))
    | (with_reducible apply z_7results; (case r1 => first | omega | ((simp (disch := omega) only [zU_c, zU_e, zU_k, zF_c, zF_i, zF_o, zW_o, zW_i, zC_c, zC_i, zC_o]); omega)))
    | (with_reducible apply z_7resultAt; (case e1 => repeat (with_reducible first | exact zv_l _ | exact zv_r | apply zv_add | apply zv_sub | apply zv_neg)); (case r1 => first | omega | ((simp (disch := omega) only [zU_c, zU_e, zU_k, zF_c, zF_i, zF_o, zW_o, zW_i, zC_c, zC_i, zC_o]); omega)))
    | (with_reducible apply z_7brings; (case e1 => repeat (with_reducible first | exact zv_l _ | exact zv_r | apply zv_add | apply zv_sub | apply zv_neg)); (case e2 => repeat (with_reducible first | exact zv_l _ | exact zv_r | apply zv_add | apply zv_sub | apply zv_neg)); (case e3 => repeat (with_reducible first | exact zv_l _ | exact zv_r | apply zv_add | apply zv_sub | apply zv_neg)); (case r1 => first | omega | ((simp (disch := omega) only [zU_c, zU_e, zU_k, zF_c, zF_i, zF_o, zW_o, zW_i, zC_c, zC_i, zC_o]); omega)); (case r2 => first | omega | ((simp (disch := omega) only [zU_c, zU_e, zU_k, zF_c, zF_i, zF_o, zW_o, zW_i, zC_c, zC_i, zC_o]); omega)); (case r3 => first | omega | ((simp (disch := omega) only [zU_c, zU_e, zU_k, zF_c, zF_i, zF_o, zW_o, zW_i, zC_c, zC_i, zC_o]); omega)); (case r4 => first | omega | ((simp (disch := omega) only [zU_c, zU_e, zU_k, zF_c, zF_i, zF_o, zW_o, zW_i, zC_c, zC_i, zC_o]); omega)); (case r5 => first | omega | ((simp (disch := omega) only [zU_c, zU_e, zU_k, zF_c, zF_i, zF_o, zW_o, zW_i, zC_c, zC_i, zC_o]); omega)); (case r6 => first | omega | ((simp (disch := omega) only [zU_c, zU_e, zU_k, zF_c, zF_i, zF_o, zW_o, zW_i, zC_c, zC_i, zC_o]); omega))))
  (first
    | (with_reducible apply z_nm; (case he => repeat (with_reducible first | exact zv_l _ | exact zv_r | apply zv_add | apply zv_sub | apply zv_neg)))
    | (with_reducible apply z_b_ck; (case h => with_unfolding_all rfl))
    | (with_reducible apply z_b_R; (case h => first | with_unfolding_all rfl))
    | (with_reducible apply z_L; (case he => repeat (with_reducible first | exact zv_l _ | exact zv_r | apply zv_add | apply zv_sub | apply zv_neg)); (case hn => with_reducible first | assumption | exact zl_2 | exact zl_6 | exact zl_12 | exact zl_51 | exact zl_53 | exact zl_54); (case h => omega); (case hy => first | ((simp (disch := omega) only [zU_c, zU_e, zU_k, zF_c, zF_i, zF_o, zW_o, zW_i, zC_c, zC_i, zC_o]); rfl) | rfl))
    | with_reducible refine z_bz ?_
    | with_reducible refine z_bzE ?_
    | (with_reducible apply z_bzl; (case h => omega))
    | (with_reducible apply z_7results; (case r1 => first | omega | ((simp (disch := omega) only [zU_c, zU_e, zU_k, zF_c, zF_i, zF_o, zW_o, zW_i, zC_c, zC_i, zC_o]); omega)))
    | (with_reducible apply z_7resultAt; (case e1 => repeat (with_reducible first | exact zv_l _ | exact zv_r | apply zv_add | apply zv_sub | apply zv_neg)); (case r1 => first | omega | ((simp (disch := omega) only [zU_c, zU_e, zU_k, zF_c, zF_i, zF_o, zW_o, zW_i, zC_c, zC_i, zC_o]); omega)))
    | (with_reducible apply z_7brings; (case e1 => repeat (with_reducible first | exact zv_l _ | exact zv_r | apply zv_add | apply zv_sub | apply zv_neg)); (case e2 => repeat (with_reducible first | exact zv_l _ | exact zv_r | apply zv_add | apply zv_sub | apply zv_neg)); (case e3 => repeat (with_reducible first | exact zv_l _ | exact zv_r | apply zv_add | apply zv_sub | apply zv_neg)); (case r1 => first | omega | ((simp (disch := omega) only [zU_c, zU_e, zU_k, zF_c, zF_i, zF_o, zW_o, zW_i, zC_c, zC_i, zC_o]); omega)); (case r2 => first | omega | ((simp (disch := omega) only [zU_c, zU_e, zU_k, zF_c, zF_i, zF_o, zW_o, zW_i, zC_c, zC_i, zC_o]); omega)); (case r3 => first | omega | ((simp (disch := omega) only [zU_c, zU_e, zU_k, zF_c, zF_i, zF_o, zW_o, zW_i, zC_c, zC_i, zC_o]); omega)); (case r4 => first | omega | ((simp (disch := omega) only [zU_c, zU_e, zU_k, zF_c, zF_i, zF_o, zW_o, zW_i, zC_c, zC_i, zC_o]); omega)); (case r5 => first | omega | ((simp (disch := omega) only [zU_c, zU_e, zU_k, zF_c, zF_i, zF_o, zW_o, zW_i, zC_c, zC_i, zC_o]); omega)); (case r6 => first | omega | ((simp (disch := omega) only [zU_c, zU_e, zU_k, zF_c, zF_i, zF_o, zW_o, zW_i, zC_c, zC_i, zC_o]); omega))))
  (first
    | (with_reducible apply z_B; all_goals (intro _; try (exfalso; omega)))
    | (with_reducible apply z_E; all_goals intro _)
    | (with_reducible apply z_lt; (case ha => repeat (with_reducible first | exact zv_l _ | exact zv_r | apply zv_add | apply zv_sub | apply zv_neg)); (case hb => repeat (with_reducible first | exact zv_l _ | exact zv_r | apply zv_add | apply zv_sub | apply zv_neg)); (case hx => omega); (case hy => omega); all_goals (intro _; try (exfalso; omega)))
    | (with_reducible apply z_le; (case ha => repeat (with_reducible first | exact zv_l _ | exact zv_r | apply zv_add | apply zv_sub | apply zv_neg)); (case hb => repeat (with_reducible first | exact zv_l _ | exact zv_r | apply zv_add | apply zv_sub | apply zv_neg)); (case hx => omega); (case hy => omega); all_goals (intro _; try (exfalso; omega)))
    | (with_reducible apply z_eq; (case ha => repeat (with_reducible first | exact zv_l _ | exact zv_r | apply zv_add | apply zv_sub | apply zv_neg)); (case hb => repeat (with_reducible first | exact zv_l _ | exact zv_r | apply zv_add | apply zv_sub | apply zv_neg)); (case hx => omega); (case hy => omega); all_goals (intro _; try (exfalso; omega))))
  · refine z_lp (fun n v m1 => ∃ i : Int, v = (50, zI t, zI i) ∧ 0 ≤ i ∧ i ≤ m 51 0 ∧ n = (m 51 0 - i).toNat ∧ m1 = m) (fun _ _ v m1 => (∃ p : Prop, v = zI (zE p)) ∧ zPv m m1) ?_ 600 (m 51 0).toNat _ _ (by omega) ⟨0, rfl, by omega, by omega, by omega, rfl⟩
    rintro n v m1 k2 ⟨i, rfl, h0, h1, rfl, rfl⟩ hk2
    unfold f_X7_canBePassed_12
    dsimp only
    (first
    | (with_reducible apply z_nm; (case he => repeat (with_reducible first | exact zv_l _ | exact zv_r | apply zv_add | apply zv_sub | apply zv_neg)))
    | (with_reducible apply z_b_ck; (case h => with_unfolding_all rfl))
    | (with_reducible apply z_b_R; (case h => first | with_unfolding_all rfl))
    | (with_reducible apply z_L; (case he => repeat (with_reducible first | exact zv_l _ | exact zv_r | apply zv_add | apply zv_sub | apply zv_neg)); (case hn => with_reducible first | assumption | exact zl_2 | exact zl_6 | exact zl_12 | exact zl_51 | exact zl_53 | exact zl_54); (case h => omega); (case hy => first | ((simp (disch := omega) only [zU_c, zU_e, zU_k, zF_c, zF_i, zF_o, zW_o, zW_i, zC_c, zC_i, zC_o]); rfl) | rfl))
    | with_reducible refine z_bz ?_
    | with_reducible refine z_bzE ?_
    | (with_reducible apply z_bzl; (case h => omega))
    | (with_reducible apply z_7results; (case r1 => first | omega | ((simp (disch := omega) only [zU_c, zU_e, zU_k, zF_c, zF_i, zF_o, zW_o, zW_i, zC_c, zC_i, zC_o]); omega)))
    | (with_reducible apply z_7resultAt; (case e1 => repeat (with_reducible first | exact zv_l _ | exact zv_r | apply zv_add | apply zv_sub | apply zv_neg)); (case r1 => first | omega | ((simp (disch := omega) only [zU_c, zU_e, zU_k, zF_c, zF_i, zF_o, zW_o, zW_i, zC_c, zC_i, zC_o]); omega)))
    | (with_reducible apply z_7brings; (case e1 => repeat (with_reducible first | exact zv_l _ | exact zv_r | apply zv_add | apply zv_sub | apply zv_neg)); (case e2 => repeat (with_reducible first | exact zv_l _ | exact zv_r | apply zv_add | apply zv_sub | apply zv_neg)); (case e3 => repeat (with_reducible first | exact zv_l _ | exact zv_r | apply zv_add | apply zv_sub | apply zv_neg)); (case r1 => first | omega | ((simp (disch := omega) only [zU_c, zU_e, zU_k, zF_c, zF_i, zF_o, zW_o, zW_i, zC_c, zC_i, zC_o]); omega)); (case r2 => first | omega | ((simp (disch := omega) only [zU_c, zU_e, zU_k, zF_c, zF_i, zF_o, zW_o, zW_i, zC_c, zC_i, zC_o]); omega)); (case r3 => first | omega | ((simp (disch := omega) only [zU_c, zU_e, zU_k, zF_c, zF_i, zF_o, zW_o, zW_i, zC_c, zC_i, zC_o]); omega)); (case r4 => first | omega | ((simp (disch := omega) only [zU_c, zU_e, zU_k, zF_c, zF_i, zF_o, zW_o, zW_i, zC_c, zC_i, zC_o]); omega)); (case r5 => first | omega | ((simp (disch := omega) only [zU_c, zU_e, zU_k, zF_c, zF_i, zF_o, zW_o, zW_i, zC_c, zC_i, zC_o]); omega)); (case r6 => first | omega | ((simp (disch := omega) only [zU_c, zU_e, zU_k, zF_c, zF_i, zF_o, zW_o, zW_i, zC_c, zC_i, zC_o]); omega))))
    (first
    | (with_reducible apply z_nm; (case he => repeat (with_reducible first | exact zv_l _ | exact zv_r | apply zv_add | apply zv_sub | apply zv_neg)))
    | (with_reducible apply z_b_ck; (case h => with_unfolding_all rfl))
    | (with_reducible apply z_b_R; (case h => first | with_unfolding_all rfl))
    | (with_reducible apply z_L; (case he => repeat (with_reducible first | exact zv_l _ | exact zv_r | apply zv_add | apply zv_sub | apply zv_neg)); (case hn => with_reducible first | assumption | exact zl_2 | exact zl_6 | exact zl_12 | exact zl_51 | exact zl_53 | exact zl_54); (case h => omega); (case hy => first | ((simp (disch := omega) only [zU_c, zU_e, zU_k, zF_c, zF_i, zF_o, zW_o, zW_i, zC_c, zC_i, zC_o]); rfl) | rfl))
    | with_reducible refine z_bz ?_
    | with_reducible refine z_bzE ?_
    | (with_reducible apply z_bzl; (case h => omega))
    | (with_reducible apply z_7results; (case r1 => first | omega | ((simp (disch := omega) only [zU_c, zU_e, zU_k, zF_c, zF_i, zF_o, zW_o, zW_i, zC_c, zC_i, zC_o]); omega)))
    | (with_reducible apply z_7resultAt; (case e1 => repeat (with_reducible first | exact zv_l _ | exact zv_r | apply zv_add | apply zv_sub | apply zv_neg)); (case r1 => first | omega | ((simp (disch := omega) only [zU_c, zU_e, zU_k, zF_c, zF_i, zF_o, zW_o, zW_i, zC_c, zC_i, zC_o]); omega)))
    | (with_reducible apply z_7brings; (case e1 => repeat (with_reducible first | exact zv_l _ | exact zv_r | apply zv_add | apply zv_sub | apply zv_neg)); (case e2 => repeat (with_reducible first | exact zv_l _ | exact zv_r | apply zv_add | apply zv_sub | apply zv_neg)); (case e3 => repeat (with_reducible first | exact zv_l _ | exact zv_r | apply zv_add | apply zv_sub | apply zv_neg)); (case r1 => first | omega | ((simp (disch := omega) only [zU_c, zU_e, zU_k, zF_c, zF_i, zF_o, zW_o, zW_i, zC_c, zC_i, zC_o]); omega)); (case r2 => first | omega | ((simp (disch := omega) only [zU_c, zU_e, zU_k, zF_c, zF_i, zF_o, zW_o, zW_i, zC_c, zC_i, zC_o]); omega)); (case r3 => first | omega | ((simp (disch := omega) only [zU_c, zU_e, zU_k, zF_c, zF_i, zF_o, zW_o, zW_i, zC_c, zC_i, zC_o]); omega)); (case r4 => first | omega | ((simp (disch := omega) only [zU_c, zU_e, zU_k, zF_c, zF_i, zF_o, zW_o, zW_i, zC_c, zC_i, zC_o]); omega)); (case r5 => first | omega | ((simp (disch := omega) only [zU_c, zU_e, zU_k, zF_c, zF_i, zF_o, zW_o, zW_i, zC_c, zC_i, zC_o]); omega)); (case r6 => first | omega | ((simp (disch := omega) only [zU_c, zU_e, zU_k, zF_c, zF_i, zF_o, zW_o, zW_i, zC_c, zC_i, zC_o]); omega))))
    (first
    | (with_reducible apply z_B; all_goals (intro _; try (exfalso; omega)))
    | (with_reducible apply z_E; all_goals intro _)
    | (with_reducible apply z_lt; (case ha => repeat (with_reducible first | exact zv_l _ | exact zv_r | apply zv_add | apply zv_sub | apply zv_neg)); (case hb => repeat (with_reducible first | exact zv_l _ | exact zv_r | apply zv_add | apply zv_sub | apply zv_neg)); (case hx => omega); (case hy => omega); all_goals (intro _; try (exfalso; omega)))
    | (with_reducible apply z_le; (case ha => repeat (with_reducible first | exact zv_l _ | exact zv_r | apply zv_add | apply zv_sub | apply zv_neg)); (case hb => repeat (with_reducible first | exact zv_l _ | exact zv_r | apply zv_add | apply zv_sub | apply zv_neg)); (case hx => omega); (case hy => omega); all_goals (intro _; try (exfalso; omega)))
    | (with_reducible apply z_eq; (case ha => repeat (with_reducible first | exact zv_l _ | exact zv_r | apply zv_add | apply zv_sub | apply zv_neg)); (case hb => repeat (with_reducible first | exact zv_l _ | exact zv_r | apply zv_add | apply zv_sub | apply zv_neg)); (case hx => omega); (case hy => omega); all_goals (intro _; try (exfalso; omega))))
    · exact ⟨_, _, rfl, ⟨_, zE_f⟩, zPv_r _⟩
    · (first
    | (with_reducible apply z_nm; (case he => repeat (with_reducible first | exact zv_l _ | exact zv_r | apply zv_add | apply zv_sub | apply zv_neg)))
    | (with_reducible apply z_b_ck; (case h => with_unfolding_all rfl))
    | (with_reducible apply z_b_R; (case h => first | with_unfolding_all rfl))
    | (with_reducible apply z_L; (case he => repeat (with_reducible first | exact zv_l _ | exact zv_r | apply zv_add | apply zv_sub | apply zv_neg)); (case hn => with_reducible first | assumption | exact zl_2 | exact zl_6 | exact zl_12 | exact zl_51 | exact zl_53 | exact zl_54); (case h => omega); (case hy => first | ((simp (disch := omega) only [zU_c, zU_e, zU_k, zF_c, zF_i, zF_o, zW_o, zW_i, zC_c, zC_i, zC_o]); rfl) | rfl))
    | with_reducible refine z_bz ?_
    | with_reducible refine z_bzE ?_
    | (with_reducible apply z_bzl; (case h => omega))
    | (with_reducible apply z_7results; (case r1 => first | omega | ((simp (disch := omega) only [zU_c, zU_e, zU_k, zF_c, zF_i, zF_o, zW_o, zW_i, zC_c, zC_i, zC_o]); omega)))
    | (with_reducible apply z_7resultAt; (case e1 => repeat (with_reducible first | exact zv_l _ | exact zv_r | apply zv_add | apply zv_sub | apply zv_neg)); (case r1 => first | omega | ((simp (disch := omega) only [zU_c, zU_e, zU_k, zF_c, zF_i, zF_o, zW_o, zW_i, zC_c, zC_i, zC_o]); omega)))
    | (with_reducible apply z_7brings; (case e1 => repeat (with_reducible first | exact zv_l _ | exact zv_r | apply zv_add | apply zv_sub | apply zv_neg)); (case e2 => repeat (with_reducible first | exact zv_l _ | exact zv_r | apply zv_add | apply zv_sub | apply zv_neg)); (case e3 => repeat (with_reducible first | exact zv_l _ | exact zv_r | apply zv_add | apply zv_sub | apply zv_neg)); (case r1 => first | omega | ((simp (disch := omega) only [zU_c, zU_e, zU_k, zF_c, zF_i, zF_o, zW_o, zW_i, zC_c, zC_i, zC_o]); omega)); (case r2 => first | omega | ((simp (disch := omega) only [zU_c, zU_e, zU_k, zF_c, zF_i, zF_o, zW_o, zW_i, zC_c, zC_i, zC_o]); omega)); (case r3 => first | omega | ((simp (disch := omega) only [zU_c, zU_e, zU_k, zF_c, zF_i, zF_o, zW_o, zW_i, zC_c, zC_i, zC_o]); omega)); (case r4 => first | omega | ((simp (disch := omega) only [zU_c, zU_e, zU_k, zF_c, zF_i, zF_o, zW_o, zW_i, zC_c, zC_i, zC_o]); omega)); (case r5 => first | omega | ((simp (disch := omega) only [zU_c, zU_e, zU_k, zF_c, zF_i, zF_o, zW_o, zW_i, zC_c, zC_i, zC_o]); omega)); (case r6 => first | omega | ((simp (disch := omega) only [zU_c, zU_e, zU_k, zF_c, zF_i, zF_o, zW_o, zW_i, zC_c, zC_i, zC_o]); omega))))
      (first
    | (with_reducible apply z_nm; (case he => repeat (with_reducible first | exact zv_l _ | exact zv_r | apply zv_add | apply zv_sub | apply zv_neg)))
    | (with_reducible apply z_b_ck; (case h => with_unfolding_all rfl))
    | (with_reducible apply z_b_R; (case h => first | with_unfolding_all rfl))
    | (with_reducible apply z_L; (case he => repeat (with_reducible first | exact zv_l _ | exact zv_r | apply zv_add | apply zv_sub | apply zv_neg)); (case hn => with_reducible first | assumption | exact zl_2 | exact zl_6 | exact zl_12 | exact zl_51 | exact zl_53 | exact zl_54); (case h => omega); (case hy => first | ((simp (disch := omega) only [zU_c, zU_e, zU_k, zF_c, zF_i, zF_o, zW_o, zW_i, zC_c, zC_i, zC_o]); rfl) | rfl))
    | with_reducible refine z_bz ?_
    | with_reducible refine z_bzE ?_
    | (with_reducible apply z_bzl; (case h => omega))
    | (with_reducible apply z_7results; (case r1 => first | omega | ((simp (disch := omega) only [zU_c, zU_e, zU_k, zF_c, zF_i, zF_o, zW_o, zW_i, zC_c, zC_i, zC_o]); omega)))
    | (with_reducible apply z_7resultAt; (case e1 => repeat (with_reducible first | exact zv_l _ | exact zv_r | apply zv_add | apply zv_sub | apply zv_neg)); (case r1 => first | omega | ((simp (disch := omega) only [zU_c, zU_e, zU_k, zF_c, zF_i, zF_o, zW_o, zW_i, zC_c, zC_i, zC_o]); omega)))
    | (with_reducible apply z_7brings; (case e1 => repeat (with_reducible first | exact zv_l _ | exact zv_r | apply zv_add | apply zv_sub | apply zv_neg)); (case e2 => repeat (with_reducible first | exact zv_l _ | exact zv_r | apply zv_add | apply zv_sub | apply zv_neg)); (case e3 => repeat (with_reducible first | exact zv_l _ | exact zv_r | apply zv_add | apply zv_sub | apply zv_neg)); (case r1 => first | omega | ((simp (disch := omega) only [zU_c, zU_e, zU_k, zF_c, zF_i, zF_o, zW_o, zW_i, zC_c, zC_i, zC_o]); omega)); (case r2 => first | omega | ((simp (disch := omega) only [zU_c, zU_e, zU_k, zF_c, zF_i, zF_o, zW_o, zW_i, zC_c, zC_i, zC_o]); omega)); (case r3 => first | omega | ((simp (disch := omega) only [zU_c, zU_e, zU_k, zF_c, zF_i, zF_o, zW_o, zW_i, zC_c, zC_i, zC_o]); omega)); (case r4 => first | omega | ((simp (disch := omega) only [zU_c, zU_e, zU_k, zF_c, zF_i, zF_o, zW_o, zW_i, zC_c, zC_i, zC_o]); omega)); (case r5 => first | omega | ((simp (disch := omega) only [zU_c, zU_e, zU_k, zF_c, zF_i, zF_o, zW_o, zW_i, zC_c, zC_i, zC_o]); omega)); (case r6 => first | omega | ((simp (disch := omega) only [zU_c, zU_e, zU_k, zF_c, zF_i, zF_o, zW_o, zW_i, zC_c, zC_i, zC_o]); omega))))
      (first
    | (with_reducible apply z_nm; (case he => repeat (with_reducible first | exact zv_l _ | exact zv_r | apply zv_add | apply zv_sub | apply zv_neg)))
    | (with_reducible apply z_b_ck; (case h => with_unfolding_all rfl))
    | (with_reducible apply z_b_R; (case h => first | with_unfolding_all rfl))
    | (with_reducible apply z_L; (case he => repeat (with_reducible first | exact zv_l _ | exact zv_r | apply zv_add | apply zv_sub | apply zv_neg)); (case hn => with_reducible first | assumption | exact zl_2 | exact zl_6 | exact zl_12 | exact zl_51 | exact zl_53 | exact zl_54); (case h => omega); (case hy => first | ((simp (disch := omega) only [zU_c, zU_e, zU_k, zF_c, zF_i, zF_o, zW_o, zW_i, zC_c, zC_i, zC_o]); rfl) | rfl))
    | with_reducible refine z_bz ?_
    | with_reducible refine z_bzE ?_
    | (with_reducible apply z_bzl; (case h => omega))
    | (with_reducible apply z_7results; (case r1 => first | omega | ((simp (disch := omega) only [zU_c, zU_e, zU_k, zF_c, zF_i, zF_o, zW_o, zW_i, zC_c, zC_i, zC_o]); omega)))
    | (with_reducible apply z_7resultAt; (case e1 => repeat (with_reducible first | exact zv_l _ | exact zv_r | apply zv_add | apply zv_sub | apply zv_neg)); (case r1 => first | omega | ((simp (disch := omega) only [zU_c, zU_e, zU_k, zF_c, zF_i, zF_o, zW_o, zW_i, zC_c, zC_i, zC_o]); omega)))
    | (with_reducible apply z_7brings; (case e1 => repeat (with_reducible first | exact zv_l _ | exact zv_r | apply zv_add | apply zv_sub | apply zv_neg)); (case e2 => repeat (with_reducible first | exact zv_l _ | exact zv_r | apply zv_add | apply zv_sub | apply zv_neg)); (case e3 => repeat (with_reducible first | exact zv_l _ | exact zv_r | apply zv_add | apply zv_sub | apply zv_neg)); (case r1 => first | omega | ((simp (disch := omega) only [zU_c, zU_e, zU_k, zF_c, zF_i, zF_o, zW_o, zW_i, zC_c, zC_i, zC_o]); omega)); (case r2 => first | omega | ((simp (disch := omega) only [zU_c, zU_e, zU_k, zF_c, zF_i, zF_o, zW_o, zW_i, zC_c, zC_i, zC_o]); omega)); (case r3 => first | omega | ((simp (disch := omega) only [zU_c, zU_e, zU_k, zF_c, zF_i, zF_o, zW_o, zW_i, zC_c, zC_i, zC_o]); omega)); (case r4 => first | omega | ((simp (disch := omega) only [zU_c, zU_e, zU_k, zF_c, zF_i, zF_o, zW_o, zW_i, zC_c, zC_i, zC_o]); omega)); (case r5 => first | omega | ((simp (disch := omega) only [zU_c, zU_e, zU_k, zF_c, zF_i, zF_o, zW_o, zW_i, zC_c, zC_i, zC_o]); omega)); (case r6 => first | omega | ((simp (disch := omega) only [zU_c, zU_e, zU_k, zF_c, zF_i, zF_o, zW_o, zW_i, zC_c, zC_i, zC_o]); omega))))
      (first
    | (with_reducible apply z_nm; (case he => repeat (with_reducible first | exact zv_l _ | exact zv_r | apply zv_add | apply zv_sub | apply zv_neg)))
    | (with_reducible apply z_b_ck; (case h => with_unfolding_all rfl))
    | (with_reducible apply z_b_R; (case h => first | with_unfolding_all rfl))
    | (with_reducible apply z_L; (case he => repeat (with_reducible first | exact zv_l _ | exact zv_r | apply zv_add | apply zv_sub | apply zv_neg)); (case hn => with_reducible first | assumption | exact zl_2 | exact zl_6 | exact zl_12 | exact zl_51 | exact zl_53 | exact zl_54); (case h => omega); (case hy => first | ((simp (disch := omega) only [zU_c, zU_e, zU_k, zF_c, zF_i, zF_o, zW_o, zW_i, zC_c, zC_i, zC_o]); rfl) | rfl))
    | with_reducible refine z_bz ?_
    | with_reducible refine z_bzE ?_
    | (with_reducible apply z_bzl; (case h => omega))
    | (with_reducible apply z_7results; (case r1 => first | omega | ((simp (disch := omega) only [zU_c, zU_e, zU_k, zF_c, zF_i, zF_o, zW_o, zW_i, zC_c, zC_i, zC_o]); omega)))
    | (with_reducible apply z_7resultAt; (case e1 => repeat (with_reducible first | exact zv_l _ | exact zv_r | apply zv_add | apply zv_sub | apply zv_neg)); (case r1 => first | omega | ((simp (disch := omega) only [zU_c, zU_e, zU_k, zF_c, zF_i, zF_o, zW_o, zW_i, zC_c, zC_i, zC_o]); omega)))
    | (with_reducible apply z_7brings; (case e1 => repeat (with_reducible first | exact zv_l _ | exact zv_r | apply zv_add | apply zv_sub | apply zv_neg)); (case e2 => repeat (with_reducible first | exact zv_l _ | exact zv_r | apply zv_add | apply zv_sub | apply zv_neg)); (case e3 => repeat (with_reducible first | exact zv_l _ | exact zv_r | apply zv_add | apply zv_sub | apply zv_neg)); (case r1 => first | omega | ((simp (disch := omega) only [zU_c, zU_e, zU_k, zF_c, zF_i, zF_o, zW_o, zW_i, zC_c, zC_i, zC_o]); omega)); (case r2 => first | omega | ((simp (disch := omega) only [zU_c, zU_e, zU_k, zF_c, zF_i, zF_o, zW_o, zW_i, zC_c, zC_i, zC_o]); omega)); (case r3 => first | omega | ((simp (disch := omega) only [zU_c, zU_e, zU_k, zF_c, zF_i, zF_o, zW_o, zW_i, zC_c, zC_i, zC_o]); omega)); (case r4 => first | omega | ((simp (disch := omega) only [zU_c, zU_e, zU_k, zF_c, zF_i, zF_o, zW_o, zW_i, zC_c, zC_i, zC_o]); omega)); (case r5 => first | omega | ((simp (disch := omega) only [zU_c, zU_e, zU_k, zF_c, zF_i, zF_o, zW_o, zW_i, zC_c, zC_i, zC_o]); omega)); (case r6 => first | omega | ((simp (disch := omega) only [zU_c, zU_e, zU_k, zF_c, zF_i, zF_o, zW_o, zW_i, zC_c, zC_i, zC_o]); omega))))
      refine z_ite (fun _ => ?_) (fun _ => ?_)
      · repeat' (first
    | (with_reducible apply z_nm; (case he => repeat (with_reducible first | exact zv_l _ | exact zv_r | apply zv_add | apply zv_sub | apply zv_neg)))
    | (with_reducible apply z_b_ck; (case h => with_unfolding_all rfl))
    | (with_reducible apply z_b_R; (case h => first | with_unfolding_all rfl))
    | (with_reducible apply z_L; (case he => repeat (with_reducible first | exact zv_l _ | exact zv_r | apply zv_add | apply zv_sub | apply zv_neg)); (case hn => with_reducible first | assumption | exact zl_2 | exact zl_6 | exact zl_12 | exact zl_51 | exact zl_53 | exact zl_54); (case h => omega); (case hy => first | ((simp (disch := omega) only [zU_c, zU_e, zU_k, zF_c, zF_i, zF_o, zW_o, zW_i, zC_c, zC_i, zC_o]); rfl) | rfl))
    | with_reducible refine z_bz ?_
    | with_reducible refine z_bzE ?_
    | (with_reducible apply z_bzl; (case h => omega))
    | (with_reducible apply z_7results; (case r1 => first | omega | ((simp (disch := omega) only [zU_c, zU_e, zU_k, zF_c, zF_i, zF_o, zW_o, zW_i, zC_c, zC_i, zC_o]); omega)))
    | (with_reducible apply z_7resultAt; (case e1 => repeat (with_reducible first | exact zv_l _ | exact zv_r | apply zv_add | apply zv_sub | apply zv_neg)); (case r1 => first | omega | ((simp (disch := omega) only [zU_c, zU_e, zU_k, zF_c, zF_i, zF_o, zW_o, zW_i, zC_c, zC_i, zC_o]); omega)))
    | (with_reducible apply z_7brings; (case e1 => repeat (with_reducible first | exact zv_l _ | exact zv_r | apply zv_add | apply zv_sub | apply zv_neg)); (case e2 => repeat (with_reducible first | exact zv_l _ | exact zv_r | apply zv_add | apply zv_sub | apply zv_neg)); (case e3 => repeat (with_reducible first | exact zv_l _ | exact zv_r | apply zv_add | apply zv_sub | apply zv_neg)); (case r1 => first | omega | ((simp (disch := omega) only [zU_c, zU_e, zU_k, zF_c, zF_i, zF_o, zW_o, zW_i, zC_c, zC_i, zC_o]); omega)); (case r2 => first | omega | ((simp (disch := omega) only [zU_c, zU_e, zU_k, zF_c, zF_i, zF_o, zW_o, zW_i, zC_c, zC_i, zC_o]); omega)); (case r3 => first | omega | ((simp (disch := omega) only [zU_c, zU_e, zU_k, zF_c, zF_i, zF_o, zW_o, zW_i, zC_c, zC_i, zC_o]); omega)); (case r4 => first | omega | ((simp (disch := omega) only [zU_c, zU_e, zU_k, zF_c, zF_i, zF_o, zW_o, zW_i, zC_c, zC_i, zC_o]); omega)); (case r5 => first | omega | ((simp (disch := omega) only [zU_c, zU_e, zU_k, zF_c, zF_i, zF_o, zW_o, zW_i, zC_c, zC_i, zC_o]); omega)); (case r6 => first | omega | ((simp (disch := omega) only [zU_c, zU_e, zU_k, zF_c, zF_i, zF_o, zW_o, zW_i, zC_c, zC_i, zC_o]); omega))))
        exact hk2 _ _ _ (by omega) ⟨i + 1, rfl, by omega, by omega, rfl, rfl⟩
      · exact ⟨_, _, rfl, ⟨_, zE_t⟩, zPv_r _⟩
  · have hag := hag (by omega)
    (first
    | (with_reducible apply z_nm; (case he => repeat (with_reducible first | exact zv_l _ | exact zv_r | apply zv_add | apply zv_sub | apply zv_neg)))
    | (with_reducible apply z_b_ck; (case h => with_unfolding_all rfl))
    | (with_reducible apply z_b_R; (case h => first | with_unfolding_all rfl))
    | (with_reducible apply z_L; (case he => repeat (with_reducible first | exact zv_l _ | exact zv_r | apply zv_add | apply zv_sub | apply zv_neg)); (case hn => with_reducible first | assumption | exact zl_2 | exact zl_6 | exact zl_12 | exact zl_51 | exact zl_53 | exact zl_54); (case h => omega); (case hy => first | ((simp (disch := omega) only [zU_c, zU_e, zU_k, zF_c, zF_i, zF_o, zW_o, zW_i, zC_c, zC_i, zC_o]); rfl) | rfl))
    | with_reducible refine z_bz ?_
    | with_reducible refine z_bzE ?_
    | (with_reducible apply z_bzl; (case h => omega))
    | (with_reducible apply z_7results; (case r1 => first | omega | ((simp (disch := omega) only [zU_c, zU_e, zU_k, zF_c, zF_i, zF_o, zW_o, zW_i, zC_c, zC_i, zC_o]); omega)))
    | (with_reducible apply z_7resultAt; (case e1 => repeat (with_reducible first | exact zv_l _ | exact zv_r | apply zv_add | apply zv_sub | apply zv_neg)); (case r1 => first | omega | ((simp (disch := omega) only [zU_c, zU_e, zU_k, zF_c, zF_i, zF_o, zW_o, zW_i, zC_c, zC_i, zC_o]); omega)))
    | (with_reducible apply z_7brings; (case e1 => repeat (with_reducible first | exact zv_l _ | exact zv_r | apply zv_add | apply zv_sub | apply zv_neg)); (case e2 => repeat (with_reducible first | exact zv_l _ | exact zv_r | apply zv_add | apply zv_sub | apply zv_neg)); (case e3 => repeat (with_reducible first | exact zv_l _ | exact zv_r | apply zv_add | apply zv_sub | apply zv_neg)); (case r1 => first | omega | ((simp (disch := omega) only [zU_c, zU_e, zU_k, zF_c, zF_i, zF_o, zW_o, zW_i, zC_c, zC_i, zC_o]); omega)); (case r2 => first | omega | ((simp (disch := omega) only [zU_c, zU_e, zU_k, zF_c, zF_i, zF_o, zW_o, zW_i, zC_c, zC_i, zC_o]); omega)); (case r3 => first | omega | ((simp (disch := omega) only [zU_c, zU_e, zU_k, zF_c, zF_i, zF_o, zW_o, zW_i, zC_c, zC_i, zC_o]); omega)); (case r4 => first | omega | ((simp (disch := omega) only [zU_c, zU_e, zU_k, zF_c, zF_i, zF_o, zW_o, zW_i, zC_c, zC_i, zC_o]); omega)); (case r5 => first | omega | ((simp (disch := omega) only [zU_c, zU_e, zU_k, zF_c, zF_i, zF_o, zW_o, zW_i, zC_c, zC_i, zC_o]); omega)); (case r6 => first | omega | ((simp (disch := omega) only [zU_c, zU_e, zU_k, zF_c, zF_i, zF_o, zW_o, zW_i, zC_c, zC_i, zC_o]); omega))))
    (first
    | (with_reducible apply z_nm; (case he => repeat (with_reducible first | exact zv_l _ | exact zv_r | apply zv_add | apply zv_sub | apply zv_neg)))
    | (with_reducible apply z_b_ck; (case h => with_unfolding_all rfl))
    | (with_reducible apply z_b_R; (case h => first | with_unfolding_all rfl))
    | (with_reducible apply z_L; (case he => repeat (with_reducible first | exact zv_l _ | exact zv_r | apply zv_add | apply zv_sub | apply zv_neg)); (case hn => with_reducible first | assumption | exact zl_2 | exact zl_6 | exact zl_12 | exact zl_51 | exact zl_53 | exact zl_54); (case h => omega); (case hy => first | ((simp (disch := omega) only [zU_c, zU_e, zU_k, zF_c, zF_i, zF_o, zW_o, zW_i, zC_c, zC_i, zC_o]); rfl) | rfl))
    | with_reducible refine z_bz ?_
    | with_reducible refine z_bzE ?_
    | (with_reducible apply z_bzl; (case h => omega))
    | (with_reducible apply z_7results; (case r1 => first | omega | ((simp (disch := omega) only [zU_c, zU_e, zU_k, zF_c, zF_i, zF_o, zW_o, zW_i, zC_c, zC_i, zC_o]); omega)))
    | (with_reducible apply z_7resultAt; (case e1 => repeat (with_reducible first | exact zv_l _ | exact zv_r | apply zv_add | apply zv_sub | apply zv_neg)); (case r1 => first | omega | ((simp (disch := omega) only [zU_c, zU_e, zU_k, zF_c, zF_i, zF_o, zW_o, zW_i, zC_c, zC_i, zC_o]); omega)))
    | (with_reducible apply z_7brings; (case e1 => repeat (with_reducible first | exact zv_l _ | exact zv_r | apply zv_add | apply zv_sub | apply zv_neg)); (case e2 => repeat (with_reducible first | exact zv_l _ | exact zv_r | apply zv_add | apply zv_sub | apply zv_neg)); (case e3 => repeat (with_reducible first | exact zv_l _ | exact zv_r | apply zv_add | apply zv_sub | apply zv_neg)); (case r1 => first | omega | ((simp (disch := omega) only [zU_c, zU_e, zU_k, zF_c, zF_i, zF_o, zW_o, zW_i, zC_c, zC_i, zC_o]); omega)); (case r2 => first | omega | ((simp (disch := omega) only [zU_c, zU_e, zU_k, zF_c, zF_i, zF_o, zW_o, zW_i, zC_c, zC_i, zC_o]); omega)); (case r3 => first | omega | ((simp (disch := omega) only [zU_c, zU_e, zU_k, zF_c, zF_i, zF_o, zW_o, zW_i, zC_c, zC_i, zC_o]); omega)); (case r4 => first | omega | ((simp (disch := omega) only [zU_c, zU_e, zU_k, zF_c, zF_i, zF_o, zW_o, zW_i, zC_c, zC_i, zC_o]); omega)); (case r5 => first | omega | ((simp (disch := omega) only [zU_c, zU_e, zU_k, zF_c, zF_i, zF_o, zW_o, zW_i, zC_c, zC_i, zC_o]); omega)); (case r6 => first | omega | ((simp (disch := omega) only [zU_c, zU_e, zU_k, zF_c, zF_i, zF_o, zW_o, zW_i, zC_c, zC_i, zC_o]); omega))))
    (first
    | (with_reducible apply z_B; all_goals (intro _; try (exfalso; omega)))
    | (with_reducible apply z_E; all_goals intro _)
    | (with_reducible apply z_lt; (case ha => repeat (with_reducible first | exact zv_l _ | exact zv_r | apply zv_add | apply zv_sub | apply zv_neg)); (case hb => repeat (with_reducible first | exact zv_l _ | exact zv_r | apply zv_add | apply zv_sub | apply zv_neg)); (case hx => omega); (case hy => omega); all_goals (intro _; try (exfalso; omega)))
    | (with_reducible apply z_le; (case ha => repeat (with_reducible first | exact zv_l _ | exact zv_r | apply zv_add | apply zv_sub | apply zv_neg)); (case hb => repeat (with_reducible first | exact zv_l _ | exact zv_r | apply zv_add | apply zv_sub | apply zv_neg)); (case hx => omega); (case hy => omega); all_goals (intro _; try (exfalso; omega)))
    | (with_reducible apply z_eq; (case ha => repeat (with_reducible first | exact zv_l _ | exact zv_r | apply zv_add | apply zv_sub | apply zv_neg)); (case hb => repeat (with_reducible first | exact zv_l _ | exact zv_r | apply zv_add | apply zv_sub | apply zv_neg)); (case hx => omega); (case hy => omega); all_goals (intro _; try (exfalso; omega))))
    · refine z_lp (fun n v m2 => ∃ (s i : Int), v = (50, zI t, zI g, zI s, zI i) ∧ (s = 0 ∨ s = 1) ∧ 0 ≤ i ∧ i ≤ 3 ∧ n = (3 - i).toNat ∧ zPv m m2) (fun _ _ v m2 => (∃ p : Prop, v = zI (zE p)) ∧ zPv m m2) ?_ 600 3 _ _ (by omega) ⟨0, 0, rfl, Or.inl rfl, by omega, by omega, by omega, zPv_r _⟩
      rintro n v m2 k2 ⟨s, i, rfl, hs01, i0, i3, rfl, hO⟩ hk2
      have hR2 := zPv_R hO hR
      have e1 : m2 51 1 = m 51 1 := hO 51 (by omega) 1
      unfold f_X7_canBePassed_71
      dsimp only
      refine z_7results hR2.1.2.2 ?_
      have hR23 := zR_23 hR2
      generalize (if m2 51 2 = 0 then (2 : Int) else 3) = R at hR23
      refine z_le (x := R) (y := i) rfl rfl (by omega) (by omega) (fun hle => ?_) (fun hle => ?_)
      · refine z_bzl2 hs01 ?_
        exact ⟨_, _, rfl, z01_E hs01, hO⟩
      · (first
    | (with_reducible apply z_B; all_goals (intro _; try (exfalso; omega)))
    | (with_reducible apply z_E; all_goals intro _)
    | (with_reducible apply z_lt; (case ha => repeat (with_reducible first | exact zv_l _ | exact zv_r | apply zv_add | apply zv_sub | apply zv_neg)); (case hb => repeat (with_reducible first | exact zv_l _ | exact zv_r | apply zv_add | apply zv_sub | apply zv_neg)); (case hx => omega); (case hy => omega); all_goals (intro _; try (exfalso; omega)))
    | (with_reducible apply z_le; (case ha => repeat (with_reducible first | exact zv_l _ | exact zv_r | apply zv_add | apply zv_sub | apply zv_neg)); (case hb => repeat (with_reducible first | exact zv_l _ | exact zv_r | apply zv_add | apply zv_sub | apply zv_neg)); (case hx => omega); (case hy => omega); all_goals (intro _; try (exfalso; omega)))
    | (with_reducible apply z_eq; (case ha => repeat (with_reducible first | exact zv_l _ | exact zv_r | apply zv_add | apply zv_sub | apply zv_neg)); (case hb => repeat (with_reducible first | exact zv_l _ | exact zv_r | apply zv_add | apply zv_sub | apply zv_neg)); (case hx => omega); (case hy => omega); all_goals (intro _; try (exfalso; omega))))
        · refine z_7resultAt rfl (by omega) ?_
          have hra := zRa_02 (i := i) (by omega)
          refine s7_bp hR2 (by omega) hra (zv_l 1) (fun m3 hO3 => ?_)
          have hP3 := zPv_t hO hO3
          have e3 : m3 51 1 = m 51 1 := hP3 51 (by omega) 1
          (first
    | (with_reducible apply z_nm; (case he => repeat (with_reducible first | exact zv_l _ | exact zv_r | apply zv_add | apply zv_sub | apply zv_neg)))
    | (with_reducible apply z_b_ck; (case h => with_unfolding_all rfl))
    | (with_reducible apply z_b_R; (case h => first | with_unfolding_all rfl))
    | (with_reducible apply z_L; (case he => repeat (with_reducible first | exact zv_l _ | exact zv_r | apply zv_add | apply zv_sub | apply zv_neg)); (case hn => with_reducible first | assumption | exact zl_2 | exact zl_6 | exact zl_12 | exact zl_51 | exact zl_53 | exact zl_54); (case h => omega); (case hy => first | ((simp (disch := omega) only [zU_c, zU_e, zU_k, zF_c, zF_i, zF_o, zW_o, zW_i, zC_c, zC_i, zC_o]); rfl) | rfl))
    | with_reducible refine z_bz ?_
    | with_reducible refine z_bzE ?_
    | (with_reducible apply z_bzl; (case h => omega))
    | (with_reducible apply z_7results; (case r1 => first | omega | ((simp (disch := omega) only [zU_c, zU_e, zU_k, zF_c, zF_i, zF_o, zW_o, zW_i, zC_c, zC_i, zC_o]); omega)))
    | (with_reducible apply z_7resultAt; (case e1 => repeat (with_reducible first | exact zv_l _ | exact zv_r | apply zv_add | apply zv_sub | apply zv_neg)); (case r1 => first | omega | ((simp (disch := omega) only [zU_c, zU_e, zU_k, zF_c, zF_i, zF_o, zW_o, zW_i, zC_c, zC_i, zC_o]); omega)))
    | (with_reducible apply z_7brings; (case e1 => repeat (with_reducible first | exact zv_l _ | exact zv_r | apply zv_add | apply zv_sub | apply zv_neg)); (case e2 => repeat (with_reducible first | exact zv_l _ | exact zv_r | apply zv_add | apply zv_sub | apply zv_neg)); (case e3 => repeat (with_reducible first | exact zv_l _ | exact zv_r | apply zv_add | apply zv_sub | apply zv_neg)); (case r1 => first | omega | ((simp (disch := omega) only [zU_c, zU_e, zU_k, zF_c, zF_i, zF_o, zW_o, zW_i, zC_c, zC_i, zC_o]); omega)); (case r2 => first | omega | ((simp (disch := omega) only [zU_c, zU_e, zU_k, zF_c, zF_i, zF_o, zW_o, zW_i, zC_c, zC_i, zC_o]); omega)); (case r3 => first | omega | ((simp (disch := omega) only [zU_c, zU_e, zU_k, zF_c, zF_i, zF_o, zW_o, zW_i, zC_c, zC_i, zC_o]); omega)); (case r4 => first | omega | ((simp (disch := omega) only [zU_c, zU_e, zU_k, zF_c, zF_i, zF_o, zW_o, zW_i, zC_c, zC_i, zC_o]); omega)); (case r5 => first | omega | ((simp (disch := omega) only [zU_c, zU_e, zU_k, zF_c, zF_i, zF_o, zW_o, zW_i, zC_c, zC_i, zC_o]); omega)); (case r6 => first | omega | ((simp (disch := omega) only [zU_c, zU_e, zU_k, zF_c, zF_i, zF_o, zW_o, zW_i, zC_c, zC_i, zC_o]); omega))))
          rw [show zI g + 1 = zI (g + 1) from zv_add rfl (zv_l 1)]
          refine z_call (hrec (m3 51 1 - (g + 1)).toNat (50, zI t, zI (g + 1)) m3 (by omega) ⟨g + 1, rfl, by omega, rfl, zPv_R hP3 hR, zPv_As hP3 hA⟩) (fun v m4 hv => ?_)
          obtain ⟨⟨p, rfl⟩, hO4⟩ := hv
          have hP4 := zPv_t hP3 hO4
          have e4 : m4 51 1 = m 51 1 := hP4 51 (by omega) 1
          refine z_7resultAt rfl (by omega) ?_
          refine s7_bp (zPv_R hP4 hR) (by omega) hra (show (-1 : Int32) = zI (-1) from rfl) (fun m5 hO5 => ?_)
          repeat' (first
    | (with_reducible apply z_nm; (case he => repeat (with_reducible first | exact zv_l _ | exact zv_r | apply zv_add | apply zv_sub | apply zv_neg)))
    | (with_reducible apply z_b_ck; (case h => with_unfolding_all rfl))
    | (with_reducible apply z_b_R; (case h => first | with_unfolding_all rfl))
    | (with_reducible apply z_L; (case he => repeat (with_reducible first | exact zv_l _ | exact zv_r | apply zv_add | apply zv_sub | apply zv_neg)); (case hn => with_reducible first | assumption | exact zl_2 | exact zl_6 | exact zl_12 | exact zl_51 | exact zl_53 | exact zl_54); (case h => omega); (case hy => first | ((simp (disch := omega) only [zU_c, zU_e, zU_k, zF_c, zF_i, zF_o, zW_o, zW_i, zC_c, zC_i, zC_o]); rfl) | rfl))
    | with_reducible refine z_bz ?_
    | with_reducible refine z_bzE ?_
    | (with_reducible apply z_bzl; (case h => omega))
    | (with_reducible apply z_7results; (case r1 => first | omega | ((simp (disch := omega) only [zU_c, zU_e, zU_k, zF_c, zF_i, zF_o, zW_o, zW_i, zC_c, zC_i, zC_o]); omega)))
    | (with_reducible apply z_7resultAt; (case e1 => repeat (with_reducible first | exact zv_l _ | exact zv_r | apply zv_add | apply zv_sub | apply zv_neg)); (case r1 => first | omega | ((simp (disch := omega) only [zU_c, zU_e, zU_k, zF_c, zF_i, zF_o, zW_o, zW_i, zC_c, zC_i, zC_o]); omega)))
    | (with_reducible apply z_7brings; (case e1 => repeat (with_reducible first | exact zv_l _ | exact zv_r | apply zv_add | apply zv_sub | apply zv_neg)); (case e2 => repeat (with_reducible first | exact zv_l _ | exact zv_r | apply zv_add | apply zv_sub | apply zv_neg)); (case e3 => repeat (with_reducible first | exact zv_l _ | exact zv_r | apply zv_add | apply zv_sub | apply zv_neg)); (case r1 => first | omega | ((simp (disch := omega) only [zU_c, zU_e, zU_k, zF_c, zF_i, zF_o, zW_o, zW_i, zC_c, zC_i, zC_o]); omega)); (case r2 => first | omega | ((simp (disch := omega) only [zU_c, zU_e, zU_k, zF_c, zF_i, zF_o, zW_o, zW_i, zC_c, zC_i, zC_o]); omega)); (case r3 => first | omega | ((simp (disch := omega) only [zU_c, zU_e, zU_k, zF_c, zF_i, zF_o, zW_o, zW_i, zC_c, zC_i, zC_o]); omega)); (case r4 => first | omega | ((simp (disch := omega) only [zU_c, zU_e, zU_k, zF_c, zF_i, zF_o, zW_o, zW_i, zC_c, zC_i, zC_o]); omega)); (case r5 => first | omega | ((simp (disch := omega) only [zU_c, zU_e, zU_k, zF_c, zF_i, zF_o, zW_o, zW_i, zC_c, zC_i, zC_o]); omega)); (case r6 => first | omega | ((simp (disch := omega) only [zU_c, zU_e, zU_k, zF_c, zF_i, zF_o, zW_o, zW_i, zC_c, zC_i, zC_o]); omega))))
          exact hk2 _ _ _ (by omega) ⟨zE p, i + 1, rfl, zE_01 p, by omega, by omega, rfl, zPv_t hP4 hO5⟩
        · refine z_bzl2 hs01 ?_
          exact ⟨_, _, rfl, z01_E hs01, hO⟩
    · (first
    | (with_reducible apply z_nm; (case he => repeat (with_reducible first | exact zv_l _ | exact zv_r | apply zv_add | apply zv_sub | apply zv_neg)))
    | (with_reducible apply z_b_ck; (case h => with_unfolding_all rfl))
    | (with_reducible apply z_b_R; (case h => first | with_unfolding_all rfl))
    | (with_reducible apply z_L; (case he => repeat (with_reducible first | exact zv_l _ | exact zv_r | apply zv_add | apply zv_sub | apply zv_neg)); (case hn => with_reducible first | assumption | exact zl_2 | exact zl_6 | exact zl_12 | exact zl_51 | exact zl_53 | exact zl_54); (case h => omega); (case hy => first | ((simp (disch := omega) only [zU_c, zU_e, zU_k, zF_c, zF_i, zF_o, zW_o, zW_i, zC_c, zC_i, zC_o]); rfl) | rfl))
    | with_reducible refine z_bz ?_
    | with_reducible refine z_bzE ?_
    | (with_reducible apply z_bzl; (case h => omega))
    | (with_reducible apply z_7results; (case r1 => first | omega | ((simp (disch := omega) only [zU_c, zU_e, zU_k, zF_c, zF_i, zF_o, zW_o, zW_i, zC_c, zC_i, zC_o]); omega)))
    | (with_reducible apply z_7resultAt; (case e1 => repeat (with_reducible first | exact zv_l _ | exact zv_r | apply zv_add | apply zv_sub | apply zv_neg)); (case r1 => first | omega | ((simp (disch := omega) only [zU_c, zU_e, zU_k, zF_c, zF_i, zF_o, zW_o, zW_i, zC_c, zC_i, zC_o]); omega)))
    | (with_reducible apply z_7brings; (case e1 => repeat (with_reducible first | exact zv_l _ | exact zv_r | apply zv_add | apply zv_sub | apply zv_neg)); (case e2 => repeat (with_reducible first | exact zv_l _ | exact zv_r | apply zv_add | apply zv_sub | apply zv_neg)); (case e3 => repeat (with_reducible first | exact zv_l _ | exact zv_r | apply zv_add | apply zv_sub | apply zv_neg)); (case r1 => first | omega | ((simp (disch := omega) only [zU_c, zU_e, zU_k, zF_c, zF_i, zF_o, zW_o, zW_i, zC_c, zC_i, zC_o]); omega)); (case r2 => first | omega | ((simp (disch := omega) only [zU_c, zU_e, zU_k, zF_c, zF_i, zF_o, zW_o, zW_i, zC_c, zC_i, zC_o]); omega)); (case r3 => first | omega | ((simp (disch := omega) only [zU_c, zU_e, zU_k, zF_c, zF_i, zF_o, zW_o, zW_i, zC_c, zC_i, zC_o]); omega)); (case r4 => first | omega | ((simp (disch := omega) only [zU_c, zU_e, zU_k, zF_c, zF_i, zF_o, zW_o, zW_i, zC_c, zC_i, zC_o]); omega)); (case r5 => first | omega | ((simp (disch := omega) only [zU_c, zU_e, zU_k, zF_c, zF_i, zF_o, zW_o, zW_i, zC_c, zC_i, zC_o]); omega)); (case r6 => first | omega | ((simp (disch := omega) only [zU_c, zU_e, zU_k, zF_c, zF_i, zF_o, zW_o, zW_i, zC_c, zC_i, zC_o]); omega))))
      rw [show zI g + 1 = zI (g + 1) from zv_add rfl (zv_l 1)]
      refine z_call (hrec (m 51 1 - (g + 1)).toNat (50, zI t, zI (g + 1)) m (by omega) ⟨g + 1, rfl, by omega, rfl, hR, hA⟩) (fun v m4 hv => ?_)
      obtain ⟨⟨p, rfl⟩, hO4⟩ := hv
      (first
    | (with_reducible apply z_nm; (case he => repeat (with_reducible first | exact zv_l _ | exact zv_r | apply zv_add | apply zv_sub | apply zv_neg)))
    | (with_reducible apply z_b_ck; (case h => with_unfolding_all rfl))
    | (with_reducible apply z_b_R; (case h => first | with_unfolding_all rfl))
    | (with_reducible apply z_L; (case he => repeat (with_reducible first | exact zv_l _ | exact zv_r | apply zv_add | apply zv_sub | apply zv_neg)); (case hn => with_reducible first | assumption | exact zl_2 | exact zl_6 | exact zl_12 | exact zl_51 | exact zl_53 | exact zl_54); (case h => omega); (case hy => first | ((simp (disch := omega) only [zU_c, zU_e, zU_k, zF_c, zF_i, zF_o, zW_o, zW_i, zC_c, zC_i, zC_o]); rfl) | rfl))
    | with_reducible refine z_bz ?_
    | with_reducible refine z_bzE ?_
    | (with_reducible apply z_bzl; (case h => omega))
    | (with_reducible apply z_7results; (case r1 => first | omega | ((simp (disch := omega) only [zU_c, zU_e, zU_k, zF_c, zF_i, zF_o, zW_o, zW_i, zC_c, zC_i, zC_o]); omega)))
    | (with_reducible apply z_7resultAt; (case e1 => repeat (with_reducible first | exact zv_l _ | exact zv_r | apply zv_add | apply zv_sub | apply zv_neg)); (case r1 => first | omega | ((simp (disch := omega) only [zU_c, zU_e, zU_k, zF_c, zF_i, zF_o, zW_o, zW_i, zC_c, zC_i, zC_o]); omega)))
    | (with_reducible apply z_7brings; (case e1 => repeat (with_reducible first | exact zv_l _ | exact zv_r | apply zv_add | apply zv_sub | apply zv_neg)); (case e2 => repeat (with_reducible first | exact zv_l _ | exact zv_r | apply zv_add | apply zv_sub | apply zv_neg)); (case e3 => repeat (with_reducible first | exact zv_l _ | exact zv_r | apply zv_add | apply zv_sub | apply zv_neg)); (case r1 => first | omega | ((simp (disch := omega) only [zU_c, zU_e, zU_k, zF_c, zF_i, zF_o, zW_o, zW_i, zC_c, zC_i, zC_o]); omega)); (case r2 => first | omega | ((simp (disch := omega) only [zU_c, zU_e, zU_k, zF_c, zF_i, zF_o, zW_o, zW_i, zC_c, zC_i, zC_o]); omega)); (case r3 => first | omega | ((simp (disch := omega) only [zU_c, zU_e, zU_k, zF_c, zF_i, zF_o, zW_o, zW_i, zC_c, zC_i, zC_o]); omega)); (case r4 => first | omega | ((simp (disch := omega) only [zU_c, zU_e, zU_k, zF_c, zF_i, zF_o, zW_o, zW_i, zC_c, zC_i, zC_o]); omega)); (case r5 => first | omega | ((simp (disch := omega) only [zU_c, zU_e, zU_k, zF_c, zF_i, zF_o, zW_o, zW_i, zC_c, zC_i, zC_o]); omega)); (case r6 => first | omega | ((simp (disch := omega) only [zU_c, zU_e, zU_k, zF_c, zF_i, zF_o, zW_o, zW_i, zC_c, zC_i, zC_o]); omega))))
      exact ⟨_, _, rfl, ⟨p, rfl⟩, hO4⟩
set_option maxRecDepth 100000 in
set_option maxHeartbeats 1000000 in
theorem s7_runsSo {m : zMe} {s g : Int} (hs : 0 ≤ s ∧ s < 4) (hR : zRw m) (hA : zAs m) (hz : 0 ≤ m 60 s ∧ m 60 s ≤ m 51 0) (hg : 0 ≤ g ∧ g ≤ m 51 1) : zOk (f_X7_runsSo 12 50 (zI s) (zI g) (zM m)) (fun (_ : Int32) m1 => zPv m m1) := by
  refine z_lp (fun n v m1 => ∃ g : Int, v = (50, zI s, zI g) ∧ (0 ≤ g ∧ g ≤ m1 51 1) ∧ n = (m1 51 1 - g).toNat ∧ zRw m1 ∧ zAs m1 ∧ (0 ≤ m1 60 s ∧ m1 60 s ≤ m1 51 0)) (fun _ m1 v m2 => zPv m1 m2) ?_ 12 (m 51 1 - g).toNat (50, zI s, zI g) m (by have := hR.1.2.1; omega) ⟨g, rfl, hg, rfl, hR, hA, hz⟩
  clear hg hA hR hz g m
  rintro n v m k ⟨g, rfl, hg, rfl, hR, hA, hz⟩ hrec
  have hN := hR.1.2.1
  have hT := hR.1.1
  have hag := hA g hg.1
  have hzz : ∀ m1, zPv m m1 → 0 ≤ m1 60 s ∧ m1 60 s ≤ m1 51 0 := fun m1 h => by
    rw [h 60 (by omega), h 51 (by omega)]
    exact hz
  show zOk (f_X7_runsSo_r k 50 (zI s) (zI g) (zM m)) _
  unfold f_X7_runsSo_r
  (first
    | (with_reducible apply z_nm; (case he => repeat (with_reducible first | exact zv_l _ | exact zv_r | apply zv_add | apply zv_sub | apply zv_mul | apply zv_neg)))
    | (with_reducible apply z_b_ck; (case h => with_unfolding_all rfl))
    | (with_reducible apply z_b_R; (case h => first | with_unfolding_all rfl))
    | (with_reducible apply z_L; (case he => repeat (with_reducible first | exact zv_l _ | exact zv_r | apply zv_add | apply zv_sub | apply zv_mul | apply zv_neg)); (case hn => with_reducible first | assumption | exact zl_2 | exact zl_4 | exact zl_12 | exact zl_51 | exact zl_53 | exact zl_54 | exact zl_60 | exact zl_61); (case h => omega); (case hy => first | ((simp (disch := omega) only [zU_c, zU_e, zU_k, zF_c, zF_i, zF_o, zW_o, zW_i, zC_c, zC_i, zC_o]); rfl) | rfl))
    | (with_reducible apply z_7results; (case r1 => first | omega | ((simp (disch := omega) only [zU_c, zU_e, zU_k, zF_c, zF_i, zF_o, zW_o, zW_i, zC_c, zC_i, zC_o]); omega)))
    | (with_reducible apply z_7resultAt; (case e1 => repeat (with_reducible first | exact zv_l _ | exact zv_r | apply zv_add | apply zv_sub | apply zv_mul | apply zv_neg)); (case r1 => first | omega | ((simp (disch := omega) only [zU_c, zU_e, zU_k, zF_c, zF_i, zF_o, zW_o, zW_i, zC_c, zC_i, zC_o]); omega)))
    | (with_reducible apply z_7brings; (case e1 => repeat (with_reducible first | exact zv_l _ | exact zv_r | apply zv_add | apply zv_sub | apply zv_mul | apply zv_neg)); (case e2 => repeat (with_reducible first | exact zv_l _ | exact zv_r | apply zv_add | apply zv_sub | apply zv_mul | apply zv_neg)); (case e3 => repeat (with_reducible first | exact zv_l _ | exact zv_r | apply zv_add | apply zv_sub | apply zv_mul | apply zv_neg)); (case r1 => first | omega | ((simp (disch := omega) only [zU_c, zU_e, zU_k, zF_c, zF_i, zF_o, zW_o, zW_i, zC_c, zC_i, zC_o]); omega)); (case r2 => first | omega | ((simp (disch := omega) only [zU_c, zU_e, zU_k, zF_c, zF_i, zF_o, zW_o, zW_i, zC_c, zC_i, zC_o]); omega)); (case r3 => first | omega | ((simp (disch := omega) only [zU_c, zU_e, zU_k, zF_c, zF_i, zF_o, zW_o, zW_i, zC_c, zC_i, zC_o]); omega)); (case r4 => first | omega | ((simp (disch := omega) only [zU_c, zU_e, zU_k, zF_c, zF_i, zF_o, zW_o, zW_i, zC_c, zC_i, zC_o]); omega)); (case r5 => first | omega | ((simp (disch := omega) only [zU_c, zU_e, zU_k, zF_c, zF_i, zF_o, zW_o, zW_i, zC_c, zC_i, zC_o]); omega)); (case r6 => first | omega | ((simp (disch := omega) only [zU_c, zU_e, zU_k, zF_c, zF_i, zF_o, zW_o, zW_i, zC_c, zC_i, zC_o]); omega))))
  (first
    | (with_reducible apply z_nm; (case he => repeat (with_reducible first | exact zv_l _ | exact zv_r | apply zv_add | apply zv_sub | apply zv_mul | apply zv_neg)))
    | (with_reducible apply z_b_ck; (case h => with_unfolding_all rfl))
    | (with_reducible apply z_b_R; (case h => first | with_unfolding_all rfl))
    | (with_reducible apply z_L; (case he => repeat (with_reducible first | exact zv_l _ | exact zv_r | apply zv_add | apply zv_sub | apply zv_mul | apply zv_neg)); (case hn => with_reducible first | assumption | exact zl_2 | exact zl_4 | exact zl_12 | exact zl_51 | exact zl_53 | exact zl_54 | exact zl_60 | exact zl_61); (case h => omega); (case hy => first | ((simp (disch := omega) only [zU_c, zU_e, zU_k, zF_c, zF_i, zF_o, zW_o, zW_i, zC_c, zC_i, zC_o]); rfl) | rfl))
    | (with_reducible apply z_7results; (case r1 => first | omega | ((simp (disch := omega) only [zU_c, zU_e, zU_k, zF_c, zF_i, zF_o, zW_o, zW_i, zC_c, zC_i, zC_o]); omega)))
    | (with_reducible apply z_7resultAt; (case e1 => repeat (with_reducible first | exact zv_l _ | exact zv_r | apply zv_add | apply zv_sub | apply zv_mul | apply zv_neg)); (case r1 => first | omega | ((simp (disch := omega) only [zU_c, zU_e, zU_k, zF_c, zF_i, zF_o, zW_o, zW_i, zC_c, zC_i, zC_o]); omega)))
    | (with_reducible apply z_7brings; (case e1 => repeat (with_reducible first | exact zv_l _ | exact zv_r | apply zv_add | apply zv_sub | apply zv_mul | apply zv_neg)); (case e2 => repeat (with_reducible first | exact zv_l _ | exact zv_r | apply zv_add | apply zv_sub | apply zv_mul | apply zv_neg)); (case e3 => repeat (with_reducible first | exact zv_l _ | exact zv_r | apply zv_add | apply zv_sub | apply zv_mul | apply zv_neg)); (case r1 => first | omega | ((simp (disch := omega) only [zU_c, zU_e, zU_k, zF_c, zF_i, zF_o, zW_o, zW_i, zC_c, zC_i, zC_o]); omega)); (case r2 => first | omega | ((simp (disch := omega) only [zU_c, zU_e, zU_k, zF_c, zF_i, zF_o, zW_o, zW_i, zC_c, zC_i, zC_o]); omega)); (case r3 => first | omega | ((simp (disch := omega) only [zU_c, zU_e, zU_k, zF_c, zF_i, zF_o, zW_o, zW_i, zC_c, zC_i, zC_o]); omega)); (case r4 => first | omega | ((simp (disch := omega) only [zU_c, zU_e, zU_k, zF_c, zF_i, zF_o, zW_o, zW_i, zC_c, zC_i, zC_o]); omega)); (case r5 => first | omega | ((simp (disch := omega) only [zU_c, zU_e, zU_k, zF_c, zF_i, zF_o, zW_o, zW_i, zC_c, zC_i, zC_o]); omega)); (case r6 => first | omega | ((simp (disch := omega) only [zU_c, zU_e, zU_k, zF_c, zF_i, zF_o, zW_o, zW_i, zC_c, zC_i, zC_o]); omega))))
  (first
    | (with_reducible apply z_nm; (case he => repeat (with_reducible first | exact zv_l _ | exact zv_r | apply zv_add | apply zv_sub | apply zv_mul | apply zv_neg)))
    | (with_reducible apply z_b_ck; (case h => with_unfolding_all rfl))
    | (with_reducible apply z_b_R; (case h => first | with_unfolding_all rfl))
    | (with_reducible apply z_L; (case he => repeat (with_reducible first | exact zv_l _ | exact zv_r | apply zv_add | apply zv_sub | apply zv_mul | apply zv_neg)); (case hn => with_reducible first | assumption | exact zl_2 | exact zl_4 | exact zl_12 | exact zl_51 | exact zl_53 | exact zl_54 | exact zl_60 | exact zl_61); (case h => omega); (case hy => first | ((simp (disch := omega) only [zU_c, zU_e, zU_k, zF_c, zF_i, zF_o, zW_o, zW_i, zC_c, zC_i, zC_o]); rfl) | rfl))
    | (with_reducible apply z_7results; (case r1 => first | omega | ((simp (disch := omega) only [zU_c, zU_e, zU_k, zF_c, zF_i, zF_o, zW_o, zW_i, zC_c, zC_i, zC_o]); omega)))
    | (with_reducible apply z_7resultAt; (case e1 => repeat (with_reducible first | exact zv_l _ | exact zv_r | apply zv_add | apply zv_sub | apply zv_mul | apply zv_neg)); (case r1 => first | omega | ((simp (disch := omega) only [zU_c, zU_e, zU_k, zF_c, zF_i, zF_o, zW_o, zW_i, zC_c, zC_i, zC_o]); omega)))
    | (with_reducible apply z_7brings; (case e1 => repeat (with_reducible first | exact zv_l _ | exact zv_r | apply zv_add | apply zv_sub | apply zv_mul | apply zv_neg)); (case e2 => repeat (with_reducible first | exact zv_l _ | exact zv_r | apply zv_add | apply zv_sub | apply zv_mul | apply zv_neg)); (case e3 => repeat (with_reducible first | exact zv_l _ | exact zv_r | apply zv_add | apply zv_sub | apply zv_mul | apply zv_neg)); (case r1 => first | omega | ((simp (disch := omega) only [zU_c, zU_e, zU_k, zF_c, zF_i, zF_o, zW_o, zW_i, zC_c, zC_i, zC_o]); omega)); (case r2 => first | omega | ((simp (disch := omega) only [zU_c, zU_e, zU_k, zF_c, zF_i, zF_o, zW_o, zW_i, zC_c, zC_i, zC_o]); omega)); (case r3 => first | omega | ((simp (disch := omega) only [zU_c, zU_e, zU_k, zF_c, zF_i, zF_o, zW_o, zW_i, zC_c, zC_i, zC_o]); omega)); (case r4 => first | omega | ((simp (disch := omega) only [zU_c, zU_e, zU_k, zF_c, zF_i, zF_o, zW_o, zW_i, zC_c, zC_i, zC_o]); omega)); (case r5 => first | omega | ((simp (disch := omega) only [zU_c, zU_e, zU_k, zF_c, zF_i, zF_o, zW_o, zW_i, zC_c, zC_i, zC_o]); omega)); (case r6 => first | omega | ((simp (disch := omega) only [zU_c, zU_e, zU_k, zF_c, zF_i, zF_o, zW_o, zW_i, zC_c, zC_i, zC_o]); omega))))
  (first
    | (with_reducible apply z_B; all_goals (intro _; try (exfalso; omega)))
    | (with_reducible apply z_E; all_goals intro _)
    | (with_reducible apply z_lt; (case ha => repeat (with_reducible first | exact zv_l _ | exact zv_r | apply zv_add | apply zv_sub | apply zv_mul | apply zv_neg)); (case hb => repeat (with_reducible first | exact zv_l _ | exact zv_r | apply zv_add | apply zv_sub | apply zv_mul | apply zv_neg)); (case hx => omega); (case hy => omega); all_goals (intro _; try (exfalso; omega)))
    | (with_reducible apply z_le; (case ha => repeat (with_reducible first | exact zv_l _ | exact zv_r | apply zv_add | apply zv_sub | apply zv_mul | apply zv_neg)); (case hb => repeat (with_reducible first | exact zv_l _ | exact zv_r | apply zv_add | apply zv_sub | apply zv_mul | apply zv_neg)); (case hx => omega); (case hy => omega); all_goals (intro _; try (exfalso; omega)))
    | (with_reducible apply z_eq; (case ha => repeat (with_reducible first | exact zv_l _ | exact zv_r | apply zv_add | apply zv_sub | apply zv_mul | apply zv_neg)); (case hb => repeat (with_reducible first | exact zv_l _ | exact zv_r | apply zv_add | apply zv_sub | apply zv_mul | apply zv_neg)); (case hx => omega); (case hy => omega); all_goals (intro _; try (exfalso; omega))))
  · refine z_lp (fun n v m1 => ∃ i : Int, v = (50, zI s, zI i) ∧ 0 ≤ i ∧ i ≤ m 60 s ∧ n = (m 60 s - i).toNat ∧ m1 = m) (fun _ _ v m1 => zPv m m1) ?_ 600 (m 60 s).toNat _ _ (by omega) ⟨0, rfl, by omega, by omega, by omega, rfl⟩
    rintro n v m1 k2 ⟨i, rfl, h0, h1, rfl, rfl⟩ hk2
    unfold f_X7_runsSo_12
    dsimp only
    (first
    | (with_reducible apply z_nm; (case he => repeat (with_reducible first | exact zv_l _ | exact zv_r | apply zv_add | apply zv_sub | apply zv_mul | apply zv_neg)))
    | (with_reducible apply z_b_ck; (case h => with_unfolding_all rfl))
    | (with_reducible apply z_b_R; (case h => first | with_unfolding_all rfl))
    | (with_reducible apply z_L; (case he => repeat (with_reducible first | exact zv_l _ | exact zv_r | apply zv_add | apply zv_sub | apply zv_mul | apply zv_neg)); (case hn => with_reducible first | assumption | exact zl_2 | exact zl_4 | exact zl_12 | exact zl_51 | exact zl_53 | exact zl_54 | exact zl_60 | exact zl_61); (case h => omega); (case hy => first | ((simp (disch := omega) only [zU_c, zU_e, zU_k, zF_c, zF_i, zF_o, zW_o, zW_i, zC_c, zC_i, zC_o]); rfl) | rfl))
    | (with_reducible apply z_7results; (case r1 => first | omega | ((simp (disch := omega) only [zU_c, zU_e, zU_k, zF_c, zF_i, zF_o, zW_o, zW_i, zC_c, zC_i, zC_o]); omega)))
    | (with_reducible apply z_7resultAt; (case e1 => repeat (with_reducible first | exact zv_l _ | exact zv_r | apply zv_add | apply zv_sub | apply zv_mul | apply zv_neg)); (case r1 => first | omega | ((simp (disch := omega) only [zU_c, zU_e, zU_k, zF_c, zF_i, zF_o, zW_o, zW_i, zC_c, zC_i, zC_o]); omega)))
    | (with_reducible apply z_7brings; (case e1 => repeat (with_reducible first | exact zv_l _ | exact zv_r | apply zv_add | apply zv_sub | apply zv_mul | apply zv_neg)); (case e2 => repeat (with_reducible first | exact zv_l _ | exact zv_r | apply zv_add | apply zv_sub | apply zv_mul | apply zv_neg)); (case e3 => repeat (with_reducible first | exact zv_l _ | exact zv_r | apply zv_add | apply zv_sub | apply zv_mul | apply zv_neg)); (case r1 => first | omega | ((simp (disch := omega) only [zU_c, zU_e, zU_k, zF_c, zF_i, zF_o, zW_o, zW_i, zC_c, zC_i, zC_o]); omega)); (case r2 => first | omega | ((simp (disch := omega) only [zU_c, zU_e, zU_k, zF_c, zF_i, zF_o, zW_o, zW_i, zC_c, zC_i, zC_o]); omega)); (case r3 => first | omega | ((simp (disch := omega) only [zU_c, zU_e, zU_k, zF_c, zF_i, zF_o, zW_o, zW_i, zC_c, zC_i, zC_o]); omega)); (case r4 => first | omega | ((simp (disch := omega) only [zU_c, zU_e, zU_k, zF_c, zF_i, zF_o, zW_o, zW_i, zC_c, zC_i, zC_o]); omega)); (case r5 => first | omega | ((simp (disch := omega) only [zU_c, zU_e, zU_k, zF_c, zF_i, zF_o, zW_o, zW_i, zC_c, zC_i, zC_o]); omega)); (case r6 => first | omega | ((simp (disch := omega) only [zU_c, zU_e, zU_k, zF_c, zF_i, zF_o, zW_o, zW_i, zC_c, zC_i, zC_o]); omega))))
    (first
    | (with_reducible apply z_nm; (case he => repeat (with_reducible first | exact zv_l _ | exact zv_r | apply zv_add | apply zv_sub | apply zv_mul | apply zv_neg)))
    | (with_reducible apply z_b_ck; (case h => with_unfolding_all rfl))
    | (with_reducible apply z_b_R; (case h => first | with_unfolding_all rfl))
    | (with_reducible apply z_L; (case he => repeat (with_reducible first | exact zv_l _ | exact zv_r | apply zv_add | apply zv_sub | apply zv_mul | apply zv_neg)); (case hn => with_reducible first | assumption | exact zl_2 | exact zl_4 | exact zl_12 | exact zl_51 | exact zl_53 | exact zl_54 | exact zl_60 | exact zl_61); (case h => omega); (case hy => first | ((simp (disch := omega) only [zU_c, zU_e, zU_k, zF_c, zF_i, zF_o, zW_o, zW_i, zC_c, zC_i, zC_o]); rfl) | rfl))
    | (with_reducible apply z_7results; (case r1 => first | omega | ((simp (disch := omega) only [zU_c, zU_e, zU_k, zF_c, zF_i, zF_o, zW_o, zW_i, zC_c, zC_i, zC_o]); omega)))
    | (with_reducible apply z_7resultAt; (case e1 => repeat (with_reducible first | exact zv_l _ | exact zv_r | apply zv_add | apply zv_sub | apply zv_mul | apply zv_neg)); (case r1 => first | omega | ((simp (disch := omega) only [zU_c, zU_e, zU_k, zF_c, zF_i, zF_o, zW_o, zW_i, zC_c, zC_i, zC_o]); omega)))
    | (with_reducible apply z_7brings; (case e1 => repeat (with_reducible first | exact zv_l _ | exact zv_r | apply zv_add | apply zv_sub | apply zv_mul | apply zv_neg)); (case e2 => repeat (with_reducible first | exact zv_l _ | exact zv_r | apply zv_add | apply zv_sub | apply zv_mul | apply zv_neg)); (case e3 => repeat (with_reducible first | exact zv_l _ | exact zv_r | apply zv_add | apply zv_sub | apply zv_mul | apply zv_neg)); (case r1 => first | omega | ((simp (disch := omega) only [zU_c, zU_e, zU_k, zF_c, zF_i, zF_o, zW_o, zW_i, zC_c, zC_i, zC_o]); omega)); (case r2 => first | omega | ((simp (disch := omega) only [zU_c, zU_e, zU_k, zF_c, zF_i, zF_o, zW_o, zW_i, zC_c, zC_i, zC_o]); omega)); (case r3 => first | omega | ((simp (disch := omega) only [zU_c, zU_e, zU_k, zF_c, zF_i, zF_o, zW_o, zW_i, zC_c, zC_i, zC_o]); omega)); (case r4 => first | omega | ((simp (disch := omega) only [zU_c, zU_e, zU_k, zF_c, zF_i, zF_o, zW_o, zW_i, zC_c, zC_i, zC_o]); omega)); (case r5 => first | omega | ((simp (disch := omega) only [zU_c, zU_e, zU_k, zF_c, zF_i, zF_o, zW_o, zW_i, zC_c, zC_i, zC_o]); omega)); (case r6 => first | omega | ((simp (disch := omega) only [zU_c, zU_e, zU_k, zF_c, zF_i, zF_o, zW_o, zW_i, zC_c, zC_i, zC_o]); omega))))
    (first
    | (with_reducible apply z_B; all_goals (intro _; try (exfalso; omega)))
    | (with_reducible apply z_E; all_goals intro _)
    | (with_reducible apply z_lt; (case ha => repeat (with_reducible first | exact zv_l _ | exact zv_r | apply zv_add | apply zv_sub | apply zv_mul | apply zv_neg)); (case hb => repeat (with_reducible first | exact zv_l _ | exact zv_r | apply zv_add | apply zv_sub | apply zv_mul | apply zv_neg)); (case hx => omega); (case hy => omega); all_goals (intro _; try (exfalso; omega)))
    | (with_reducible apply z_le; (case ha => repeat (with_reducible first | exact zv_l _ | exact zv_r | apply zv_add | apply zv_sub | apply zv_mul | apply zv_neg)); (case hb => repeat (with_reducible first | exact zv_l _ | exact zv_r | apply zv_add | apply zv_sub | apply zv_mul | apply zv_neg)); (case hx => omega); (case hy => omega); all_goals (intro _; try (exfalso; omega)))
    | (with_reducible apply z_eq; (case ha => repeat (with_reducible first | exact zv_l _ | exact zv_r | apply zv_add | apply zv_sub | apply zv_mul | apply zv_neg)); (case hb => repeat (with_reducible first | exact zv_l _ | exact zv_r | apply zv_add | apply zv_sub | apply zv_mul | apply zv_neg)); (case hx => omega); (case hy => omega); all_goals (intro _; try (exfalso; omega))))
    · exact ⟨_, _, rfl, zPv_r _⟩
    · (first
    | (with_reducible apply z_nm; (case he => repeat (with_reducible first | exact zv_l _ | exact zv_r | apply zv_add | apply zv_sub | apply zv_mul | apply zv_neg)))
    | (with_reducible apply z_b_ck; (case h => with_unfolding_all rfl))
    | (with_reducible apply z_b_R; (case h => first | with_unfolding_all rfl))
    | (with_reducible apply z_L; (case he => repeat (with_reducible first | exact zv_l _ | exact zv_r | apply zv_add | apply zv_sub | apply zv_mul | apply zv_neg)); (case hn => with_reducible first | assumption | exact zl_2 | exact zl_4 | exact zl_12 | exact zl_51 | exact zl_53 | exact zl_54 | exact zl_60 | exact zl_61); (case h => omega); (case hy => first | ((simp (disch := omega) only [zU_c, zU_e, zU_k, zF_c, zF_i, zF_o, zW_o, zW_i, zC_c, zC_i, zC_o]); rfl) | rfl))
    | (with_reducible apply z_7results; (case r1 => first | omega | ((simp (disch := omega) only [zU_c, zU_e, zU_k, zF_c, zF_i, zF_o, zW_o, zW_i, zC_c, zC_i, zC_o]); omega)))
    | (with_reducible apply z_7resultAt; (case e1 => repeat (with_reducible first | exact zv_l _ | exact zv_r | apply zv_add | apply zv_sub | apply zv_mul | apply zv_neg)); (case r1 => first | omega | ((simp (disch := omega) only [zU_c, zU_e, zU_k, zF_c, zF_i, zF_o, zW_o, zW_i, zC_c, zC_i, zC_o]); omega)))
    | (with_reducible apply z_7brings; (case e1 => repeat (with_reducible first | exact zv_l _ | exact zv_r | apply zv_add | apply zv_sub | apply zv_mul | apply zv_neg)); (case e2 => repeat (with_reducible first | exact zv_l _ | exact zv_r | apply zv_add | apply zv_sub | apply zv_mul | apply zv_neg)); (case e3 => repeat (with_reducible first | exact zv_l _ | exact zv_r | apply zv_add | apply zv_sub | apply zv_mul | apply zv_neg)); (case r1 => first | omega | ((simp (disch := omega) only [zU_c, zU_e, zU_k, zF_c, zF_i, zF_o, zW_o, zW_i, zC_c, zC_i, zC_o]); omega)); (case r2 => first | omega | ((simp (disch := omega) only [zU_c, zU_e, zU_k, zF_c, zF_i, zF_o, zW_o, zW_i, zC_c, zC_i, zC_o]); omega)); (case r3 => first | omega | ((simp (disch := omega) only [zU_c, zU_e, zU_k, zF_c, zF_i, zF_o, zW_o, zW_i, zC_c, zC_i, zC_o]); omega)); (case r4 => first | omega | ((simp (disch := omega) only [zU_c, zU_e, zU_k, zF_c, zF_i, zF_o, zW_o, zW_i, zC_c, zC_i, zC_o]); omega)); (case r5 => first | omega | ((simp (disch := omega) only [zU_c, zU_e, zU_k, zF_c, zF_i, zF_o, zW_o, zW_i, zC_c, zC_i, zC_o]); omega)); (case r6 => first | omega | ((simp (disch := omega) only [zU_c, zU_e, zU_k, zF_c, zF_i, zF_o, zW_o, zW_i, zC_c, zC_i, zC_o]); omega))))
      (first
    | (with_reducible apply z_nm; (case he => repeat (with_reducible first | exact zv_l _ | exact zv_r | apply zv_add | apply zv_sub | apply zv_mul | apply zv_neg)))
    | (with_reducible apply z_b_ck; (case h => with_unfolding_all rfl))
    | (with_reducible apply z_b_R; (case h => first | with_unfolding_all rfl))
    | (with_reducible apply z_L; (case he => repeat (with_reducible first | exact zv_l _ | exact zv_r | apply zv_add | apply zv_sub | apply zv_mul | apply zv_neg)); (case hn => with_reducible first | assumption | exact zl_2 | exact zl_4 | exact zl_12 | exact zl_51 | exact zl_53 | exact zl_54 | exact zl_60 | exact zl_61); (case h => omega); (case hy => first | ((simp (disch := omega) only [zU_c, zU_e, zU_k, zF_c, zF_i, zF_o, zW_o, zW_i, zC_c, zC_i, zC_o]); rfl) | rfl))
    | (with_reducible apply z_7results; (case r1 => first | omega | ((simp (disch := omega) only [zU_c, zU_e, zU_k, zF_c, zF_i, zF_o, zW_o, zW_i, zC_c, zC_i, zC_o]); omega)))
    | (with_reducible apply z_7resultAt; (case e1 => repeat (with_reducible first | exact zv_l _ | exact zv_r | apply zv_add | apply zv_sub | apply zv_mul | apply zv_neg)); (case r1 => first | omega | ((simp (disch := omega) only [zU_c, zU_e, zU_k, zF_c, zF_i, zF_o, zW_o, zW_i, zC_c, zC_i, zC_o]); omega)))
    | (with_reducible apply z_7brings; (case e1 => repeat (with_reducible first | exact zv_l _ | exact zv_r | apply zv_add | apply zv_sub | apply zv_mul | apply zv_neg)); (case e2 => repeat (with_reducible first | exact zv_l _ | exact zv_r | apply zv_add | apply zv_sub | apply zv_mul | apply zv_neg)); (case e3 => repeat (with_reducible first | exact zv_l _ | exact zv_r | apply zv_add | apply zv_sub | apply zv_mul | apply zv_neg)); (case r1 => first | omega | ((simp (disch := omega) only [zU_c, zU_e, zU_k, zF_c, zF_i, zF_o, zW_o, zW_i, zC_c, zC_i, zC_o]); omega)); (case r2 => first | omega | ((simp (disch := omega) only [zU_c, zU_e, zU_k, zF_c, zF_i, zF_o, zW_o, zW_i, zC_c, zC_i, zC_o]); omega)); (case r3 => first | omega | ((simp (disch := omega) only [zU_c, zU_e, zU_k, zF_c, zF_i, zF_o, zW_o, zW_i, zC_c, zC_i, zC_o]); omega)); (case r4 => first | omega | ((simp (disch := omega) only [zU_c, zU_e, zU_k, zF_c, zF_i, zF_o, zW_o, zW_i, zC_c, zC_i, zC_o]); omega)); (case r5 => first | omega | ((simp (disch := omega) only [zU_c, zU_e, zU_k, zF_c, zF_i, zF_o, zW_o, zW_i, zC_c, zC_i, zC_o]); omega)); (case r6 => first | omega | ((simp (disch := omega) only [zU_c, zU_e, zU_k, zF_c, zF_i, zF_o, zW_o, zW_i, zC_c, zC_i, zC_o]); omega))))
      (first
    | (with_reducible apply z_nm; (case he => repeat (with_reducible first | exact zv_l _ | exact zv_r | apply zv_add | apply zv_sub | apply zv_mul | apply zv_neg)))
    | (with_reducible apply z_b_ck; (case h => with_unfolding_all rfl))
    | (with_reducible apply z_b_R; (case h => first | with_unfolding_all rfl))
    | (with_reducible apply z_L; (case he => repeat (with_reducible first | exact zv_l _ | exact zv_r | apply zv_add | apply zv_sub | apply zv_mul | apply zv_neg)); (case hn => with_reducible first | assumption | exact zl_2 | exact zl_4 | exact zl_12 | exact zl_51 | exact zl_53 | exact zl_54 | exact zl_60 | exact zl_61); (case h => omega); (case hy => first | ((simp (disch := omega) only [zU_c, zU_e, zU_k, zF_c, zF_i, zF_o, zW_o, zW_i, zC_c, zC_i, zC_o]); rfl) | rfl))
    | (with_reducible apply z_7results; (case r1 => first | omega | ((simp (disch := omega) only [zU_c, zU_e, zU_k, zF_c, zF_i, zF_o, zW_o, zW_i, zC_c, zC_i, zC_o]); omega)))
    | (with_reducible apply z_7resultAt; (case e1 => repeat (with_reducible first | exact zv_l _ | exact zv_r | apply zv_add | apply zv_sub | apply zv_mul | apply zv_neg)); (case r1 => first | omega | ((simp (disch := omega) only [zU_c, zU_e, zU_k, zF_c, zF_i, zF_o, zW_o, zW_i, zC_c, zC_i, zC_o]); omega)))
    | (with_reducible apply z_7brings; (case e1 => repeat (with_reducible first | exact zv_l _ | exact zv_r | apply zv_add | apply zv_sub | apply zv_mul | apply zv_neg)); (case e2 => repeat (with_reducible first | exact zv_l _ | exact zv_r | apply zv_add | apply zv_sub | apply zv_mul | apply zv_neg)); (case e3 => repeat (with_reducible first | exact zv_l _ | exact zv_r | apply zv_add | apply zv_sub | apply zv_mul | apply zv_neg)); (case r1 => first | omega | ((simp (disch := omega) only [zU_c, zU_e, zU_k, zF_c, zF_i, zF_o, zW_o, zW_i, zC_c, zC_i, zC_o]); omega)); (case r2 => first | omega | ((simp (disch := omega) only [zU_c, zU_e, zU_k, zF_c, zF_i, zF_o, zW_o, zW_i, zC_c, zC_i, zC_o]); omega)); (case r3 => first | omega | ((simp (disch := omega) only [zU_c, zU_e, zU_k, zF_c, zF_i, zF_o, zW_o, zW_i, zC_c, zC_i, zC_o]); omega)); (case r4 => first | omega | ((simp (disch := omega) only [zU_c, zU_e, zU_k, zF_c, zF_i, zF_o, zW_o, zW_i, zC_c, zC_i, zC_o]); omega)); (case r5 => first | omega | ((simp (disch := omega) only [zU_c, zU_e, zU_k, zF_c, zF_i, zF_o, zW_o, zW_i, zC_c, zC_i, zC_o]); omega)); (case r6 => first | omega | ((simp (disch := omega) only [zU_c, zU_e, zU_k, zF_c, zF_i, zF_o, zW_o, zW_i, zC_c, zC_i, zC_o]); omega))))
      (first
    | (with_reducible apply z_nm; (case he => repeat (with_reducible first | exact zv_l _ | exact zv_r | apply zv_add | apply zv_sub | apply zv_mul | apply zv_neg)))
    | (with_reducible apply z_b_ck; (case h => with_unfolding_all rfl))
    | (with_reducible apply z_b_R; (case h => first | with_unfolding_all rfl))
    | (with_reducible apply z_L; (case he => repeat (with_reducible first | exact zv_l _ | exact zv_r | apply zv_add | apply zv_sub | apply zv_mul | apply zv_neg)); (case hn => with_reducible first | assumption | exact zl_2 | exact zl_4 | exact zl_12 | exact zl_51 | exact zl_53 | exact zl_54 | exact zl_60 | exact zl_61); (case h => omega); (case hy => first | ((simp (disch := omega) only [zU_c, zU_e, zU_k, zF_c, zF_i, zF_o, zW_o, zW_i, zC_c, zC_i, zC_o]); rfl) | rfl))
    | (with_reducible apply z_7results; (case r1 => first | omega | ((simp (disch := omega) only [zU_c, zU_e, zU_k, zF_c, zF_i, zF_o, zW_o, zW_i, zC_c, zC_i, zC_o]); omega)))
    | (with_reducible apply z_7resultAt; (case e1 => repeat (with_reducible first | exact zv_l _ | exact zv_r | apply zv_add | apply zv_sub | apply zv_mul | apply zv_neg)); (case r1 => first | omega | ((simp (disch := omega) only [zU_c, zU_e, zU_k, zF_c, zF_i, zF_o, zW_o, zW_i, zC_c, zC_i, zC_o]); omega)))
    | (with_reducible apply z_7brings; (case e1 => repeat (with_reducible first | exact zv_l _ | exact zv_r | apply zv_add | apply zv_sub | apply zv_mul | apply zv_neg)); (case e2 => repeat (with_reducible first | exact zv_l _ | exact zv_r | apply zv_add | apply zv_sub | apply zv_mul | apply zv_neg)); (case e3 => repeat (with_reducible first | exact zv_l _ | exact zv_r | apply zv_add | apply zv_sub | apply zv_mul | apply zv_neg)); (case r1 => first | omega | ((simp (disch := omega) only [zU_c, zU_e, zU_k, zF_c, zF_i, zF_o, zW_o, zW_i, zC_c, zC_i, zC_o]); omega)); (case r2 => first | omega | ((simp (disch := omega) only [zU_c, zU_e, zU_k, zF_c, zF_i, zF_o, zW_o, zW_i, zC_c, zC_i, zC_o]); omega)); (case r3 => first | omega | ((simp (disch := omega) only [zU_c, zU_e, zU_k, zF_c, zF_i, zF_o, zW_o, zW_i, zC_c, zC_i, zC_o]); omega)); (case r4 => first | omega | ((simp (disch := omega) only [zU_c, zU_e, zU_k, zF_c, zF_i, zF_o, zW_o, zW_i, zC_c, zC_i, zC_o]); omega)); (case r5 => first | omega | ((simp (disch := omega) only [zU_c, zU_e, zU_k, zF_c, zF_i, zF_o, zW_o, zW_i, zC_c, zC_i, zC_o]); omega)); (case r6 => first | omega | ((simp (disch := omega) only [zU_c, zU_e, zU_k, zF_c, zF_i, zF_o, zW_o, zW_i, zC_c, zC_i, zC_o]); omega))))
      refine z_ite (fun _ => ?_) (fun _ => ?_)
      · repeat' (first
    | (with_reducible apply z_nm; (case he => repeat (with_reducible first | exact zv_l _ | exact zv_r | apply zv_add | apply zv_sub | apply zv_mul | apply zv_neg)))
    | (with_reducible apply z_b_ck; (case h => with_unfolding_all rfl))
    | (with_reducible apply z_b_R; (case h => first | with_unfolding_all rfl))
    | (with_reducible apply z_L; (case he => repeat (with_reducible first | exact zv_l _ | exact zv_r | apply zv_add | apply zv_sub | apply zv_mul | apply zv_neg)); (case hn => with_reducible first | assumption | exact zl_2 | exact zl_4 | exact zl_12 | exact zl_51 | exact zl_53 | exact zl_54 | exact zl_60 | exact zl_61); (case h => omega); (case hy => first | ((simp (disch := omega) only [zU_c, zU_e, zU_k, zF_c, zF_i, zF_o, zW_o, zW_i, zC_c, zC_i, zC_o]); rfl) | rfl))
    | (with_reducible apply z_7results; (case r1 => first | omega | ((simp (disch := omega) only [zU_c, zU_e, zU_k, zF_c, zF_i, zF_o, zW_o, zW_i, zC_c, zC_i, zC_o]); omega)))
    | (with_reducible apply z_7resultAt; (case e1 => repeat (with_reducible first | exact zv_l _ | exact zv_r | apply zv_add | apply zv_sub | apply zv_mul | apply zv_neg)); (case r1 => first | omega | ((simp (disch := omega) only [zU_c, zU_e, zU_k, zF_c, zF_i, zF_o, zW_o, zW_i, zC_c, zC_i, zC_o]); omega)))
    | (with_reducible apply z_7brings; (case e1 => repeat (with_reducible first | exact zv_l _ | exact zv_r | apply zv_add | apply zv_sub | apply zv_mul | apply zv_neg)); (case e2 => repeat (with_reducible first | exact zv_l _ | exact zv_r | apply zv_add | apply zv_sub | apply zv_mul | apply zv_neg)); (case e3 => repeat (with_reducible first | exact zv_l _ | exact zv_r | apply zv_add | apply zv_sub | apply zv_mul | apply zv_neg)); (case r1 => first | omega | ((simp (disch := omega) only [zU_c, zU_e, zU_k, zF_c, zF_i, zF_o, zW_o, zW_i, zC_c, zC_i, zC_o]); omega)); (case r2 => first | omega | ((simp (disch := omega) only [zU_c, zU_e, zU_k, zF_c, zF_i, zF_o, zW_o, zW_i, zC_c, zC_i, zC_o]); omega)); (case r3 => first | omega | ((simp (disch := omega) only [zU_c, zU_e, zU_k, zF_c, zF_i, zF_o, zW_o, zW_i, zC_c, zC_i, zC_o]); omega)); (case r4 => first | omega | ((simp (disch := omega) only [zU_c, zU_e, zU_k, zF_c, zF_i, zF_o, zW_o, zW_i, zC_c, zC_i, zC_o]); omega)); (case r5 => first | omega | ((simp (disch := omega) only [zU_c, zU_e, zU_k, zF_c, zF_i, zF_o, zW_o, zW_i, zC_c, zC_i, zC_o]); omega)); (case r6 => first | omega | ((simp (disch := omega) only [zU_c, zU_e, zU_k, zF_c, zF_i, zF_o, zW_o, zW_i, zC_c, zC_i, zC_o]); omega))))
        exact hk2 _ _ _ (by omega) ⟨i + 1, rfl, by omega, by omega, rfl, rfl⟩
      · exact ⟨_, _, rfl, zPv_r _⟩
  · have hag := hag (by omega)
    (first
    | (with_reducible apply z_nm; (case he => repeat (with_reducible first | exact zv_l _ | exact zv_r | apply zv_add | apply zv_sub | apply zv_mul | apply zv_neg)))
    | (with_reducible apply z_b_ck; (case h => with_unfolding_all rfl))
    | (with_reducible apply z_b_R; (case h => first | with_unfolding_all rfl))
    | (with_reducible apply z_L; (case he => repeat (with_reducible first | exact zv_l _ | exact zv_r | apply zv_add | apply zv_sub | apply zv_mul | apply zv_neg)); (case hn => with_reducible first | assumption | exact zl_2 | exact zl_4 | exact zl_12 | exact zl_51 | exact zl_53 | exact zl_54 | exact zl_60 | exact zl_61); (case h => omega); (case hy => first | ((simp (disch := omega) only [zU_c, zU_e, zU_k, zF_c, zF_i, zF_o, zW_o, zW_i, zC_c, zC_i, zC_o]); rfl) | rfl))
    | (with_reducible apply z_7results; (case r1 => first | omega | ((simp (disch := omega) only [zU_c, zU_e, zU_k, zF_c, zF_i, zF_o, zW_o, zW_i, zC_c, zC_i, zC_o]); omega)))
    | (with_reducible apply z_7resultAt; (case e1 => repeat (with_reducible first | exact zv_l _ | exact zv_r | apply zv_add | apply zv_sub | apply zv_mul | apply zv_neg)); (case r1 => first | omega | ((simp (disch := omega) only [zU_c, zU_e, zU_k, zF_c, zF_i, zF_o, zW_o, zW_i, zC_c, zC_i, zC_o]); omega)))
    | (with_reducible apply z_7brings; (case e1 => repeat (with_reducible first | exact zv_l _ | exact zv_r | apply zv_add | apply zv_sub | apply zv_mul | apply zv_neg)); (case e2 => repeat (with_reducible first | exact zv_l _ | exact zv_r | apply zv_add | apply zv_sub | apply zv_mul | apply zv_neg)); (case e3 => repeat (with_reducible first | exact zv_l _ | exact zv_r | apply zv_add | apply zv_sub | apply zv_mul | apply zv_neg)); (case r1 => first | omega | ((simp (disch := omega) only [zU_c, zU_e, zU_k, zF_c, zF_i, zF_o, zW_o, zW_i, zC_c, zC_i, zC_o]); omega)); (case r2 => first | omega | ((simp (disch := omega) only [zU_c, zU_e, zU_k, zF_c, zF_i, zF_o, zW_o, zW_i, zC_c, zC_i, zC_o]); omega)); (case r3 => first | omega | ((simp (disch := omega) only [zU_c, zU_e, zU_k, zF_c, zF_i, zF_o, zW_o, zW_i, zC_c, zC_i, zC_o]); omega)); (case r4 => first | omega | ((simp (disch := omega) only [zU_c, zU_e, zU_k, zF_c, zF_i, zF_o, zW_o, zW_i, zC_c, zC_i, zC_o]); omega)); (case r5 => first | omega | ((simp (disch := omega) only [zU_c, zU_e, zU_k, zF_c, zF_i, zF_o, zW_o, zW_i, zC_c, zC_i, zC_o]); omega)); (case r6 => first | omega | ((simp (disch := omega) only [zU_c, zU_e, zU_k, zF_c, zF_i, zF_o, zW_o, zW_i, zC_c, zC_i, zC_o]); omega))))
    (first
    | (with_reducible apply z_nm; (case he => repeat (with_reducible first | exact zv_l _ | exact zv_r | apply zv_add | apply zv_sub | apply zv_mul | apply zv_neg)))
    | (with_reducible apply z_b_ck; (case h => with_unfolding_all rfl))
    | (with_reducible apply z_b_R; (case h => first | with_unfolding_all rfl))
    | (with_reducible apply z_L; (case he => repeat (with_reducible first | exact zv_l _ | exact zv_r | apply zv_add | apply zv_sub | apply zv_mul | apply zv_neg)); (case hn => with_reducible first | assumption | exact zl_2 | exact zl_4 | exact zl_12 | exact zl_51 | exact zl_53 | exact zl_54 | exact zl_60 | exact zl_61); (case h => omega); (case hy => first | ((simp (disch := omega) only [zU_c, zU_e, zU_k, zF_c, zF_i, zF_o, zW_o, zW_i, zC_c, zC_i, zC_o]); rfl) | rfl))
    | (with_reducible apply z_7results; (case r1 => first | omega | ((simp (disch := omega) only [zU_c, zU_e, zU_k, zF_c, zF_i, zF_o, zW_o, zW_i, zC_c, zC_i, zC_o]); omega)))
    | (with_reducible apply z_7resultAt; (case e1 => repeat (with_reducible first | exact zv_l _ | exact zv_r | apply zv_add | apply zv_sub | apply zv_mul | apply zv_neg)); (case r1 => first | omega | ((simp (disch := omega) only [zU_c, zU_e, zU_k, zF_c, zF_i, zF_o, zW_o, zW_i, zC_c, zC_i, zC_o]); omega)))
    | (with_reducible apply z_7brings; (case e1 => repeat (with_reducible first | exact zv_l _ | exact zv_r | apply zv_add | apply zv_sub | apply zv_mul | apply zv_neg)); (case e2 => repeat (with_reducible first | exact zv_l _ | exact zv_r | apply zv_add | apply zv_sub | apply zv_mul | apply zv_neg)); (case e3 => repeat (with_reducible first | exact zv_l _ | exact zv_r | apply zv_add | apply zv_sub | apply zv_mul | apply zv_neg)); (case r1 => first | omega | ((simp (disch := omega) only [zU_c, zU_e, zU_k, zF_c, zF_i, zF_o, zW_o, zW_i, zC_c, zC_i, zC_o]); omega)); (case r2 => first | omega | ((simp (disch := omega) only [zU_c, zU_e, zU_k, zF_c, zF_i, zF_o, zW_o, zW_i, zC_c, zC_i, zC_o]); omega)); (case r3 => first | omega | ((simp (disch := omega) only [zU_c, zU_e, zU_k, zF_c, zF_i, zF_o, zW_o, zW_i, zC_c, zC_i, zC_o]); omega)); (case r4 => first | omega | ((simp (disch := omega) only [zU_c, zU_e, zU_k, zF_c, zF_i, zF_o, zW_o, zW_i, zC_c, zC_i, zC_o]); omega)); (case r5 => first | omega | ((simp (disch := omega) only [zU_c, zU_e, zU_k, zF_c, zF_i, zF_o, zW_o, zW_i, zC_c, zC_i, zC_o]); omega)); (case r6 => first | omega | ((simp (disch := omega) only [zU_c, zU_e, zU_k, zF_c, zF_i, zF_o, zW_o, zW_i, zC_c, zC_i, zC_o]); omega))))
    (first
    | (with_reducible apply z_B; all_goals (intro _; try (exfalso; omega)))
    | (with_reducible apply z_E; all_goals intro _)
    | (with_reducible apply z_lt; (case ha => repeat (with_reducible first | exact zv_l _ | exact zv_r | apply zv_add | apply zv_sub | apply zv_mul | apply zv_neg)); (case hb => repeat (with_reducible first | exact zv_l _ | exact zv_r | apply zv_add | apply zv_sub | apply zv_mul | apply zv_neg)); (case hx => omega); (case hy => omega); all_goals (intro _; try (exfalso; omega)))
    | (with_reducible apply z_le; (case ha => repeat (with_reducible first | exact zv_l _ | exact zv_r | apply zv_add | apply zv_sub | apply zv_mul | apply zv_neg)); (case hb => repeat (with_reducible first | exact zv_l _ | exact zv_r | apply zv_add | apply zv_sub | apply zv_mul | apply zv_neg)); (case hx => omega); (case hy => omega); all_goals (intro _; try (exfalso; omega)))
    | (with_reducible apply z_eq; (case ha => repeat (with_reducible first | exact zv_l _ | exact zv_r | apply zv_add | apply zv_sub | apply zv_mul | apply zv_neg)); (case hb => repeat (with_reducible first | exact zv_l _ | exact zv_r | apply zv_add | apply zv_sub | apply zv_mul | apply zv_neg)); (case hx => omega); (case hy => omega); all_goals (intro _; try (exfalso; omega))))
    · refine z_lp (fun n v m2 => ∃ (c : Int32) (i : Int), v = (50, zI s, zI g, c, zI i) ∧ 0 ≤ i ∧ i ≤ 3 ∧ n = (3 - i).toNat ∧ zPv m m2) (fun _ _ v m2 => zPv m m2) ?_ 600 3 _ _ (by omega) ⟨0, 0, rfl, by omega, by omega, by omega, zPv_r _⟩
      rintro n v m2 k2 ⟨c, i, rfl, i0, i3, rfl, hO⟩ hk2
      have hR2 := zPv_R hO hR
      have e1 : m2 51 1 = m 51 1 := hO 51 (by omega) 1
      unfold f_X7_runsSo_76
      dsimp only
      refine z_7results hR2.1.2.2 ?_
      have hR23 := zR_23 hR2
      generalize (if m2 51 2 = 0 then (2 : Int) else 3) = R at hR23
      refine z_le (x := R) (y := i) rfl rfl (by omega) (by omega) (fun hle => ?_) (fun hle => ?_)
      · exact ⟨_, _, rfl, hO⟩
      · refine z_7resultAt rfl (by omega) ?_
        have hra := zRa_02 (i := i) (by omega)
        refine s7_bp hR2 (by omega) hra (zv_l 1) (fun m3 hO3 => ?_)
        have hP3 := zPv_t hO hO3
        have e3 : m3 51 1 = m 51 1 := hP3 51 (by omega) 1
        (first
    | (with_reducible apply z_nm; (case he => repeat (with_reducible first | exact zv_l _ | exact zv_r | apply zv_add | apply zv_sub | apply zv_mul | apply zv_neg)))
    | (with_reducible apply z_b_ck; (case h => with_unfolding_all rfl))
    | (with_reducible apply z_b_R; (case h => first | with_unfolding_all rfl))
    | (with_reducible apply z_L; (case he => repeat (with_reducible first | exact zv_l _ | exact zv_r | apply zv_add | apply zv_sub | apply zv_mul | apply zv_neg)); (case hn => with_reducible first | assumption | exact zl_2 | exact zl_4 | exact zl_12 | exact zl_51 | exact zl_53 | exact zl_54 | exact zl_60 | exact zl_61); (case h => omega); (case hy => first | ((simp (disch := omega) only [zU_c, zU_e, zU_k, zF_c, zF_i, zF_o, zW_o, zW_i, zC_c, zC_i, zC_o]); rfl) | rfl))
    | (with_reducible apply z_7results; (case r1 => first | omega | ((simp (disch := omega) only [zU_c, zU_e, zU_k, zF_c, zF_i, zF_o, zW_o, zW_i, zC_c, zC_i, zC_o]); omega)))
    | (with_reducible apply z_7resultAt; (case e1 => repeat (with_reducible first | exact zv_l _ | exact zv_r | apply zv_add | apply zv_sub | apply zv_mul | apply zv_neg)); (case r1 => first | omega | ((simp (disch := omega) only [zU_c, zU_e, zU_k, zF_c, zF_i, zF_o, zW_o, zW_i, zC_c, zC_i, zC_o]); omega)))
    | (with_reducible apply z_7brings; (case e1 => repeat (with_reducible first | exact zv_l _ | exact zv_r | apply zv_add | apply zv_sub | apply zv_mul | apply zv_neg)); (case e2 => repeat (with_reducible first | exact zv_l _ | exact zv_r | apply zv_add | apply zv_sub | apply zv_mul | apply zv_neg)); (case e3 => repeat (with_reducible first | exact zv_l _ | exact zv_r | apply zv_add | apply zv_sub | apply zv_mul | apply zv_neg)); (case r1 => first | omega | ((simp (disch := omega) only [zU_c, zU_e, zU_k, zF_c, zF_i, zF_o, zW_o, zW_i, zC_c, zC_i, zC_o]); omega)); (case r2 => first | omega | ((simp (disch := omega) only [zU_c, zU_e, zU_k, zF_c, zF_i, zF_o, zW_o, zW_i, zC_c, zC_i, zC_o]); omega)); (case r3 => first | omega | ((simp (disch := omega) only [zU_c, zU_e, zU_k, zF_c, zF_i, zF_o, zW_o, zW_i, zC_c, zC_i, zC_o]); omega)); (case r4 => first | omega | ((simp (disch := omega) only [zU_c, zU_e, zU_k, zF_c, zF_i, zF_o, zW_o, zW_i, zC_c, zC_i, zC_o]); omega)); (case r5 => first | omega | ((simp (disch := omega) only [zU_c, zU_e, zU_k, zF_c, zF_i, zF_o, zW_o, zW_i, zC_c, zC_i, zC_o]); omega)); (case r6 => first | omega | ((simp (disch := omega) only [zU_c, zU_e, zU_k, zF_c, zF_i, zF_o, zW_o, zW_i, zC_c, zC_i, zC_o]); omega))))
        rw [show zI g + 1 = zI (g + 1) from zv_add rfl (zv_l 1)]
        refine z_call (hrec (m3 51 1 - (g + 1)).toNat (50, zI s, zI (g + 1)) m3 (by omega) ⟨g + 1, rfl, by omega, rfl, zPv_R hP3 hR, zPv_As hP3 hA, hzz _ hP3⟩) (fun v m4 hO4 => ?_)
        have hP4 := zPv_t hP3 hO4
        have e4 : m4 51 1 = m 51 1 := hP4 51 (by omega) 1
        refine z_b rfl ?_
        refine z_7resultAt rfl (by omega) ?_
        refine s7_bp (zPv_R hP4 hR) (by omega) hra (show (-1 : Int32) = zI (-1) from rfl) (fun m5 hO5 => ?_)
        repeat' (first
    | (with_reducible apply z_nm; (case he => repeat (with_reducible first | exact zv_l _ | exact zv_r | apply zv_add | apply zv_sub | apply zv_mul | apply zv_neg)))
    | (with_reducible apply z_b_ck; (case h => with_unfolding_all rfl))
    | (with_reducible apply z_b_R; (case h => first | with_unfolding_all rfl))
    | (with_reducible apply z_L; (case he => repeat (with_reducible first | exact zv_l _ | exact zv_r | apply zv_add | apply zv_sub | apply zv_mul | apply zv_neg)); (case hn => with_reducible first | assumption | exact zl_2 | exact zl_4 | exact zl_12 | exact zl_51 | exact zl_53 | exact zl_54 | exact zl_60 | exact zl_61); (case h => omega); (case hy => first | ((simp (disch := omega) only [zU_c, zU_e, zU_k, zF_c, zF_i, zF_o, zW_o, zW_i, zC_c, zC_i, zC_o]); rfl) | rfl))
    | (with_reducible apply z_7results; (case r1 => first | omega | ((simp (disch := omega) only [zU_c, zU_e, zU_k, zF_c, zF_i, zF_o, zW_o, zW_i, zC_c, zC_i, zC_o]); omega)))
    | (with_reducible apply z_7resultAt; (case e1 => repeat (with_reducible first | exact zv_l _ | exact zv_r | apply zv_add | apply zv_sub | apply zv_mul | apply zv_neg)); (case r1 => first | omega | ((simp (disch := omega) only [zU_c, zU_e, zU_k, zF_c, zF_i, zF_o, zW_o, zW_i, zC_c, zC_i, zC_o]); omega)))
    | (with_reducible apply z_7brings; (case e1 => repeat (with_reducible first | exact zv_l _ | exact zv_r | apply zv_add | apply zv_sub | apply zv_mul | apply zv_neg)); (case e2 => repeat (with_reducible first | exact zv_l _ | exact zv_r | apply zv_add | apply zv_sub | apply zv_mul | apply zv_neg)); (case e3 => repeat (with_reducible first | exact zv_l _ | exact zv_r | apply zv_add | apply zv_sub | apply zv_mul | apply zv_neg)); (case r1 => first | omega | ((simp (disch := omega) only [zU_c, zU_e, zU_k, zF_c, zF_i, zF_o, zW_o, zW_i, zC_c, zC_i, zC_o]); omega)); (case r2 => first | omega | ((simp (disch := omega) only [zU_c, zU_e, zU_k, zF_c, zF_i, zF_o, zW_o, zW_i, zC_c, zC_i, zC_o]); omega)); (case r3 => first | omega | ((simp (disch := omega) only [zU_c, zU_e, zU_k, zF_c, zF_i, zF_o, zW_o, zW_i, zC_c, zC_i, zC_o]); omega)); (case r4 => first | omega | ((simp (disch := omega) only [zU_c, zU_e, zU_k, zF_c, zF_i, zF_o, zW_o, zW_i, zC_c, zC_i, zC_o]); omega)); (case r5 => first | omega | ((simp (disch := omega) only [zU_c, zU_e, zU_k, zF_c, zF_i, zF_o, zW_o, zW_i, zC_c, zC_i, zC_o]); omega)); (case r6 => first | omega | ((simp (disch := omega) only [zU_c, zU_e, zU_k, zF_c, zF_i, zF_o, zW_o, zW_i, zC_c, zC_i, zC_o]); omega))))
        exact hk2 _ _ _ (by omega) ⟨_, i + 1, rfl, by omega, by omega, rfl, zPv_t hP4 hO5⟩
    · (first
    | (with_reducible apply z_nm; (case he => repeat (with_reducible first | exact zv_l _ | exact zv_r | apply zv_add | apply zv_sub | apply zv_mul | apply zv_neg)))
    | (with_reducible apply z_b_ck; (case h => with_unfolding_all rfl))
    | (with_reducible apply z_b_R; (case h => first | with_unfolding_all rfl))
    | (with_reducible apply z_L; (case he => repeat (with_reducible first | exact zv_l _ | exact zv_r | apply zv_add | apply zv_sub | apply zv_mul | apply zv_neg)); (case hn => with_reducible first | assumption | exact zl_2 | exact zl_4 | exact zl_12 | exact zl_51 | exact zl_53 | exact zl_54 | exact zl_60 | exact zl_61); (case h => omega); (case hy => first | ((simp (disch := omega) only [zU_c, zU_e, zU_k, zF_c, zF_i, zF_o, zW_o, zW_i, zC_c, zC_i, zC_o]); rfl) | rfl))
    | (with_reducible apply z_7results; (case r1 => first | omega | ((simp (disch := omega) only [zU_c, zU_e, zU_k, zF_c, zF_i, zF_o, zW_o, zW_i, zC_c, zC_i, zC_o]); omega)))
    | (with_reducible apply z_7resultAt; (case e1 => repeat (with_reducible first | exact zv_l _ | exact zv_r | apply zv_add | apply zv_sub | apply zv_mul | apply zv_neg)); (case r1 => first | omega | ((simp (disch := omega) only [zU_c, zU_e, zU_k, zF_c, zF_i, zF_o, zW_o, zW_i, zC_c, zC_i, zC_o]); omega)))
    | (with_reducible apply z_7brings; (case e1 => repeat (with_reducible first | exact zv_l _ | exact zv_r | apply zv_add | apply zv_sub | apply zv_mul | apply zv_neg)); (case e2 => repeat (with_reducible first | exact zv_l _ | exact zv_r | apply zv_add | apply zv_sub | apply zv_mul | apply zv_neg)); (case e3 => repeat (with_reducible first | exact zv_l _ | exact zv_r | apply zv_add | apply zv_sub | apply zv_mul | apply zv_neg)); (case r1 => first | omega | ((simp (disch := omega) only [zU_c, zU_e, zU_k, zF_c, zF_i, zF_o, zW_o, zW_i, zC_c, zC_i, zC_o]); omega)); (case r2 => first | omega | ((simp (disch := omega) only [zU_c, zU_e, zU_k, zF_c, zF_i, zF_o, zW_o, zW_i, zC_c, zC_i, zC_o]); omega)); (case r3 => first | omega | ((simp (disch := omega) only [zU_c, zU_e, zU_k, zF_c, zF_i, zF_o, zW_o, zW_i, zC_c, zC_i, zC_o]); omega)); (case r4 => first | omega | ((simp (disch := omega) only [zU_c, zU_e, zU_k, zF_c, zF_i, zF_o, zW_o, zW_i, zC_c, zC_i, zC_o]); omega)); (case r5 => first | omega | ((simp (disch := omega) only [zU_c, zU_e, zU_k, zF_c, zF_i, zF_o, zW_o, zW_i, zC_c, zC_i, zC_o]); omega)); (case r6 => first | omega | ((simp (disch := omega) only [zU_c, zU_e, zU_k, zF_c, zF_i, zF_o, zW_o, zW_i, zC_c, zC_i, zC_o]); omega))))
      rw [show zI g + 1 = zI (g + 1) from zv_add rfl (zv_l 1)]
      refine z_call (hrec (m 51 1 - (g + 1)).toNat (50, zI s, zI (g + 1)) m (by omega) ⟨g + 1, rfl, by omega, rfl, hR, hA, hz⟩) (fun v m4 hO4 => ?_)
      exact ⟨_, _, rfl, hO4⟩
