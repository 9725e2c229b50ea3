/-! the class's fewest games, exact; needs of the class -/
set_option maxRecDepth 100000 in
set_option maxHeartbeats 2000000 in
theorem s6_fewE {m : zMe} {t d : Int} {wi : Nat} {S : Nat → Prop} (r1 : 0 ≤ t ∧ t < m 3 0) (r2 : wi < 512) (a1 : zWf m 3) (hs : zCw m 3 t → ∀ (m3 : zMe) (b : Nat), zFr 27 m m3 → b < 512 → b &&& wi = b → zOk (f_X6_suffices 0 (zI t) (zI (b : Int)) (zI d) (zM m3)) (fun v m1 => v = zI (zE (S b)) ∧ zFr 27 m3 m1)) (hcan : ∀ b : Nat, b < 512 → b &&& wi = b → S b → zCw m 3 t) : zOk (f_X6_fewestFor 0 (zI t) (zI (wi : Int)) (zI d) (zM m)) (fun v m1 => (∃ x, v = zI x ∧ zMn (fun b => b &&& wi = b ∧ S b) x) ∧ zFr 27 m m1) := by
  have hT := a1.1.1
  unfold f_X6_fewestFor
  (first
    | (with_reducible apply z_nm; (case he => repeat (with_reducible first | exact zv_l _ | exact zv_r | apply zv_add | apply zv_sub | apply zv_neg | apply zv_and)))
    | (with_reducible apply z_b_ck; (case h => with_unfolding_all rfl))
    | (with_reducible apply z_b_R; (case h => first | with_unfolding_all rfl))
    | (with_reducible apply z_0leftOf; (case a1 => assumption); (case e1 => repeat (with_reducible first | exact zv_l _ | exact zv_r | apply zv_add | apply zv_sub | apply zv_neg | apply zv_and)); (case r2 => first | omega | ((simp (disch := omega) only [zU_c, zU_e, zU_k, zF_c, zF_i, zF_o, zW_o, zW_i, zC_c, zC_i, zC_o]); omega)); (case r1 => first | omega | ((simp (disch := omega) only [zU_c, zU_e, zU_k, zF_c, zF_i, zF_o, zW_o, zW_i, zC_c, zC_i, zC_o]); omega)); (case a2 => assumption))
    | (with_reducible apply z_6canWin; (case a1 => assumption); (case e1 => repeat (with_reducible first | exact zv_l _ | exact zv_r | apply zv_add | apply zv_sub | apply zv_neg | apply zv_and)); (case r1 => first | omega | ((simp (disch := omega) only [zU_c, zU_e, zU_k, zF_c, zF_i, zF_o, zW_o, zW_i, zC_c, zC_i, zC_o]); omega)); (case a2 => assumption); intro _ _ _)
    | (with_reducible apply z_6suffices; (case e4 => repeat (with_reducible first | exact zv_l _ | exact zv_r | apply zv_add | apply zv_sub | apply zv_neg | apply zv_and)); (case e5 => repeat (with_reducible first | exact zv_l _ | exact zv_r | apply zv_add | apply zv_sub | apply zv_neg | apply zv_and)); (case e6 => repeat (with_reducible first | exact zv_l _ | exact zv_r | apply zv_add | apply zv_sub | apply zv_neg | apply zv_and)); (case r1 => first | omega | ((simp (disch := omega) only [zU_c, zU_e, zU_k, zF_c, zF_i, zF_o, zW_o, zW_i, zC_c, zC_i, zC_o]); omega)); (case r2 => first | omega | ((simp (disch := omega) only [zU_c, zU_e, zU_k, zF_c, zF_i, zF_o, zW_o, zW_i, zC_c, zC_i, zC_o]); omega)); (case r3 => first | omega | ((simp (disch := omega) only [zU_c, zU_e, zU_k, zF_c, zF_i, zF_o, zW_o, zW_i, zC_c, zC_i, zC_o]); omega)); (case a1 => assumption); intro _ _ _)
    | (with_reducible apply z_6fewestFor; (case e4 => repeat (with_reducible first | exact zv_l _ | exact zv_r | apply zv_add | apply zv_sub | apply zv_neg | apply zv_and)); (case e5 => repeat (with_reducible first | exact zv_l _ | exact zv_r | apply zv_add | apply zv_sub | apply zv_neg | apply zv_and)); (case e6 => repeat (with_reducible first | exact zv_l _ | exact zv_r | apply zv_add | apply zv_sub | apply zv_neg | apply zv_and)); (case r1 => first | omega | ((simp (disch := omega) only [zU_c, zU_e, zU_k, zF_c, zF_i, zF_o, zW_o, zW_i, zC_c, zC_i, zC_o]); omega)); (case r2 => first | omega | ((simp (disch := omega) only [zU_c, zU_e, zU_k, zF_c, zF_i, zF_o, zW_o, zW_i, zC_c, zC_i, zC_o]); omega)); (case r3 => first | omega | ((simp (disch := omega) only [zU_c, zU_e, zU_k, zF_c, zF_i, zF_o, zW_o, zW_i, zC_c, zC_i, zC_o]); omega)); (case a1 => assumption); intro _ _ _))
  (first
    | (with_reducible apply z_nm; (case he => repeat (with_reducible first | exact zv_l _ | exact zv_r | apply zv_add | apply zv_sub | apply zv_neg | apply zv_and)))
    | (with_reducible apply z_b_ck; (case h => with_unfolding_all rfl))
    | (with_reducible apply z_b_R; (case h => first | with_unfolding_all rfl))
    | (with_reducible apply z_0leftOf; (case a1 => assumption); (case e1 => repeat (with_reducible first | exact zv_l _ | exact zv_r | apply zv_add | apply zv_sub | apply zv_neg | apply zv_and)); (case r2 => first | omega | ((simp (disch := omega) only [zU_c, zU_e, zU_k, zF_c, zF_i, zF_o, zW_o, zW_i, zC_c, zC_i, zC_o]); omega)); (case r1 => first | omega | ((simp (disch := omega) only [zU_c, zU_e, zU_k, zF_c, zF_i, zF_o, zW_o, zW_i, zC_c, zC_i, zC_o]); omega)); (case a2 => assumption))
    | (with_reducible apply z_6canWin; (case a1 => assumption); (case e1 => repeat (with_reducible first | exact zv_l _ | exact zv_r | apply zv_add | apply zv_sub | apply zv_neg | apply zv_and)); (case r1 => first | omega | ((simp (disch := omega) only [zU_c, zU_e, zU_k, zF_c, zF_i, zF_o, zW_o, zW_i, zC_c, zC_i, zC_o]); omega)); (case a2 => assumption); intro _ _ _)
    | (with_reducible apply z_6suffices; (case e4 => repeat (with_reducible first | exact zv_l _ | exact zv_r | apply zv_add | apply zv_sub | apply zv_neg | apply zv_and)); (case e5 => repeat (with_reducible first | exact zv_l _ | exact zv_r | apply zv_add | apply zv_sub | apply zv_neg | apply zv_and)); (case e6 => repeat (with_reducible first | exact zv_l _ | exact zv_r | apply zv_add | apply zv_sub | apply zv_neg | apply zv_and)); (case r1 => first | omega | ((simp (disch := omega) only [zU_c, zU_e, zU_k, zF_c, zF_i, zF_o, zW_o, zW_i, zC_c, zC_i, zC_o]); omega)); (case r2 => first | omega | ((simp (disch := omega) only [zU_c, zU_e, zU_k, zF_c, zF_i, zF_o, zW_o, zW_i, zC_c, zC_i, zC_o]); omega)); (case r3 => first | omega | ((simp (disch := omega) only [zU_c, zU_e, zU_k, zF_c, zF_i, zF_o, zW_o, zW_i, zC_c, zC_i, zC_o]); omega)); (case a1 => assumption); intro _ _ _)
    | (with_reducible apply z_6fewestFor; (case e4 => repeat (with_reducible first | exact zv_l _ | exact zv_r | apply zv_add | apply zv_sub | apply zv_neg | apply zv_and)); (case e5 => repeat (with_reducible first | exact zv_l _ | exact zv_r | apply zv_add | apply zv_sub | apply zv_neg | apply zv_and)); (case e6 => repeat (with_reducible first | exact zv_l _ | exact zv_r | apply zv_add | apply zv_sub | apply zv_neg | apply zv_and)); (case r1 => first | omega | ((simp (disch := omega) only [zU_c, zU_e, zU_k, zF_c, zF_i, zF_o, zW_o, zW_i, zC_c, zC_i, zC_o]); omega)); (case r2 => first | omega | ((simp (disch := omega) only [zU_c, zU_e, zU_k, zF_c, zF_i, zF_o, zW_o, zW_i, zC_c, zC_i, zC_o]); omega)); (case r3 => first | omega | ((simp (disch := omega) only [zU_c, zU_e, zU_k, zF_c, zF_i, zF_o, zW_o, zW_i, zC_c, zC_i, zC_o]); omega)); (case a1 => assumption); intro _ _ _))
  refine z_6canWin (r := 3) (Or.inl rfl) rfl r1 a1 (fun v m2 hv => ?_)
  obtain ⟨rfl, hF2⟩ := hv
  refine z_E (fun hq => ?_) (fun hq => ?_)
  · exact ⟨_, _, rfl, ⟨-1, rfl, Or.inl ⟨rfl, fun c hc q => hq (hcan c hc q.1 q.2)⟩⟩, hF2⟩
  · refine z_lp (fun n v m1 => ∃ s : Int, v = (0, zI t, zI (wi : Int), zI d, zI s) ∧ 0 ≤ s ∧ s ≤ 10 ∧ n = (10 - s).toNat ∧ zFr 27 m m1 ∧ ∀ c : Nat, c < 512 → c &&& wi = c → (zPop c : Int) < s → ¬ S c) (fun _ _ v m1 => (∃ x, v = zI x ∧ zMn (fun b => b &&& wi = b ∧ S b) x) ∧ zFr 27 m m1) ?_ 600 10 _ _ (by omega) ⟨0, rfl, by omega, by omega, by omega, hF2, fun c _ _ q => by exfalso; omega⟩
    rintro n v m1 k ⟨s, rfl, h0, h1, rfl, hF, hno⟩ hk
    unfold f_X6_fewestFor_17
    dsimp only
    (first
    | (with_reducible apply z_B; all_goals (intro _; try (exfalso; omega)))
    | (with_reducible apply z_E; all_goals intro _)
    | (with_reducible apply z_lt; (case ha => repeat (with_reducible first | exact zv_l _ | exact zv_r | apply zv_add | apply zv_sub | apply zv_neg | apply zv_and)); (case hb => repeat (with_reducible first | exact zv_l _ | exact zv_r | apply zv_add | apply zv_sub | apply zv_neg | apply zv_and)); (case hx => omega); (case hy => omega); all_goals (intro _; try (exfalso; omega)))
    | (with_reducible apply z_le; (case ha => repeat (with_reducible first | exact zv_l _ | exact zv_r | apply zv_add | apply zv_sub | apply zv_neg | apply zv_and)); (case hb => repeat (with_reducible first | exact zv_l _ | exact zv_r | apply zv_add | apply zv_sub | apply zv_neg | apply zv_and)); (case hx => omega); (case hy => omega); all_goals (intro _; try (exfalso; omega)))
    | (with_reducible apply z_eq; (case ha => repeat (with_reducible first | exact zv_l _ | exact zv_r | apply zv_add | apply zv_sub | apply zv_neg | apply zv_and)); (case hb => repeat (with_reducible first | exact zv_l _ | exact zv_r | apply zv_add | apply zv_sub | apply zv_neg | apply zv_and)); (case hx => omega); (case hy => omega); all_goals (intro _; try (exfalso; omega))))
    · refine ⟨_, _, rfl, ⟨-1, rfl, Or.inl ⟨rfl, fun c hc q => hno c hc q.1 ?_ q.2⟩⟩, hF⟩
      have := zPop_le c
      omega
    · have hnexts : ∀ m4, zFr 27 m m4 → (∀ c : Nat, c < 512 → c &&& wi = c → (zPop c : Int) = s → ¬ S c) → zOk (k (0, zI t, zI (wi : Int), zI d, zI (s + 1)) (zM m4)) (fun v m1 => (∃ x, v = zI x ∧ zMn (fun b => b &&& wi = b ∧ S b) x) ∧ zFr 27 m m1) := fun m4 hF4 hall => hk _ _ _ (by omega) ⟨s + 1, rfl, by omega, by omega, rfl, hF4, fun c hc hw hp => by
        by_cases hps : (zPop c : Int) = s
        · exact hall c hc hw hps
        · exact hno c hc hw (by omega)⟩
      refine z_lp (fun n v m1 => ∃ (b : Nat) (i : Int), v = (0, zI t, zI (wi : Int), zI d, zI s, zI (b : Int), zI i) ∧ b < 512 ∧ b &&& wi = b ∧ 0 ≤ i ∧ i ≤ (b : Int) ∧ n = (512 - i).toNat ∧ zFr 27 m m1 ∧ ∀ c : Nat, c < b → c &&& wi = c → (zPop c : Int) = s → ¬ S c) (fun _ _ v m1 => (∃ x, v = zI x ∧ zMn (fun b => b &&& wi = b ∧ S b) x) ∧ zFr 27 m m1) ?_ 600 512 _ _ (by omega) ⟨0, 0, rfl, by omega, Nat.zero_and _, by omega, by omega, by omega, hF, fun c q => absurd q (by omega)⟩
      rintro n v m3 k2 ⟨b, i, rfl, hb, hbw, i0, i1, rfl, hF3, hlow⟩ hk2
      have hnext : ∀ m4, zFr 27 m m4 → ((zPop b : Int) = s → ¬ S b) → zOk (f_X6_fewestFor_62 k k2 0 (zI t) (zI (wi : Int)) (zI d) (zI s) (zI (b : Int)) (zI i) (zM m4)) (fun v m1 => (∃ x, v = zI x ∧ zMn (fun b => b &&& wi = b ∧ S b) x) ∧ zFr 27 m m1) := fun m4 hF4 hbn => by
        have eb' := zAnd_next hb r2
        have hb'w : ((b + 512 - wi) &&& wi) &&& wi = (b + 512 - wi) &&& wi := by rw [Nat.and_assoc, Nat.and_self]
        have hb'lt : (b + 512 - wi) &&& wi < 512 := Nat.lt_of_le_of_lt Nat.and_le_right r2
        have hB : ∀ c, c &&& wi = c → b < c → b < (b + 512 - wi) &&& wi ∧ (b + 512 - wi) &&& wi ≤ c := fun c hc hl => zNxB 9 b wi c r2 hbw hc hl
        have hend : ¬ b < wi → (b + 512 - wi) &&& wi = 0 := fun hq => by
          have hle : b ≤ wi := by
            rw [← hbw]
            exact Nat.and_le_right
          have e : b + 512 - wi = 512 := by omega
          rw [e]
          have m2 : (512 &&& wi) % 2 ^ 9 = 512 % 2 ^ 9 &&& wi % 2 ^ 9 := Nat.and_mod_two_pow
          have p9 : (2 : Nat) ^ 9 = 512 := rfl
          rw [p9, Nat.mod_self, Nat.zero_and] at m2
          have : 512 &&& wi < 512 := Nat.lt_of_le_of_lt Nat.and_le_right r2
          omega
        generalize (b + 512 - wi) &&& wi = b' at eb' hb'w hb'lt hB hend
        have hle : ∀ c : Nat, c &&& wi = c → (c < b' ∨ b' = 0) → (zPop c : Int) = s → ¬ S c := fun c hc hcb hp => by
          by_cases h1 : c < b
          · exact hlow c h1 hc hp
          · by_cases h2 : c = b
            · subst h2
              exact hbn hp
            · have := hB c hc (by omega)
              exfalso
              omega
        unfold f_X6_fewestFor_62
        refine z_nm (x := (b' : Int)) (by rw [← eb']; exact zv_and (zv_sub rfl rfl) rfl) ?_
        refine z_eq (x := (b' : Int)) (y := 0) rfl rfl (by omega) (by omega) (fun hz => ?_) (fun hz => ?_)
        · repeat' (first
    | (with_reducible apply z_nm; (case he => repeat (with_reducible first | exact zv_l _ | exact zv_r | apply zv_add | apply zv_sub | apply zv_neg | apply zv_and)))
    | (with_reducible apply z_b_ck; (case h => with_unfolding_all rfl))
    | (with_reducible apply z_b_R; (case h => first | with_unfolding_all rfl))
    | (with_reducible apply z_0leftOf; (case a1 => assumption); (case e1 => repeat (with_reducible first | exact zv_l _ | exact zv_r | apply zv_add | apply zv_sub | apply zv_neg | apply zv_and)); (case r2 => first | omega | ((simp (disch := omega) only [zU_c, zU_e, zU_k, zF_c, zF_i, zF_o, zW_o, zW_i, zC_c, zC_i, zC_o]); omega)); (case r1 => first | omega | ((simp (disch := omega) only [zU_c, zU_e, zU_k, zF_c, zF_i, zF_o, zW_o, zW_i, zC_c, zC_i, zC_o]); omega)); (case a2 => assumption))
    | (with_reducible apply z_6canWin; (case a1 => assumption); (case e1 => repeat (with_reducible first | exact zv_l _ | exact zv_r | apply zv_add | apply zv_sub | apply zv_neg | apply zv_and)); (case r1 => first | omega | ((simp (disch := omega) only [zU_c, zU_e, zU_k, zF_c, zF_i, zF_o, zW_o, zW_i, zC_c, zC_i, zC_o]); omega)); (case a2 => assumption); intro _ _ _)
    | (with_reducible apply z_6suffices; (case e4 => repeat (with_reducible first | exact zv_l _ | exact zv_r | apply zv_add | apply zv_sub | apply zv_neg | apply zv_and)); (case e5 => repeat (with_reducible first | exact zv_l _ | exact zv_r | apply zv_add | apply zv_sub | apply zv_neg | apply zv_and)); (case e6 => repeat (with_reducible first | exact zv_l _ | exact zv_r | apply zv_add | apply zv_sub | apply zv_neg | apply zv_and)); (case r1 => first | omega | ((simp (disch := omega) only [zU_c, zU_e, zU_k, zF_c, zF_i, zF_o, zW_o, zW_i, zC_c, zC_i, zC_o]); omega)); (case r2 => first | omega | ((simp (disch := omega) only [zU_c, zU_e, zU_k, zF_c, zF_i, zF_o, zW_o, zW_i, zC_c, zC_i, zC_o]); omega)); (case r3 => first | omega | ((simp (disch := omega) only [zU_c, zU_e, zU_k, zF_c, zF_i, zF_o, zW_o, zW_i, zC_c, zC_i, zC_o]); omega)); (case a1 => assumption); intro _ _ _)
    | (with_reducible apply z_6fewestFor; (case e4 => repeat (with_reducible first | exact zv_l _ | exact zv_r | apply zv_add | apply zv_sub | apply zv_neg | apply zv_and)); (case e5 => repeat (with_reducible first | exact zv_l _ | exact zv_r | apply zv_add | apply zv_sub | apply zv_neg | apply zv_and)); (case e6 => repeat (with_reducible first | exact zv_l _ | exact zv_r | apply zv_add | apply zv_sub | apply zv_neg | apply zv_and)); (case r1 => first | omega | ((simp (disch := omega) only [zU_c, zU_e, zU_k, zF_c, zF_i, zF_o, zW_o, zW_i, zC_c, zC_i, zC_o]); omega)); (case r2 => first | omega | ((simp (disch := omega) only [zU_c, zU_e, zU_k, zF_c, zF_i, zF_o, zW_o, zW_i, zC_c, zC_i, zC_o]); omega)); (case r3 => first | omega | ((simp (disch := omega) only [zU_c, zU_e, zU_k, zF_c, zF_i, zF_o, zW_o, zW_i, zC_c, zC_i, zC_o]); omega)); (case a1 => assumption); intro _ _ _))
          exact hnexts _ hF4 (fun c hc hw hp => hle c hw (Or.inr (by omega)) hp)
        · have hbb : b < b' := by
            by_cases hbwi : b < wi
            · exact (hB wi (Nat.and_self wi) hbwi).1
            · have := hend hbwi
              omega
          repeat' (first
    | (with_reducible apply z_nm; (case he => repeat (with_reducible first | exact zv_l _ | exact zv_r | apply zv_add | apply zv_sub | apply zv_neg | apply zv_and)))
    | (with_reducible apply z_b_ck; (case h => with_unfolding_all rfl))
    | (with_reducible apply z_b_R; (case h => first | with_unfolding_all rfl))
    | (with_reducible apply z_0leftOf; (case a1 => assumption); (case e1 => repeat (with_reducible first | exact zv_l _ | exact zv_r | apply zv_add | apply zv_sub | apply zv_neg | apply zv_and)); (case r2 => first | omega | ((simp (disch := omega) only [zU_c, zU_e, zU_k, zF_c, zF_i, zF_o, zW_o, zW_i, zC_c, zC_i, zC_o]); omega)); (case r1 => first | omega | ((simp (disch := omega) only [zU_c, zU_e, zU_k, zF_c, zF_i, zF_o, zW_o, zW_i, zC_c, zC_i, zC_o]); omega)); (case a2 => assumption))
    | (with_reducible apply z_6canWin; (case a1 => assumption); (case e1 => repeat (with_reducible first | exact zv_l _ | exact zv_r | apply zv_add | apply zv_sub | apply zv_neg | apply zv_and)); (case r1 => first | omega | ((simp (disch := omega) only [zU_c, zU_e, zU_k, zF_c, zF_i, zF_o, zW_o, zW_i, zC_c, zC_i, zC_o]); omega)); (case a2 => assumption); intro _ _ _)
    | (with_reducible apply z_6suffices; (case e4 => repeat (with_reducible first | exact zv_l _ | exact zv_r | apply zv_add | apply zv_sub | apply zv_neg | apply zv_and)); (case e5 => repeat (with_reducible first | exact zv_l _ | exact zv_r | apply zv_add | apply zv_sub | apply zv_neg | apply zv_and)); (case e6 => repeat (with_reducible first | exact zv_l _ | exact zv_r | apply zv_add | apply zv_sub | apply zv_neg | apply zv_and)); (case r1 => first | omega | ((simp (disch := omega) only [zU_c, zU_e, zU_k, zF_c, zF_i, zF_o, zW_o, zW_i, zC_c, zC_i, zC_o]); omega)); (case r2 => first | omega | ((simp (disch := omega) only [zU_c, zU_e, zU_k, zF_c, zF_i, zF_o, zW_o, zW_i, zC_c, zC_i, zC_o]); omega)); (case r3 => first | omega | ((simp (disch := omega) only [zU_c, zU_e, zU_k, zF_c, zF_i, zF_o, zW_o, zW_i, zC_c, zC_i, zC_o]); omega)); (case a1 => assumption); intro _ _ _)
    | (with_reducible apply z_6fewestFor; (case e4 => repeat (with_reducible first | exact zv_l _ | exact zv_r | apply zv_add | apply zv_sub | apply zv_neg | apply zv_and)); (case e5 => repeat (with_reducible first | exact zv_l _ | exact zv_r | apply zv_add | apply zv_sub | apply zv_neg | apply zv_and)); (case e6 => repeat (with_reducible first | exact zv_l _ | exact zv_r | apply zv_add | apply zv_sub | apply zv_neg | apply zv_and)); (case r1 => first | omega | ((simp (disch := omega) only [zU_c, zU_e, zU_k, zF_c, zF_i, zF_o, zW_o, zW_i, zC_c, zC_i, zC_o]); omega)); (case r2 => first | omega | ((simp (disch := omega) only [zU_c, zU_e, zU_k, zF_c, zF_i, zF_o, zW_o, zW_i, zC_c, zC_i, zC_o]); omega)); (case r3 => first | omega | ((simp (disch := omega) only [zU_c, zU_e, zU_k, zF_c, zF_i, zF_o, zW_o, zW_i, zC_c, zC_i, zC_o]); omega)); (case a1 => assumption); intro _ _ _))
          exact hk2 _ _ _ (by omega) ⟨b', i + 1, rfl, hb'lt, hb'w, by omega, by omega, rfl, hF4, fun c hc hw hp => hle c hw (Or.inl hc) hp⟩
      unfold f_X6_fewestFor_30
      dsimp only
      (first
    | (with_reducible apply z_B; all_goals (intro _; try (exfalso; omega)))
    | (with_reducible apply z_E; all_goals intro _)
    | (with_reducible apply z_lt; (case ha => repeat (with_reducible first | exact zv_l _ | exact zv_r | apply zv_add | apply zv_sub | apply zv_neg | apply zv_and)); (case hb => repeat (with_reducible first | exact zv_l _ | exact zv_r | apply zv_add | apply zv_sub | apply zv_neg | apply zv_and)); (case hx => omega); (case hy => omega); all_goals (intro _; try (exfalso; omega)))
    | (with_reducible apply z_le; (case ha => repeat (with_reducible first | exact zv_l _ | exact zv_r | apply zv_add | apply zv_sub | apply zv_neg | apply zv_and)); (case hb => repeat (with_reducible first | exact zv_l _ | exact zv_r | apply zv_add | apply zv_sub | apply zv_neg | apply zv_and)); (case hx => omega); (case hy => omega); all_goals (intro _; try (exfalso; omega)))
    | (with_reducible apply z_eq; (case ha => repeat (with_reducible first | exact zv_l _ | exact zv_r | apply zv_add | apply zv_sub | apply zv_neg | apply zv_and)); (case hb => repeat (with_reducible first | exact zv_l _ | exact zv_r | apply zv_add | apply zv_sub | apply zv_neg | apply zv_and)); (case hx => omega); (case hy => omega); all_goals (intro _; try (exfalso; omega))))
      refine z_6bitCount rfl hb ?_
      have hp := zPop_le b
      refine z_eq (x := (zPop b : Int)) (y := s) rfl rfl (by omega) (by omega) (fun hps => ?_) (fun hps => ?_)
      · refine z_call (hs hq m3 b hF3 hb hbw) (fun v m5 hv => ?_)
        obtain ⟨rfl, hF5⟩ := hv
        refine z_E (fun hS => ?_) (fun hS => ?_)
        · exact hnext _ (zFr_t hF3 hF5 (by omega)) (fun _ => hS)
        · refine ⟨_, _, rfl, ⟨(b : Int), rfl, Or.inr ⟨b, rfl, hb, ⟨hbw, hS⟩, fun c hc q => ?_⟩⟩, zFr_t hF3 hF5 (by omega)⟩
          have g1 : ¬ (zPop c : Int) < s := fun w => hno c hc q.1 w q.2
          have g2 : (zPop c : Int) = s → ¬ c < b := fun w1 w2 => hlow c w2 q.1 w1 q.2
          by_cases hcs : (zPop c : Int) = s
          · have := g2 hcs
            omega
          · omega
      · exact hnext _ hF3 (fun q => absurd q hps)
theorem zCn_mono {m : zMe} {t : Int} {b : Nat} (hW : zWf m 3) (hb : b &&& zOwn m 3 t = b) (h : zCn m 3 t b) : zHr m 3 t := by
  have hK := hW.1.2.2
  obtain ⟨xs, hx⟩ := (zCn_iff hW).mp h
  refine ⟨xs, hx.1, hx.2.1, fun u u0 u1 => Int.le_trans (hx.2.2 u u0 u1) ?_⟩
  have h1 := (zLo_range (m := m) (r := 3) hK t b (m 3 1).toNat u).1
  have h2 := zPop_mono hb
  unfold zRo zFr1 zRe
  have : m 3 2 = 0 ∨ m 3 2 = 1 ∨ m 3 2 = 2 := by omega
  rcases this with e | e | e <;> rw [e] <;> omega
theorem s6_suf0 {m : zMe} {t : Int} {bits : Nat} (r1 : 0 ≤ t ∧ t < m 3 0) (r2 : bits < 512) (a1 : zWf m 3) : zOk (f_X6_suffices 0 (zI t) (zI (bits : Int)) (zI 0) (zM m)) (fun v m1 => v = zI (zE (zCn m 3 t bits)) ∧ zFr 27 m m1) := by
  have hT := a1.1.1
  have hN := a1.1.2.1
  unfold f_X6_suffices
  (first
    | (with_reducible apply z_b_ck; (case h => with_unfolding_all rfl))
    | (with_reducible apply z_b_R; (case h => first | with_unfolding_all rfl))
    | with_reducible refine z_bz ?_
    | with_reducible refine z_bzE ?_
    | (with_reducible apply z_bzl; (case h => omega))
    | (with_reducible apply z_0leftOf; (case a1 => assumption); (case e1 => repeat (with_reducible first | exact zv_l _ | exact zv_r)); (case r2 => first | omega | ((simp (disch := omega) only [zU_c, zU_e, zU_k, zF_c, zF_i, zF_o, zW_o, zW_i, zC_c, zC_i, zC_o]); omega)); (case r1 => first | omega | ((simp (disch := omega) only [zU_c, zU_e, zU_k, zF_c, zF_i, zF_o, zW_o, zW_i, zC_c, zC_i, zC_o]); omega)); (case a2 => assumption))
    | (with_reducible apply z_1canEnd; (case a1 => assumption); intro _ _ _)
    | (with_reducible apply z_1open; (case a1 => assumption); (case e1 => repeat (with_reducible first | exact zv_l _ | exact zv_r)); (case e2 => repeat (with_reducible first | exact zv_l _ | exact zv_r)); (case r1 => first | omega | ((simp (disch := omega) only [zU_c, zU_e, zU_k, zF_c, zF_i, zF_o, zW_o, zW_i, zC_c, zC_i, zC_o]); omega)); (case a2 => assumption); (case a3 => assumption); intro _ _ _)
    | (with_reducible apply z_1drawOnly; (case a1 => assumption); (case e1 => repeat (with_reducible first | exact zv_l _ | exact zv_r)); (case a2 => assumption); (case a3 => assumption); (case a4 => assumption); (case a5 => assumption); (case a6 => assumption); intro _ _ _)
    | (with_reducible apply z_6suffices; (case e4 => repeat (with_reducible first | exact zv_l _ | exact zv_r)); (case e5 => repeat (with_reducible first | exact zv_l _ | exact zv_r)); (case e6 => repeat (with_reducible first | exact zv_l _ | exact zv_r)); (case r1 => first | omega | ((simp (disch := omega) only [zU_c, zU_e, zU_k, zF_c, zF_i, zF_o, zW_o, zW_i, zC_c, zC_i, zC_o]); omega)); (case r2 => first | omega | ((simp (disch := omega) only [zU_c, zU_e, zU_k, zF_c, zF_i, zF_o, zW_o, zW_i, zC_c, zC_i, zC_o]); omega)); (case r3 => first | omega | ((simp (disch := omega) only [zU_c, zU_e, zU_k, zF_c, zF_i, zF_o, zW_o, zW_i, zC_c, zC_i, zC_o]); omega)); (case a1 => assumption); intro _ _ _))
  (first
    | (with_reducible apply z_b_ck; (case h => with_unfolding_all rfl))
    | (with_reducible apply z_b_R; (case h => first | with_unfolding_all rfl))
    | with_reducible refine z_bz ?_
    | with_reducible refine z_bzE ?_
    | (with_reducible apply z_bzl; (case h => omega))
    | (with_reducible apply z_0leftOf; (case a1 => assumption); (case e1 => repeat (with_reducible first | exact zv_l _ | exact zv_r)); (case r2 => first | omega | ((simp (disch := omega) only [zU_c, zU_e, zU_k, zF_c, zF_i, zF_o, zW_o, zW_i, zC_c, zC_i, zC_o]); omega)); (case r1 => first | omega | ((simp (disch := omega) only [zU_c, zU_e, zU_k, zF_c, zF_i, zF_o, zW_o, zW_i, zC_c, zC_i, zC_o]); omega)); (case a2 => assumption))
    | (with_reducible apply z_1canEnd; (case a1 => assumption); intro _ _ _)
    | (with_reducible apply z_1open; (case a1 => assumption); (case e1 => repeat (with_reducible first | exact zv_l _ | exact zv_r)); (case e2 => repeat (with_reducible first | exact zv_l _ | exact zv_r)); (case r1 => first | omega | ((simp (disch := omega) only [zU_c, zU_e, zU_k, zF_c, zF_i, zF_o, zW_o, zW_i, zC_c, zC_i, zC_o]); omega)); (case a2 => assumption); (case a3 => assumption); intro _ _ _)
    | (with_reducible apply z_1drawOnly; (case a1 => assumption); (case e1 => repeat (with_reducible first | exact zv_l _ | exact zv_r)); (case a2 => assumption); (case a3 => assumption); (case a4 => assumption); (case a5 => assumption); (case a6 => assumption); intro _ _ _)
    | (with_reducible apply z_6suffices; (case e4 => repeat (with_reducible first | exact zv_l _ | exact zv_r)); (case e5 => repeat (with_reducible first | exact zv_l _ | exact zv_r)); (case e6 => repeat (with_reducible first | exact zv_l _ | exact zv_r)); (case r1 => first | omega | ((simp (disch := omega) only [zU_c, zU_e, zU_k, zF_c, zF_i, zF_o, zW_o, zW_i, zC_c, zC_i, zC_o]); omega)); (case r2 => first | omega | ((simp (disch := omega) only [zU_c, zU_e, zU_k, zF_c, zF_i, zF_o, zW_o, zW_i, zC_c, zC_i, zC_o]); omega)); (case r3 => first | omega | ((simp (disch := omega) only [zU_c, zU_e, zU_k, zF_c, zF_i, zF_o, zW_o, zW_i, zC_c, zC_i, zC_o]); omega)); (case a1 => assumption); intro _ _ _))
  (first
    | (with_reducible apply z_b_ck; (case h => with_unfolding_all rfl))
    | (with_reducible apply z_b_R; (case h => first | with_unfolding_all rfl))
    | with_reducible refine z_bz ?_
    | with_reducible refine z_bzE ?_
    | (with_reducible apply z_bzl; (case h => omega))
    | (with_reducible apply z_0leftOf; (case a1 => assumption); (case e1 => repeat (with_reducible first | exact zv_l _ | exact zv_r)); (case r2 => first | omega | ((simp (disch := omega) only [zU_c, zU_e, zU_k, zF_c, zF_i, zF_o, zW_o, zW_i, zC_c, zC_i, zC_o]); omega)); (case r1 => first | omega | ((simp (disch := omega) only [zU_c, zU_e, zU_k, zF_c, zF_i, zF_o, zW_o, zW_i, zC_c, zC_i, zC_o]); omega)); (case a2 => assumption))
    | (with_reducible apply z_1canEnd; (case a1 => assumption); intro _ _ _)
    | (with_reducible apply z_1open; (case a1 => assumption); (case e1 => repeat (with_reducible first | exact zv_l _ | exact zv_r)); (case e2 => repeat (with_reducible first | exact zv_l _ | exact zv_r)); (case r1 => first | omega | ((simp (disch := omega) only [zU_c, zU_e, zU_k, zF_c, zF_i, zF_o, zW_o, zW_i, zC_c, zC_i, zC_o]); omega)); (case a2 => assumption); (case a3 => assumption); intro _ _ _)
    | (with_reducible apply z_1drawOnly; (case a1 => assumption); (case e1 => repeat (with_reducible first | exact zv_l _ | exact zv_r)); (case a2 => assumption); (case a3 => assumption); (case a4 => assumption); (case a5 => assumption); (case a6 => assumption); intro _ _ _)
    | (with_reducible apply z_6suffices; (case e4 => repeat (with_reducible first | exact zv_l _ | exact zv_r)); (case e5 => repeat (with_reducible first | exact zv_l _ | exact zv_r)); (case e6 => repeat (with_reducible first | exact zv_l _ | exact zv_r)); (case r1 => first | omega | ((simp (disch := omega) only [zU_c, zU_e, zU_k, zF_c, zF_i, zF_o, zW_o, zW_i, zC_c, zC_i, zC_o]); omega)); (case r2 => first | omega | ((simp (disch := omega) only [zU_c, zU_e, zU_k, zF_c, zF_i, zF_o, zW_o, zW_i, zC_c, zC_i, zC_o]); omega)); (case r3 => first | omega | ((simp (disch := omega) only [zU_c, zU_e, zU_k, zF_c, zF_i, zF_o, zW_o, zW_i, zC_c, zC_i, zC_o]); omega)); (case a1 => assumption); intro _ _ _))
  refine z_eq (x := 0) (y := 0) rfl rfl (by omega) (by omega) (fun _ => ?_) (fun q => absurd rfl q)
  unfold f_X6_suffices_25
  refine z_1open (r := 3) (Or.inl rfl) rfl rfl r1 a1 r2 (fun _ w hw => ?_)
  refine z_eq (x := 0) (y := 0) rfl rfl (by omega) (by omega) (fun _ => ?_) (fun q => absurd rfl q)
  unfold f_X6_suffices_40
  (first
    | (with_reducible apply z_b_ck; (case h => with_unfolding_all rfl))
    | (with_reducible apply z_b_R; (case h => first | with_unfolding_all rfl))
    | with_reducible refine z_bz ?_
    | with_reducible refine z_bzE ?_
    | (with_reducible apply z_bzl; (case h => omega))
    | (with_reducible apply z_0leftOf; (case a1 => assumption); (case e1 => repeat (with_reducible first | exact zv_l _ | exact zv_r)); (case r2 => first | omega | ((simp (disch := omega) only [zU_c, zU_e, zU_k, zF_c, zF_i, zF_o, zW_o, zW_i, zC_c, zC_i, zC_o]); omega)); (case r1 => first | omega | ((simp (disch := omega) only [zU_c, zU_e, zU_k, zF_c, zF_i, zF_o, zW_o, zW_i, zC_c, zC_i, zC_o]); omega)); (case a2 => assumption))
    | (with_reducible apply z_1canEnd; (case a1 => assumption); intro _ _ _)
    | (with_reducible apply z_1open; (case a1 => assumption); (case e1 => repeat (with_reducible first | exact zv_l _ | exact zv_r)); (case e2 => repeat (with_reducible first | exact zv_l _ | exact zv_r)); (case r1 => first | omega | ((simp (disch := omega) only [zU_c, zU_e, zU_k, zF_c, zF_i, zF_o, zW_o, zW_i, zC_c, zC_i, zC_o]); omega)); (case a2 => assumption); (case a3 => assumption); intro _ _ _)
    | (with_reducible apply z_1drawOnly; (case a1 => assumption); (case e1 => repeat (with_reducible first | exact zv_l _ | exact zv_r)); (case a2 => assumption); (case a3 => assumption); (case a4 => assumption); (case a5 => assumption); (case a6 => assumption); intro _ _ _)
    | (with_reducible apply z_6suffices; (case e4 => repeat (with_reducible first | exact zv_l _ | exact zv_r)); (case e5 => repeat (with_reducible first | exact zv_l _ | exact zv_r)); (case e6 => repeat (with_reducible first | exact zv_l _ | exact zv_r)); (case r1 => first | omega | ((simp (disch := omega) only [zU_c, zU_e, zU_k, zF_c, zF_i, zF_o, zW_o, zW_i, zC_c, zC_i, zC_o]); omega)); (case r2 => first | omega | ((simp (disch := omega) only [zU_c, zU_e, zU_k, zF_c, zF_i, zF_o, zW_o, zW_i, zC_c, zC_i, zC_o]); omega)); (case r3 => first | omega | ((simp (disch := omega) only [zU_c, zU_e, zU_k, zF_c, zF_i, zF_o, zW_o, zW_i, zC_c, zC_i, zC_o]); omega)); (case a1 => assumption); intro _ _ _))
  refine z_1canEnd (zRd1_W (zOp_Rd a1 r1.1 hw)) (fun v m1 hp => ?_)
  obtain ⟨w3, rfl, rfl, -⟩ := hp
  (first
    | (with_reducible apply z_b_ck; (case h => with_unfolding_all rfl))
    | (with_reducible apply z_b_R; (case h => first | with_unfolding_all rfl))
    | with_reducible refine z_bz ?_
    | with_reducible refine z_bzE ?_
    | (with_reducible apply z_bzl; (case h => omega))
    | (with_reducible apply z_0leftOf; (case a1 => assumption); (case e1 => repeat (with_reducible first | exact zv_l _ | exact zv_r)); (case r2 => first | omega | ((simp (disch := omega) only [zU_c, zU_e, zU_k, zF_c, zF_i, zF_o, zW_o, zW_i, zC_c, zC_i, zC_o]); omega)); (case r1 => first | omega | ((simp (disch := omega) only [zU_c, zU_e, zU_k, zF_c, zF_i, zF_o, zW_o, zW_i, zC_c, zC_i, zC_o]); omega)); (case a2 => assumption))
    | (with_reducible apply z_1canEnd; (case a1 => assumption); intro _ _ _)
    | (with_reducible apply z_1open; (case a1 => assumption); (case e1 => repeat (with_reducible first | exact zv_l _ | exact zv_r)); (case e2 => repeat (with_reducible first | exact zv_l _ | exact zv_r)); (case r1 => first | omega | ((simp (disch := omega) only [zU_c, zU_e, zU_k, zF_c, zF_i, zF_o, zW_o, zW_i, zC_c, zC_i, zC_o]); omega)); (case a2 => assumption); (case a3 => assumption); intro _ _ _)
    | (with_reducible apply z_1drawOnly; (case a1 => assumption); (case e1 => repeat (with_reducible first | exact zv_l _ | exact zv_r)); (case a2 => assumption); (case a3 => assumption); (case a4 => assumption); (case a5 => assumption); (case a6 => assumption); intro _ _ _)
    | (with_reducible apply z_6suffices; (case e4 => repeat (with_reducible first | exact zv_l _ | exact zv_r)); (case e5 => repeat (with_reducible first | exact zv_l _ | exact zv_r)); (case e6 => repeat (with_reducible first | exact zv_l _ | exact zv_r)); (case r1 => first | omega | ((simp (disch := omega) only [zU_c, zU_e, zU_k, zF_c, zF_i, zF_o, zW_o, zW_i, zC_c, zC_i, zC_o]); omega)); (case r2 => first | omega | ((simp (disch := omega) only [zU_c, zU_e, zU_k, zF_c, zF_i, zF_o, zW_o, zW_i, zC_c, zC_i, zC_o]); omega)); (case r3 => first | omega | ((simp (disch := omega) only [zU_c, zU_e, zU_k, zF_c, zF_i, zF_o, zW_o, zW_i, zC_c, zC_i, zC_o]); omega)); (case a1 => assumption); intro _ _ _))
  exact ⟨_, _, rfl, by rw [zE_iff (zCe_W.trans (zOp_Ce a1 hw))], zFr_W (zFr_W (zFr_r _ _) (by omega)) (by omega)⟩
/-- what needs tells -/
def zNe (m : zMe) (t x y : Int) : Prop := (¬ ((0 ≤ t ∧ t < m 3 0) ∧ (x = 0 ∨ x = 1)) ∧ y = -2) ∨ (((0 ≤ t ∧ t < m 3 0) ∧ (x = 0 ∨ x = 1)) ∧ ∃ z, zMn (fun b => b &&& zOwn m 3 t = b ∧ zCn m 3 t b) z ∧ y = if x = 0 ∧ ¬ z = -1 then (zPop z.toNat : Int) else z)
theorem zNe_u {m : zMe} {t x y y' : Int} (h1 : zNe m t x y) (h2 : zNe m t x y') : y = y' := by
  rcases h1 with ⟨h, rfl⟩ | ⟨h, z, hz, rfl⟩
  · rcases h2 with ⟨g, rfl⟩ | ⟨g, z, hz, rfl⟩
    · rfl
    · exact absurd g h
  · rcases h2 with ⟨g, rfl⟩ | ⟨g, z', hz', rfl⟩
    · exact absurd h g
    · rw [zMn_u hz hz']
theorem zCn_S' {m m1 : zMe} {t : Int} {b : Nat} (h : zFr 27 m m1) : zCn m1 3 t b ↔ zCn m 3 t b := zCn_S (zFr_S h (by omega))
theorem s6_needsE {m : zMe} {e1 e2 : Int32} {t x : Int} (e3 : e1 = zI t) (e4 : e2 = zI x) (r1 : -2147483648 ≤ t ∧ t < 2147483648) (r2 : -2147483648 ≤ x ∧ x < 2147483648) (a1 : zWf m 3) : zOk (f_X6_needs 0 e1 e2 (zM m)) (fun v m1 => (∃ y, v = zI y ∧ zNe m t x y) ∧ zFr 19 m m1) := by
  subst e3; subst e4
  have hG : zG 3 := Or.inl rfl
  have hT := a1.1.1
  have hN := a1.1.2.1
  unfold f_X6_needs
  (first
    | (with_reducible apply z_nm; (case he => repeat (with_reducible first | exact zv_l _ | exact zv_r | apply zv_neg)))
    | (with_reducible apply z_b_ck; (case h => with_unfolding_all rfl))
    | (with_reducible apply z_b_R; (case h => first | with_unfolding_all rfl))
    | (with_reducible apply z_6isPart; (case e1 => repeat (with_reducible first | exact zv_l _ | exact zv_r | apply zv_neg)); (case r1 => first | omega | ((simp (disch := omega) only [zU_c, zU_e, zU_k, zF_c, zF_i, zF_o, zW_o, zW_i, zC_c, zC_i, zC_o]); omega)))
    | (with_reducible apply z_0hasTeam; (case a1 => assumption); (case e1 => repeat (with_reducible first | exact zv_l _ | exact zv_r | apply zv_neg)); (case r1 => first | omega | ((simp (disch := omega) only [zU_c, zU_e, zU_k, zF_c, zF_i, zF_o, zW_o, zW_i, zC_c, zC_i, zC_o]); omega)); (case r2 => first | omega | ((simp (disch := omega) only [zU_c, zU_e, zU_k, zF_c, zF_i, zF_o, zW_o, zW_i, zC_c, zC_i, zC_o]); omega)))
    | (with_reducible apply z_0leftOf; (case a1 => assumption); (case e1 => repeat (with_reducible first | exact zv_l _ | exact zv_r | apply zv_neg)); (case r2 => first | omega | ((simp (disch := omega) only [zU_c, zU_e, zU_k, zF_c, zF_i, zF_o, zW_o, zW_i, zC_c, zC_i, zC_o]); omega)); (case r1 => first | omega | ((simp (disch := omega) only [zU_c, zU_e, zU_k, zF_c, zF_i, zF_o, zW_o, zW_i, zC_c, zC_i, zC_o]); omega)); (case a2 => assumption))
    | (with_reducible apply z_6fewestFor; (case e4 => repeat (with_reducible first | exact zv_l _ | exact zv_r | apply zv_neg)); (case e5 => repeat (with_reducible first | exact zv_l _ | exact zv_r | apply zv_neg)); (case e6 => repeat (with_reducible first | exact zv_l _ | exact zv_r | apply zv_neg)); (case r1 => first | omega | ((simp (disch := omega) only [zU_c, zU_e, zU_k, zF_c, zF_i, zF_o, zW_o, zW_i, zC_c, zC_i, zC_o]); omega)); (case r2 => first | omega | ((simp (disch := omega) only [zU_c, zU_e, zU_k, zF_c, zF_i, zF_o, zW_o, zW_i, zC_c, zC_i, zC_o]); omega)); (case r3 => first | omega | ((simp (disch := omega) only [zU_c, zU_e, zU_k, zF_c, zF_i, zF_o, zW_o, zW_i, zC_c, zC_i, zC_o]); omega)); (case a1 => assumption); intro _ _ _)
    | (with_reducible apply z_6needs; (case e3 => repeat (with_reducible first | exact zv_l _ | exact zv_r | apply zv_neg)); (case e4 => repeat (with_reducible first | exact zv_l _ | exact zv_r | apply zv_neg)); (case r1 => first | omega | ((simp (disch := omega) only [zU_c, zU_e, zU_k, zF_c, zF_i, zF_o, zW_o, zW_i, zC_c, zC_i, zC_o]); omega)); (case r2 => first | omega | ((simp (disch := omega) only [zU_c, zU_e, zU_k, zF_c, zF_i, zF_o, zW_o, zW_i, zC_c, zC_i, zC_o]); omega)); (case a1 => assumption); intro _ _ _))
  (first
    | (with_reducible apply z_nm; (case he => repeat (with_reducible first | exact zv_l _ | exact zv_r | apply zv_neg)))
    | (with_reducible apply z_b_ck; (case h => with_unfolding_all rfl))
    | (with_reducible apply z_b_R; (case h => first | with_unfolding_all rfl))
    | (with_reducible apply z_6isPart; (case e1 => repeat (with_reducible first | exact zv_l _ | exact zv_r | apply zv_neg)); (case r1 => first | omega | ((simp (disch := omega) only [zU_c, zU_e, zU_k, zF_c, zF_i, zF_o, zW_o, zW_i, zC_c, zC_i, zC_o]); omega)))
    | (with_reducible apply z_0hasTeam; (case a1 => assumption); (case e1 => repeat (with_reducible first | exact zv_l _ | exact zv_r | apply zv_neg)); (case r1 => first | omega | ((simp (disch := omega) only [zU_c, zU_e, zU_k, zF_c, zF_i, zF_o, zW_o, zW_i, zC_c, zC_i, zC_o]); omega)); (case r2 => first | omega | ((simp (disch := omega) only [zU_c, zU_e, zU_k, zF_c, zF_i, zF_o, zW_o, zW_i, zC_c, zC_i, zC_o]); omega)))
    | (with_reducible apply z_0leftOf; (case a1 => assumption); (case e1 => repeat (with_reducible first | exact zv_l _ | exact zv_r | apply zv_neg)); (case r2 => first | omega | ((simp (disch := omega) only [zU_c, zU_e, zU_k, zF_c, zF_i, zF_o, zW_o, zW_i, zC_c, zC_i, zC_o]); omega)); (case r1 => first | omega | ((simp (disch := omega) only [zU_c, zU_e, zU_k, zF_c, zF_i, zF_o, zW_o, zW_i, zC_c, zC_i, zC_o]); omega)); (case a2 => assumption))
    | (with_reducible apply z_6fewestFor; (case e4 => repeat (with_reducible first | exact zv_l _ | exact zv_r | apply zv_neg)); (case e5 => repeat (with_reducible first | exact zv_l _ | exact zv_r | apply zv_neg)); (case e6 => repeat (with_reducible first | exact zv_l _ | exact zv_r | apply zv_neg)); (case r1 => first | omega | ((simp (disch := omega) only [zU_c, zU_e, zU_k, zF_c, zF_i, zF_o, zW_o, zW_i, zC_c, zC_i, zC_o]); omega)); (case r2 => first | omega | ((simp (disch := omega) only [zU_c, zU_e, zU_k, zF_c, zF_i, zF_o, zW_o, zW_i, zC_c, zC_i, zC_o]); omega)); (case r3 => first | omega | ((simp (disch := omega) only [zU_c, zU_e, zU_k, zF_c, zF_i, zF_o, zW_o, zW_i, zC_c, zC_i, zC_o]); omega)); (case a1 => assumption); intro _ _ _)
    | (with_reducible apply z_6needs; (case e3 => repeat (with_reducible first | exact zv_l _ | exact zv_r | apply zv_neg)); (case e4 => repeat (with_reducible first | exact zv_l _ | exact zv_r | apply zv_neg)); (case r1 => first | omega | ((simp (disch := omega) only [zU_c, zU_e, zU_k, zF_c, zF_i, zF_o, zW_o, zW_i, zC_c, zC_i, zC_o]); omega)); (case r2 => first | omega | ((simp (disch := omega) only [zU_c, zU_e, zU_k, zF_c, zF_i, zF_o, zW_o, zW_i, zC_c, zC_i, zC_o]); omega)); (case a1 => assumption); intro _ _ _))
  (first
    | (with_reducible apply z_nm; (case he => repeat (with_reducible first | exact zv_l _ | exact zv_r | apply zv_neg)))
    | (with_reducible apply z_b_ck; (case h => with_unfolding_all rfl))
    | (with_reducible apply z_b_R; (case h => first | with_unfolding_all rfl))
    | (with_reducible apply z_6isPart; (case e1 => repeat (with_reducible first | exact zv_l _ | exact zv_r | apply zv_neg)); (case r1 => first | omega | ((simp (disch := omega) only [zU_c, zU_e, zU_k, zF_c, zF_i, zF_o, zW_o, zW_i, zC_c, zC_i, zC_o]); omega)))
    | (with_reducible apply z_0hasTeam; (case a1 => assumption); (case e1 => repeat (with_reducible first | exact zv_l _ | exact zv_r | apply zv_neg)); (case r1 => first | omega | ((simp (disch := omega) only [zU_c, zU_e, zU_k, zF_c, zF_i, zF_o, zW_o, zW_i, zC_c, zC_i, zC_o]); omega)); (case r2 => first | omega | ((simp (disch := omega) only [zU_c, zU_e, zU_k, zF_c, zF_i, zF_o, zW_o, zW_i, zC_c, zC_i, zC_o]); omega)))
    | (with_reducible apply z_0leftOf; (case a1 => assumption); (case e1 => repeat (with_reducible first | exact zv_l _ | exact zv_r | apply zv_neg)); (case r2 => first | omega | ((simp (disch := omega) only [zU_c, zU_e, zU_k, zF_c, zF_i, zF_o, zW_o, zW_i, zC_c, zC_i, zC_o]); omega)); (case r1 => first | omega | ((simp (disch := omega) only [zU_c, zU_e, zU_k, zF_c, zF_i, zF_o, zW_o, zW_i, zC_c, zC_i, zC_o]); omega)); (case a2 => assumption))
    | (with_reducible apply z_6fewestFor; (case e4 => repeat (with_reducible first | exact zv_l _ | exact zv_r | apply zv_neg)); (case e5 => repeat (with_reducible first | exact zv_l _ | exact zv_r | apply zv_neg)); (case e6 => repeat (with_reducible first | exact zv_l _ | exact zv_r | apply zv_neg)); (case r1 => first | omega | ((simp (disch := omega) only [zU_c, zU_e, zU_k, zF_c, zF_i, zF_o, zW_o, zW_i, zC_c, zC_i, zC_o]); omega)); (case r2 => first | omega | ((simp (disch := omega) only [zU_c, zU_e, zU_k, zF_c, zF_i, zF_o, zW_o, zW_i, zC_c, zC_i, zC_o]); omega)); (case r3 => first | omega | ((simp (disch := omega) only [zU_c, zU_e, zU_k, zF_c, zF_i, zF_o, zW_o, zW_i, zC_c, zC_i, zC_o]); omega)); (case a1 => assumption); intro _ _ _)
    | (with_reducible apply z_6needs; (case e3 => repeat (with_reducible first | exact zv_l _ | exact zv_r | apply zv_neg)); (case e4 => repeat (with_reducible first | exact zv_l _ | exact zv_r | apply zv_neg)); (case r1 => first | omega | ((simp (disch := omega) only [zU_c, zU_e, zU_k, zF_c, zF_i, zF_o, zW_o, zW_i, zC_c, zC_i, zC_o]); omega)); (case r2 => first | omega | ((simp (disch := omega) only [zU_c, zU_e, zU_k, zF_c, zF_i, zF_o, zW_o, zW_i, zC_c, zC_i, zC_o]); omega)); (case a1 => assumption); intro _ _ _))
  refine z_B (fun hq => ?_) (fun hq => ?_)
  · exact ⟨_, _, rfl, ⟨-2, rfl, Or.inl ⟨fun w => hq w.1, rfl⟩⟩, zFr_r _ _⟩
  · (first
    | (with_reducible apply z_nm; (case he => repeat (with_reducible first | exact zv_l _ | exact zv_r | apply zv_neg)))
    | (with_reducible apply z_b_ck; (case h => with_unfolding_all rfl))
    | (with_reducible apply z_b_R; (case h => first | with_unfolding_all rfl))
    | (with_reducible apply z_6isPart; (case e1 => repeat (with_reducible first | exact zv_l _ | exact zv_r | apply zv_neg)); (case r1 => first | omega | ((simp (disch := omega) only [zU_c, zU_e, zU_k, zF_c, zF_i, zF_o, zW_o, zW_i, zC_c, zC_i, zC_o]); omega)))
    | (with_reducible apply z_0hasTeam; (case a1 => assumption); (case e1 => repeat (with_reducible first | exact zv_l _ | exact zv_r | apply zv_neg)); (case r1 => first | omega | ((simp (disch := omega) only [zU_c, zU_e, zU_k, zF_c, zF_i, zF_o, zW_o, zW_i, zC_c, zC_i, zC_o]); omega)); (case r2 => first | omega | ((simp (disch := omega) only [zU_c, zU_e, zU_k, zF_c, zF_i, zF_o, zW_o, zW_i, zC_c, zC_i, zC_o]); omega)))
    | (with_reducible apply z_0leftOf; (case a1 => assumption); (case e1 => repeat (with_reducible first | exact zv_l _ | exact zv_r | apply zv_neg)); (case r2 => first | omega | ((simp (disch := omega) only [zU_c, zU_e, zU_k, zF_c, zF_i, zF_o, zW_o, zW_i, zC_c, zC_i, zC_o]); omega)); (case r1 => first | omega | ((simp (disch := omega) only [zU_c, zU_e, zU_k, zF_c, zF_i, zF_o, zW_o, zW_i, zC_c, zC_i, zC_o]); omega)); (case a2 => assumption))
    | (with_reducible apply z_6fewestFor; (case e4 => repeat (with_reducible first | exact zv_l _ | exact zv_r | apply zv_neg)); (case e5 => repeat (with_reducible first | exact zv_l _ | exact zv_r | apply zv_neg)); (case e6 => repeat (with_reducible first | exact zv_l _ | exact zv_r | apply zv_neg)); (case r1 => first | omega | ((simp (disch := omega) only [zU_c, zU_e, zU_k, zF_c, zF_i, zF_o, zW_o, zW_i, zC_c, zC_i, zC_o]); omega)); (case r2 => first | omega | ((simp (disch := omega) only [zU_c, zU_e, zU_k, zF_c, zF_i, zF_o, zW_o, zW_i, zC_c, zC_i, zC_o]); omega)); (case r3 => first | omega | ((simp (disch := omega) only [zU_c, zU_e, zU_k, zF_c, zF_i, zF_o, zW_o, zW_i, zC_c, zC_i, zC_o]); omega)); (case a1 => assumption); intro _ _ _)
    | (with_reducible apply z_6needs; (case e3 => repeat (with_reducible first | exact zv_l _ | exact zv_r | apply zv_neg)); (case e4 => repeat (with_reducible first | exact zv_l _ | exact zv_r | apply zv_neg)); (case r1 => first | omega | ((simp (disch := omega) only [zU_c, zU_e, zU_k, zF_c, zF_i, zF_o, zW_o, zW_i, zC_c, zC_i, zC_o]); omega)); (case r2 => first | omega | ((simp (disch := omega) only [zU_c, zU_e, zU_k, zF_c, zF_i, zF_o, zW_o, zW_i, zC_c, zC_i, zC_o]); omega)); (case a1 => assumption); intro _ _ _))
    (first
    | (with_reducible apply z_B; all_goals (intro _; try (exfalso; omega)))
    | (with_reducible apply z_E; all_goals intro _)
    | (with_reducible apply z_lt; (case ha => repeat (with_reducible first | exact zv_l _ | exact zv_r | apply zv_neg)); (case hb => repeat (with_reducible first | exact zv_l _ | exact zv_r | apply zv_neg)); (case hx => omega); (case hy => omega); all_goals (intro _; try (exfalso; omega)))
    | (with_reducible apply z_le; (case ha => repeat (with_reducible first | exact zv_l _ | exact zv_r | apply zv_neg)); (case hb => repeat (with_reducible first | exact zv_l _ | exact zv_r | apply zv_neg)); (case hx => omega); (case hy => omega); all_goals (intro _; try (exfalso; omega)))
    | (with_reducible apply z_eq; (case ha => repeat (with_reducible first | exact zv_l _ | exact zv_r | apply zv_neg)); (case hb => repeat (with_reducible first | exact zv_l _ | exact zv_r | apply zv_neg)); (case hx => omega); (case hy => omega); all_goals (intro _; try (exfalso; omega))))
    · rename_i hx
      exact ⟨_, _, rfl, ⟨-2, rfl, Or.inl ⟨fun w => hx w.2, rfl⟩⟩, zFr_r _ _⟩
    · rename_i hx
      (first
    | (with_reducible apply z_nm; (case he => repeat (with_reducible first | exact zv_l _ | exact zv_r | apply zv_neg)))
    | (with_reducible apply z_b_ck; (case h => with_unfolding_all rfl))
    | (with_reducible apply z_b_R; (case h => first | with_unfolding_all rfl))
    | (with_reducible apply z_6isPart; (case e1 => repeat (with_reducible first | exact zv_l _ | exact zv_r | apply zv_neg)); (case r1 => first | omega | ((simp (disch := omega) only [zU_c, zU_e, zU_k, zF_c, zF_i, zF_o, zW_o, zW_i, zC_c, zC_i, zC_o]); omega)))
    | (with_reducible apply z_0hasTeam; (case a1 => assumption); (case e1 => repeat (with_reducible first | exact zv_l _ | exact zv_r | apply zv_neg)); (case r1 => first | omega | ((simp (disch := omega) only [zU_c, zU_e, zU_k, zF_c, zF_i, zF_o, zW_o, zW_i, zC_c, zC_i, zC_o]); omega)); (case r2 => first | omega | ((simp (disch := omega) only [zU_c, zU_e, zU_k, zF_c, zF_i, zF_o, zW_o, zW_i, zC_c, zC_i, zC_o]); omega)))
    | (with_reducible apply z_0leftOf; (case a1 => assumption); (case e1 => repeat (with_reducible first | exact zv_l _ | exact zv_r | apply zv_neg)); (case r2 => first | omega | ((simp (disch := omega) only [zU_c, zU_e, zU_k, zF_c, zF_i, zF_o, zW_o, zW_i, zC_c, zC_i, zC_o]); omega)); (case r1 => first | omega | ((simp (disch := omega) only [zU_c, zU_e, zU_k, zF_c, zF_i, zF_o, zW_o, zW_i, zC_c, zC_i, zC_o]); omega)); (case a2 => assumption))
    | (with_reducible apply z_6fewestFor; (case e4 => repeat (with_reducible first | exact zv_l _ | exact zv_r | apply zv_neg)); (case e5 => repeat (with_reducible first | exact zv_l _ | exact zv_r | apply zv_neg)); (case e6 => repeat (with_reducible first | exact zv_l _ | exact zv_r | apply zv_neg)); (case r1 => first | omega | ((simp (disch := omega) only [zU_c, zU_e, zU_k, zF_c, zF_i, zF_o, zW_o, zW_i, zC_c, zC_i, zC_o]); omega)); (case r2 => first | omega | ((simp (disch := omega) only [zU_c, zU_e, zU_k, zF_c, zF_i, zF_o, zW_o, zW_i, zC_c, zC_i, zC_o]); omega)); (case r3 => first | omega | ((simp (disch := omega) only [zU_c, zU_e, zU_k, zF_c, zF_i, zF_o, zW_o, zW_i, zC_c, zC_i, zC_o]); omega)); (case a1 => assumption); intro _ _ _)
    | (with_reducible apply z_6needs; (case e3 => repeat (with_reducible first | exact zv_l _ | exact zv_r | apply zv_neg)); (case e4 => repeat (with_reducible first | exact zv_l _ | exact zv_r | apply zv_neg)); (case r1 => first | omega | ((simp (disch := omega) only [zU_c, zU_e, zU_k, zF_c, zF_i, zF_o, zW_o, zW_i, zC_c, zC_i, zC_o]); omega)); (case r2 => first | omega | ((simp (disch := omega) only [zU_c, zU_e, zU_k, zF_c, zF_i, zF_o, zW_o, zW_i, zC_c, zC_i, zC_o]); omega)); (case a1 => assumption); intro _ _ _))
      refine z_0leftOf hG rfl (by omega) hN (zWf_g2 a1) ?_
      refine z_call (s6_fewE (d := 0) (S := fun b => zCn m 3 t b) hq (zOwn_lt hN) a1 (fun _ m3 b hF3 hb _ => ?_) (fun b hb hbw hS => (zCw_Hr a1 hq).mpr (zCn_mono a1 hbw hS))) (fun v m1 hv => ?_)
      · have hS3 : zSame m m3 3 := zFr_S hF3 (by omega)
        refine (s6_suf0 (by rw [hS3 3 (by omega) (by omega)]; exact hq) hb (zWf_S hS3 a1)).mono (fun v m1 h => ?_)
        exact ⟨by rw [h.1, zE_iff (zCn_S' hF3)], h.2⟩
      · obtain ⟨⟨z, rfl, hz⟩, hF⟩ := hv
        have hzr := zMn_r hz
        have hfin : ∀ y, (y = if x = 0 ∧ ¬ z = -1 then (zPop z.toNat : Int) else z) → (∃ y', zI y = zI y' ∧ zNe m t x y') ∧ zFr 19 m m1 := fun y hy => ⟨⟨y, rfl, Or.inr ⟨⟨hq, hx⟩, z, hz, hy⟩⟩, zFr_19 hF (by omega)⟩
        refine z_eq (x := x) (y := 0) rfl rfl (by omega) (by omega) (fun hx0 => ?_) (fun hx0 => ?_)
        · refine z_eq (x := z) (y := -1) rfl rfl (by omega) (by omega) (fun hz1 => ?_) (fun hz1 => ?_)
          · exact ⟨_, _, rfl, hfin z (by rw [if_neg (fun w => w.2 hz1)])⟩
          · refine z_6bitCount (x := z.toNat) (by rw [Int.toNat_of_nonneg (by omega)]) (by omega) ?_
            exact ⟨_, _, rfl, hfin _ (by rw [if_pos ⟨hx0, hz1⟩])⟩
        · exact ⟨_, _, rfl, hfin z (by rw [if_neg (fun w => hx0 w.1)])⟩
