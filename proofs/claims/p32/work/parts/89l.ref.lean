/-! the reference: a game that comes; load -/
theorem zRw_E {mc m : zMe} (hW : zWf mc 3) (hE : zEq2 mc m 3 51) : zRw m := by
  obtain ⟨⟨h0, h1, h2⟩, ha, hb⟩ := hE
  obtain ⟨⟨w0, w1, w2⟩, wa, wb, wc⟩ := hW
  unfold zRw
  rw [h0, h1, h2]
  refine ⟨⟨w0, w1, w2⟩, fun t t0 t1 => ?_, fun k k0 k1 => ?_⟩
  · obtain ⟨p1, p2, p3⟩ := ha t t0 t1
    rw [p1, p2]
    exact wa t t0 t1
  · obtain ⟨p1, p2, p3, p4⟩ := hb k k0 k1
    rw [p1, p2, p3, p4]
    exact wb k k0 k1
set_option maxRecDepth 100000 in
set_option maxHeartbeats 1000000 in
theorem s_7comesGame {m : zMe} {e1 e2 e3 : Int32} {a b d : Int} (e4 : e1 = zI a) (e5 : e2 = zI b) (e6 : e3 = zI d) (r1 : 0 ≤ m 51 1 ∧ m 51 1 ≤ 9) : f_X7_comesGame 50 e1 e2 e3 (zM m) = some (zI (if m 51 1 = 9 then -4 else m 51 1), zM (if m 51 1 = 9 then m else zAr m 51 a b d)) := by
  subst e4; subst e5; subst e6
  refine zOk.eq ?_
  unfold f_X7_comesGame
  repeat' (first
    | (with_reducible apply z_nm; (case he => repeat (with_reducible first | exact zv_l _ | exact zv_r | apply zv_add | apply zv_neg)))
    | (with_reducible apply z_b_ck; (case h => with_unfolding_all rfl))
    | (with_reducible apply z_b_R; (case h => first | with_unfolding_all rfl))
    | (with_reducible apply z_L; (case he => repeat (with_reducible first | exact zv_l _ | exact zv_r | apply zv_add | apply zv_neg)); (case hn => with_reducible first | assumption | exact zl_4 | exact zl_9 | exact zl_51); (case h => omega); (case hy => first | ((simp (disch := omega) only [zU_c, zU_e, zU_k, zF_c, zF_i, zF_o, zW_o, zW_i, zC_c, zC_i, zC_o]); rfl) | rfl))
    | (with_reducible apply z_S; (case he => repeat (with_reducible first | exact zv_l _ | exact zv_r | apply zv_add | apply zv_neg)); (case hg => repeat (with_reducible first | exact zv_l _ | exact zv_r | apply zv_add | apply zv_neg)); (case hn => with_reducible first | assumption | exact zl_4 | exact zl_9 | exact zl_51); (case h => omega)))
  (first
    | (with_reducible apply z_B; all_goals (intro _; try (exfalso; omega)))
    | (with_reducible apply z_E; all_goals intro _)
    | (with_reducible apply z_lt; (case ha => repeat (with_reducible first | exact zv_l _ | exact zv_r | apply zv_add | apply zv_neg)); (case hb => repeat (with_reducible first | exact zv_l _ | exact zv_r | apply zv_add | apply zv_neg)); (case hx => omega); (case hy => omega); all_goals (intro _; try (exfalso; omega)))
    | (with_reducible apply z_le; (case ha => repeat (with_reducible first | exact zv_l _ | exact zv_r | apply zv_add | apply zv_neg)); (case hb => repeat (with_reducible first | exact zv_l _ | exact zv_r | apply zv_add | apply zv_neg)); (case hx => omega); (case hy => omega); all_goals (intro _; try (exfalso; omega)))
    | (with_reducible apply z_eq; (case ha => repeat (with_reducible first | exact zv_l _ | exact zv_r | apply zv_add | apply zv_neg)); (case hb => repeat (with_reducible first | exact zv_l _ | exact zv_r | apply zv_add | apply zv_neg)); (case hx => omega); (case hy => omega); all_goals (intro _; try (exfalso; omega))))
  · rename_i h
    rw [if_pos h, if_pos h]
    exact ⟨_, _, rfl, rfl, rfl⟩
  · rename_i h
    rw [if_neg h, if_neg h]
    repeat' (first
    | (with_reducible apply z_nm; (case he => repeat (with_reducible first | exact zv_l _ | exact zv_r | apply zv_add | apply zv_neg)))
    | (with_reducible apply z_b_ck; (case h => with_unfolding_all rfl))
    | (with_reducible apply z_b_R; (case h => first | with_unfolding_all rfl))
    | (with_reducible apply z_L; (case he => repeat (with_reducible first | exact zv_l _ | exact zv_r | apply zv_add | apply zv_neg)); (case hn => with_reducible first | assumption | exact zl_4 | exact zl_9 | exact zl_51); (case h => omega); (case hy => first | ((simp (disch := omega) only [zU_c, zU_e, zU_k, zF_c, zF_i, zF_o, zW_o, zW_i, zC_c, zC_i, zC_o]); rfl) | rfl))
    | (with_reducible apply z_S; (case he => repeat (with_reducible first | exact zv_l _ | exact zv_r | apply zv_add | apply zv_neg)); (case hg => repeat (with_reducible first | exact zv_l _ | exact zv_r | apply zv_add | apply zv_neg)); (case hn => with_reducible first | assumption | exact zl_4 | exact zl_9 | exact zl_51); (case h => omega)))
    exact ⟨_, _, rfl, rfl, rfl⟩
theorem z_7comesGame {m : zMe} {e1 e2 e3 : Int32} {a b d : Int} (e4 : e1 = zI a) (e5 : e2 = zI b) (e6 : e3 = zI d) (r1 : 0 ≤ m 51 1 ∧ m 51 1 ≤ 9) {α : Type} {kf : Int32 × Hp → Option (α × Hp)} {Q : α → zMe → Prop} (K : zOk (kf (zI (if m 51 1 = 9 then -4 else m 51 1), zM (if m 51 1 = 9 then m else zAr m 51 a b d))) Q) : zOk ((f_X7_comesGame 50 e1 e2 e3 (zM m)).bind kf) Q := z_b (s_7comesGame e4 e5 e6 r1) K
/-- an item of a sheet, as the reference has it -/
def zIt (x y : Int) : Prop := x = y ∨ (127 < y ∧ y ≤ 255 ∧ x = y - 256)
/-- what the reference's load comes to -/
def zLp7 (mc m : zMe) (r : Nat) (fr n : Int) (v : Int32) (m1 : zMe) : Prop := ∃ j : Nat, (j : Int) ≤ n ∧ (∀ k : Nat, k < j → zHo mc r (fr + 3 * (k : Int)) 3) ∧ (zEq2 (zLd mc (r + 1) fr j) m1 3 51 ∧ ∀ c, ¬ c = 51 → ∀ i, m1 c i = m c i) ∧ (((j : Int) = n ∧ v = zI (zLc mc (r + 1) fr j : Int)) ∨ ((j : Int) < n ∧ ¬ zHo mc r (fr + 3 * (j : Int)) 3 ∧ v = zI (-12)))
set_option maxRecDepth 100000 in
set_option maxHeartbeats 1000000 in
theorem s7_load_l {mc m : zMe} {r : Nat} {s fr n : Int} (hz : zS r) (hs : 0 ≤ s ∧ s < 4) (hW : zWf mc 3) (hE : zEq2 mc m 3 51) (hsc : zSc mc) (h60 : m 60 s = mc r 2) (h61 : ∀ i, 0 ≤ i → i < 40 → zIt (m 61 (40 * s + i)) (mc (r + 1) i)) (r1 : -2147483648 ≤ fr ∧ fr < 2147483648) (hn : 0 ≤ n ∧ n ≤ 9) : zOk (lp f_X7_load_64 600 (50, zI s, zI fr, zI n, zI 0, zI 0) (zM m)) (fun v m1 => zLp7 mc m r fr n v m1) := by
  obtain ⟨q1, q2, q3⟩ := hsc r hz
  refine z_lp (fun nn v m1 => ∃ k : Nat, v = (50, zI s, zI fr, zI n, zI (zLc mc (r + 1) fr k : Int), zI (k : Int)) ∧ (k : Int) ≤ n ∧ nn = (n - k).toNat ∧ zEq2 (zLd mc (r + 1) fr k) m1 3 51 ∧ (∀ c, ¬ c = 51 → ∀ i, m1 c i = m c i) ∧ ∀ j : Nat, j < k → zHo mc r (fr + 3 * (j : Int)) 3) (fun _ _ v m1 => zLp7 mc m r fr n v m1) ?_ 600 n.toNat _ _ (by omega) ⟨0, rfl, by omega, by omega, hE, fun _ _ _ => rfl, fun j hj => absurd hj (by omega)⟩
  rintro nn v m1 kk ⟨k, rfl, hk1, rfl, hE1, hF1, hok⟩ hk
  have hlc := zLc_le mc (r + 1) fr k
  have hW1 : zWf (zLd mc (r + 1) fr k) 3 := zLd_Wf hW
  have hR1 := zRw_E hW1 hE1
  have e0 : m1 51 0 = zLd mc (r + 1) fr k 3 0 := hE1.1.1
  have e1 : m1 51 1 = zLd mc (r + 1) fr k 3 1 := hE1.1.2.1
  have hT := hW1.1.1
  have hN := hW1.1.2.1
  unfold f_X7_load_64
  dsimp only
  (first
    | (with_reducible apply z_B; all_goals (intro _; try (exfalso; omega)))
    | (with_reducible apply z_E; all_goals intro _)
    | (with_reducible apply z_lt; (case ha => repeat (with_reducible first | exact zv_l _ | exact zv_r | apply zv_add | apply zv_sub | apply zv_mul | apply zv_neg)); (case hb => repeat (with_reducible first | exact zv_l _ | exact zv_r | apply zv_add | apply zv_sub | apply zv_mul | apply zv_neg)); (case hx => omega); (case hy => omega); all_goals (intro _; try (exfalso; omega)))
    | (with_reducible apply z_le; (case ha => repeat (with_reducible first | exact zv_l _ | exact zv_r | apply zv_add | apply zv_sub | apply zv_mul | apply zv_neg)); (case hb => repeat (with_reducible first | exact zv_l _ | exact zv_r | apply zv_add | apply zv_sub | apply zv_mul | apply zv_neg)); (case hx => omega); (case hy => omega); all_goals (intro _; try (exfalso; omega)))
    | (with_reducible apply z_eq; (case ha => repeat (with_reducible first | exact zv_l _ | exact zv_r | apply zv_add | apply zv_sub | apply zv_mul | apply zv_neg)); (case hb => repeat (with_reducible first | exact zv_l _ | exact zv_r | apply zv_add | apply zv_sub | apply zv_mul | apply zv_neg)); (case hx => omega); (case hy => omega); all_goals (intro _; try (exfalso; omega))))
  · exact ⟨_, _, rfl, k, by omega, hok, ⟨hE1, hF1⟩, Or.inl ⟨by omega, rfl⟩⟩
  · (first
    | (with_reducible apply z_nm; (case he => repeat (with_reducible first | exact zv_l _ | exact zv_r | apply zv_add | apply zv_sub | apply zv_mul | apply zv_neg)))
    | (with_reducible apply z_b_R; (case h => first | with_unfolding_all rfl))
    | (with_reducible apply z_L; (case he => repeat (with_reducible first | exact zv_l _ | exact zv_r | apply zv_add | apply zv_sub | apply zv_mul | apply zv_neg)); (case hn => with_reducible first | assumption | exact zl_2 | exact zl_4 | exact zl_9 | exact zl_40 | exact zl_51 | exact zl_60 | exact zl_61); (case h => omega); (case hy => first | ((simp (disch := omega) only [zU_c, zU_e, zU_k, zF_c, zF_i, zF_o, zW_o, zW_i, zC_c, zC_i, zC_o]); rfl) | rfl))
    | (with_reducible apply z_in; (case hA => first | with_reducible exact zj_l _ (by decide) | with_reducible exact zj_m1 | (with_reducible apply zj_e; repeat (with_reducible first | exact zv_l _ | exact zv_r | apply zv_add | apply zv_sub | apply zv_mul | apply zv_neg))); (case hL => first | with_reducible exact zj_l _ (by decide) | with_reducible exact zj_m1 | (with_reducible apply zj_e; repeat (with_reducible first | exact zv_l _ | exact zv_r | apply zv_add | apply zv_sub | apply zv_mul | apply zv_neg))); (case hH => first | with_reducible exact zj_l _ (by decide) | with_reducible exact zj_m1 | (with_reducible apply zj_e; repeat (with_reducible first | exact zv_l _ | exact zv_r | apply zv_add | apply zv_sub | apply zv_mul | apply zv_neg))); (case rx => omega); (case rl => omega); (case rh => omega))
    | (with_reducible apply z_7isTeam; (case e1 => repeat (with_reducible first | exact zv_l _ | exact zv_r | apply zv_add | apply zv_sub | apply zv_mul | apply zv_neg)); (case r1 => first | omega | ((simp (disch := omega) only [zU_c, zU_e, zU_k, zF_c, zF_i, zF_o, zW_o, zW_i, zC_c, zC_i, zC_o]); omega)); (case r2 => first | omega | ((simp (disch := omega) only [zU_c, zU_e, zU_k, zF_c, zF_i, zF_o, zW_o, zW_i, zC_c, zC_i, zC_o]); omega)))
    | (with_reducible apply z_7comesGame; (case e4 => repeat (with_reducible first | exact zv_l _ | exact zv_r | apply zv_add | apply zv_sub | apply zv_mul | apply zv_neg)); (case e5 => repeat (with_reducible first | exact zv_l _ | exact zv_r | apply zv_add | apply zv_sub | apply zv_mul | apply zv_neg)); (case e6 => repeat (with_reducible first | exact zv_l _ | exact zv_r | apply zv_add | apply zv_sub | apply zv_mul | apply zv_neg)); (case r1 => first | omega | ((simp (disch := omega) only [zU_c, zU_e, zU_k, zF_c, zF_i, zF_o, zW_o, zW_i, zC_c, zC_i, zC_o]); omega))))
    refine z_L (y := mc r 2) rfl zl_60 (by omega) (by rw [hF1 60 (by omega)]; exact h60) ?_
    refine z_in (x := fr) (lo := 0) (hi := mc r 2 - 3 - 3 * (k : Int)) rfl (zj_l 0 (by decide)) (zj_e (zv_sub (zv_sub rfl (zv_l 3)) (zv_mul (zv_l 3) rfl))) r1 (by omega) (by omega) ?_
    refine z_B (fun hh => ?_) (fun hh => ?_)
    · refine ⟨_, _, rfl, k, by omega, hok, ⟨hE1, hF1⟩, Or.inr ⟨by omega, ?_, rfl⟩⟩
      rintro ⟨g1, g2, g3⟩
      refine hh ⟨?_, by omega⟩
      by_cases hk0 : k = 0
      · subst hk0
        omega
      · have g4 := (hok 0 (by omega)).1
        omega
    · have hh1 : zHo mc r (fr + 3 * (k : Int)) 3 := ⟨by omega, by omega, by omega⟩
      have hnok : ∀ j : Nat, j < k + 1 → zHo mc r (fr + 3 * (j : Int)) 3 := fun j hj => by
        by_cases hq : j = k
        · subst hq
          exact hh1
        · exact hok j (by omega)
      have hA := h61 (fr + 3 * (k : Int)) (by omega) (by omega)
      have hB := h61 (fr + 3 * (k : Int) + 1) (by omega) (by omega)
      have hD := h61 (fr + 3 * (k : Int) + 2) (by omega) (by omega)
      have g0 := q3 (fr + 3 * (k : Int)) (by omega) (by omega)
      have g1 := q3 (fr + 3 * (k : Int) + 1) (by omega) (by omega)
      have g2 := q3 (fr + 3 * (k : Int) + 2) (by omega) (by omega)
      have eA : m1 61 (40 * s + (fr + 3 * (k : Int))) = m 61 (40 * s + (fr + 3 * (k : Int))) := hF1 61 (by omega) _
      have eB : m1 61 (40 * s + (fr + 3 * (k : Int)) + 1) = m 61 (40 * s + (fr + 3 * (k : Int) + 1)) := by
        rw [hF1 61 (by omega), show 40 * s + (fr + 3 * (k : Int)) + 1 = 40 * s + (fr + 3 * (k : Int) + 1) by omega]
      have eD : m1 61 (40 * s + (fr + 3 * (k : Int)) + 2) = m 61 (40 * s + (fr + 3 * (k : Int) + 2)) := by
        rw [hF1 61 (by omega), show 40 * s + (fr + 3 * (k : Int)) + 2 = 40 * s + (fr + 3 * (k : Int) + 2) by omega]
      have es : zLd mc (r + 1) fr (k + 1) = if zGk (zLd mc (r + 1) fr k) 3 (mc (r + 1) (fr + 3 * (k : Int))) (mc (r + 1) (fr + 3 * (k : Int) + 1)) (mc (r + 1) (fr + 3 * (k : Int) + 2)) then zAg (zLd mc (r + 1) fr k) 3 (mc (r + 1) (fr + 3 * (k : Int))) (mc (r + 1) (fr + 3 * (k : Int) + 1)) (mc (r + 1) (fr + 3 * (k : Int) + 2)) else zLd mc (r + 1) fr k := rfl
      have ec : zLc mc (r + 1) fr (k + 1) = zLc mc (r + 1) fr k + (if zGk (zLd mc (r + 1) fr k) 3 (mc (r + 1) (fr + 3 * (k : Int))) (mc (r + 1) (fr + 3 * (k : Int) + 1)) (mc (r + 1) (fr + 3 * (k : Int) + 2)) then 1 else 0) := rfl
      generalize m 61 (40 * s + (fr + 3 * (k : Int))) = A at hA eA
      generalize m 61 (40 * s + (fr + 3 * (k : Int) + 1)) = B at hB eB
      generalize m 61 (40 * s + (fr + 3 * (k : Int) + 2)) = D at hD eD
      generalize mc (r + 1) (fr + 3 * (k : Int)) = cA at hA g0 es ec
      generalize mc (r + 1) (fr + 3 * (k : Int) + 1) = cB at hB g1 es ec
      generalize mc (r + 1) (fr + 3 * (k : Int) + 2) = cD at hD g2 es ec
      unfold zIt at hA hB hD
      have hno : ¬ zGk (zLd mc (r + 1) fr k) 3 cA cB cD → zOk (f_X7_load_229 kk 50 (zI s) (zI fr) (zI n) (zI (k : Int)) (zI (zLc mc (r + 1) fr k : Int)) (zM m1)) (fun v m1 => zLp7 mc m r fr n v m1) := fun hg => by
        rw [if_neg hg] at es ec
        unfold f_X7_load_229
        repeat' (first
    | (with_reducible apply z_nm; (case he => repeat (with_reducible first | exact zv_l _ | exact zv_r | apply zv_add | apply zv_sub | apply zv_mul | apply zv_neg)))
    | (with_reducible apply z_b_R; (case h => first | with_unfolding_all rfl))
    | (with_reducible apply z_L; (case he => repeat (with_reducible first | exact zv_l _ | exact zv_r | apply zv_add | apply zv_sub | apply zv_mul | apply zv_neg)); (case hn => with_reducible first | assumption | exact zl_2 | exact zl_4 | exact zl_9 | exact zl_40 | exact zl_51 | exact zl_60 | exact zl_61); (case h => omega); (case hy => first | ((simp (disch := omega) only [zU_c, zU_e, zU_k, zF_c, zF_i, zF_o, zW_o, zW_i, zC_c, zC_i, zC_o]); rfl) | rfl))
    | (with_reducible apply z_in; (case hA => first | with_reducible exact zj_l _ (by decide) | with_reducible exact zj_m1 | (with_reducible apply zj_e; repeat (with_reducible first | exact zv_l _ | exact zv_r | apply zv_add | apply zv_sub | apply zv_mul | apply zv_neg))); (case hL => first | with_reducible exact zj_l _ (by decide) | with_reducible exact zj_m1 | (with_reducible apply zj_e; repeat (with_reducible first | exact zv_l _ | exact zv_r | apply zv_add | apply zv_sub | apply zv_mul | apply zv_neg))); (case hH => first | with_reducible exact zj_l _ (by decide) | with_reducible exact zj_m1 | (with_reducible apply zj_e; repeat (with_reducible first | exact zv_l _ | exact zv_r | apply zv_add | apply zv_sub | apply zv_mul | apply zv_neg))); (case rx => omega); (case rl => omega); (case rh => omega))
    | (with_reducible apply z_7isTeam; (case e1 => repeat (with_reducible first | exact zv_l _ | exact zv_r | apply zv_add | apply zv_sub | apply zv_mul | apply zv_neg)); (case r1 => first | omega | ((simp (disch := omega) only [zU_c, zU_e, zU_k, zF_c, zF_i, zF_o, zW_o, zW_i, zC_c, zC_i, zC_o]); omega)); (case r2 => first | omega | ((simp (disch := omega) only [zU_c, zU_e, zU_k, zF_c, zF_i, zF_o, zW_o, zW_i, zC_c, zC_i, zC_o]); omega)))
    | (with_reducible apply z_7comesGame; (case e4 => repeat (with_reducible first | exact zv_l _ | exact zv_r | apply zv_add | apply zv_sub | apply zv_mul | apply zv_neg)); (case e5 => repeat (with_reducible first | exact zv_l _ | exact zv_r | apply zv_add | apply zv_sub | apply zv_mul | apply zv_neg)); (case e6 => repeat (with_reducible first | exact zv_l _ | exact zv_r | apply zv_add | apply zv_sub | apply zv_mul | apply zv_neg)); (case r1 => first | omega | ((simp (disch := omega) only [zU_c, zU_e, zU_k, zF_c, zF_i, zF_o, zW_o, zW_i, zC_c, zC_i, zC_o]); omega))))
        refine hk _ _ _ (by omega) ⟨k + 1, ?_, by omega, rfl, by rw [es]; exact hE1, hF1, hnok⟩
        rw [ec, Int.add_zero]
        rfl
      have h183 : ¬ zGk (zLd mc (r + 1) fr k) 3 cA cB cD → zOk (f_X7_load_183 kk 50 (zI s) (zI fr) (zI n) (zI (zLc mc (r + 1) fr k : Int)) (zI (k : Int)) (zI (40 * s + (fr + 3 * (k : Int)))) (zM m1)) (fun v m1 => zLp7 mc m r fr n v m1) := fun hg => by
        unfold f_X7_load_183 f_X7_load_184
        refine z_eq (x := 0) (y := 0) rfl rfl (by omega) (by omega) (fun _ => ?_) (fun q => absurd rfl q)
        exact hno hg
      refine z_nm (x := 40 * s + (fr + 3 * (k : Int))) (by rw [show 40 * s + (fr + 3 * (k : Int)) = 40 * s + fr + 3 * (k : Int) by omega]; exact zv_add (zv_add (zv_mul (zv_l 40) rfl) rfl) (zv_mul (zv_l 3) rfl)) ?_
      (first
    | (with_reducible apply z_nm; (case he => repeat (with_reducible first | exact zv_l _ | exact zv_r | apply zv_add | apply zv_sub | apply zv_mul | apply zv_neg)))
    | (with_reducible apply z_b_R; (case h => first | with_unfolding_all rfl))
    | (with_reducible apply z_L; (case he => repeat (with_reducible first | exact zv_l _ | exact zv_r | apply zv_add | apply zv_sub | apply zv_mul | apply zv_neg)); (case hn => with_reducible first | assumption | exact zl_2 | exact zl_4 | exact zl_9 | exact zl_40 | exact zl_51 | exact zl_60 | exact zl_61); (case h => omega); (case hy => first | ((simp (disch := omega) only [zU_c, zU_e, zU_k, zF_c, zF_i, zF_o, zW_o, zW_i, zC_c, zC_i, zC_o]); rfl) | rfl))
    | (with_reducible apply z_in; (case hA => first | with_reducible exact zj_l _ (by decide) | with_reducible exact zj_m1 | (with_reducible apply zj_e; repeat (with_reducible first | exact zv_l _ | exact zv_r | apply zv_add | apply zv_sub | apply zv_mul | apply zv_neg))); (case hL => first | with_reducible exact zj_l _ (by decide) | with_reducible exact zj_m1 | (with_reducible apply zj_e; repeat (with_reducible first | exact zv_l _ | exact zv_r | apply zv_add | apply zv_sub | apply zv_mul | apply zv_neg))); (case hH => first | with_reducible exact zj_l _ (by decide) | with_reducible exact zj_m1 | (with_reducible apply zj_e; repeat (with_reducible first | exact zv_l _ | exact zv_r | apply zv_add | apply zv_sub | apply zv_mul | apply zv_neg))); (case rx => omega); (case rl => omega); (case rh => omega))
    | (with_reducible apply z_7isTeam; (case e1 => repeat (with_reducible first | exact zv_l _ | exact zv_r | apply zv_add | apply zv_sub | apply zv_mul | apply zv_neg)); (case r1 => first | omega | ((simp (disch := omega) only [zU_c, zU_e, zU_k, zF_c, zF_i, zF_o, zW_o, zW_i, zC_c, zC_i, zC_o]); omega)); (case r2 => first | omega | ((simp (disch := omega) only [zU_c, zU_e, zU_k, zF_c, zF_i, zF_o, zW_o, zW_i, zC_c, zC_i, zC_o]); omega)))
    | (with_reducible apply z_7comesGame; (case e4 => repeat (with_reducible first | exact zv_l _ | exact zv_r | apply zv_add | apply zv_sub | apply zv_mul | apply zv_neg)); (case e5 => repeat (with_reducible first | exact zv_l _ | exact zv_r | apply zv_add | apply zv_sub | apply zv_mul | apply zv_neg)); (case e6 => repeat (with_reducible first | exact zv_l _ | exact zv_r | apply zv_add | apply zv_sub | apply zv_mul | apply zv_neg)); (case r1 => first | omega | ((simp (disch := omega) only [zU_c, zU_e, zU_k, zF_c, zF_i, zF_o, zW_o, zW_i, zC_c, zC_i, zC_o]); omega))))
      refine z_L (y := A) rfl zl_61 (by omega) eA ?_
      refine z_7isTeam rfl (by omega) hR1.1.1 ?_
      refine z_B (fun h1 => h183 (fun q => h1 (by obtain ⟨p1, p2, p3, p4, p5⟩ := q; omega))) (fun h1 => ?_)
      (first
    | (with_reducible apply z_nm; (case he => repeat (with_reducible first | exact zv_l _ | exact zv_r | apply zv_add | apply zv_sub | apply zv_mul | apply zv_neg)))
    | (with_reducible apply z_b_R; (case h => first | with_unfolding_all rfl))
    | (with_reducible apply z_L; (case he => repeat (with_reducible first | exact zv_l _ | exact zv_r | apply zv_add | apply zv_sub | apply zv_mul | apply zv_neg)); (case hn => with_reducible first | assumption | exact zl_2 | exact zl_4 | exact zl_9 | exact zl_40 | exact zl_51 | exact zl_60 | exact zl_61); (case h => omega); (case hy => first | ((simp (disch := omega) only [zU_c, zU_e, zU_k, zF_c, zF_i, zF_o, zW_o, zW_i, zC_c, zC_i, zC_o]); rfl) | rfl))
    | (with_reducible apply z_in; (case hA => first | with_reducible exact zj_l _ (by decide) | with_reducible exact zj_m1 | (with_reducible apply zj_e; repeat (with_reducible first | exact zv_l _ | exact zv_r | apply zv_add | apply zv_sub | apply zv_mul | apply zv_neg))); (case hL => first | with_reducible exact zj_l _ (by decide) | with_reducible exact zj_m1 | (with_reducible apply zj_e; repeat (with_reducible first | exact zv_l _ | exact zv_r | apply zv_add | apply zv_sub | apply zv_mul | apply zv_neg))); (case hH => first | with_reducible exact zj_l _ (by decide) | with_reducible exact zj_m1 | (with_reducible apply zj_e; repeat (with_reducible first | exact zv_l _ | exact zv_r | apply zv_add | apply zv_sub | apply zv_mul | apply zv_neg))); (case rx => omega); (case rl => omega); (case rh => omega))
    | (with_reducible apply z_7isTeam; (case e1 => repeat (with_reducible first | exact zv_l _ | exact zv_r | apply zv_add | apply zv_sub | apply zv_mul | apply zv_neg)); (case r1 => first | omega | ((simp (disch := omega) only [zU_c, zU_e, zU_k, zF_c, zF_i, zF_o, zW_o, zW_i, zC_c, zC_i, zC_o]); omega)); (case r2 => first | omega | ((simp (disch := omega) only [zU_c, zU_e, zU_k, zF_c, zF_i, zF_o, zW_o, zW_i, zC_c, zC_i, zC_o]); omega)))
    | (with_reducible apply z_7comesGame; (case e4 => repeat (with_reducible first | exact zv_l _ | exact zv_r | apply zv_add | apply zv_sub | apply zv_mul | apply zv_neg)); (case e5 => repeat (with_reducible first | exact zv_l _ | exact zv_r | apply zv_add | apply zv_sub | apply zv_mul | apply zv_neg)); (case e6 => repeat (with_reducible first | exact zv_l _ | exact zv_r | apply zv_add | apply zv_sub | apply zv_mul | apply zv_neg)); (case r1 => first | omega | ((simp (disch := omega) only [zU_c, zU_e, zU_k, zF_c, zF_i, zF_o, zW_o, zW_i, zC_c, zC_i, zC_o]); omega))))
      refine z_L (x := 40 * s + (fr + 3 * (k : Int)) + 1) (y := B) (zv_add rfl (zv_l 1)) zl_61 (by omega) eB ?_
      refine z_7isTeam rfl (by omega) hR1.1.1 ?_
      refine z_B (fun h2 => h183 (fun q => h2 (by obtain ⟨p1, p2, p3, p4, p5⟩ := q; omega))) (fun h2 => ?_)
      (first
    | (with_reducible apply z_nm; (case he => repeat (with_reducible first | exact zv_l _ | exact zv_r | apply zv_add | apply zv_sub | apply zv_mul | apply zv_neg)))
    | (with_reducible apply z_b_R; (case h => first | with_unfolding_all rfl))
    | (with_reducible apply z_L; (case he => repeat (with_reducible first | exact zv_l _ | exact zv_r | apply zv_add | apply zv_sub | apply zv_mul | apply zv_neg)); (case hn => with_reducible first | assumption | exact zl_2 | exact zl_4 | exact zl_9 | exact zl_40 | exact zl_51 | exact zl_60 | exact zl_61); (case h => omega); (case hy => first | ((simp (disch := omega) only [zU_c, zU_e, zU_k, zF_c, zF_i, zF_o, zW_o, zW_i, zC_c, zC_i, zC_o]); rfl) | rfl))
    | (with_reducible apply z_in; (case hA => first | with_reducible exact zj_l _ (by decide) | with_reducible exact zj_m1 | (with_reducible apply zj_e; repeat (with_reducible first | exact zv_l _ | exact zv_r | apply zv_add | apply zv_sub | apply zv_mul | apply zv_neg))); (case hL => first | with_reducible exact zj_l _ (by decide) | with_reducible exact zj_m1 | (with_reducible apply zj_e; repeat (with_reducible first | exact zv_l _ | exact zv_r | apply zv_add | apply zv_sub | apply zv_mul | apply zv_neg))); (case hH => first | with_reducible exact zj_l _ (by decide) | with_reducible exact zj_m1 | (with_reducible apply zj_e; repeat (with_reducible first | exact zv_l _ | exact zv_r | apply zv_add | apply zv_sub | apply zv_mul | apply zv_neg))); (case rx => omega); (case rl => omega); (case rh => omega))
    | (with_reducible apply z_7isTeam; (case e1 => repeat (with_reducible first | exact zv_l _ | exact zv_r | apply zv_add | apply zv_sub | apply zv_mul | apply zv_neg)); (case r1 => first | omega | ((simp (disch := omega) only [zU_c, zU_e, zU_k, zF_c, zF_i, zF_o, zW_o, zW_i, zC_c, zC_i, zC_o]); omega)); (case r2 => first | omega | ((simp (disch := omega) only [zU_c, zU_e, zU_k, zF_c, zF_i, zF_o, zW_o, zW_i, zC_c, zC_i, zC_o]); omega)))
    | (with_reducible apply z_7comesGame; (case e4 => repeat (with_reducible first | exact zv_l _ | exact zv_r | apply zv_add | apply zv_sub | apply zv_mul | apply zv_neg)); (case e5 => repeat (with_reducible first | exact zv_l _ | exact zv_r | apply zv_add | apply zv_sub | apply zv_mul | apply zv_neg)); (case e6 => repeat (with_reducible first | exact zv_l _ | exact zv_r | apply zv_add | apply zv_sub | apply zv_mul | apply zv_neg)); (case r1 => first | omega | ((simp (disch := omega) only [zU_c, zU_e, zU_k, zF_c, zF_i, zF_o, zW_o, zW_i, zC_c, zC_i, zC_o]); omega))))
      refine z_L (y := A) rfl zl_61 (by omega) eA ?_
      (first
    | (with_reducible apply z_nm; (case he => repeat (with_reducible first | exact zv_l _ | exact zv_r | apply zv_add | apply zv_sub | apply zv_mul | apply zv_neg)))
    | (with_reducible apply z_b_R; (case h => first | with_unfolding_all rfl))
    | (with_reducible apply z_L; (case he => repeat (with_reducible first | exact zv_l _ | exact zv_r | apply zv_add | apply zv_sub | apply zv_mul | apply zv_neg)); (case hn => with_reducible first | assumption | exact zl_2 | exact zl_4 | exact zl_9 | exact zl_40 | exact zl_51 | exact zl_60 | exact zl_61); (case h => omega); (case hy => first | ((simp (disch := omega) only [zU_c, zU_e, zU_k, zF_c, zF_i, zF_o, zW_o, zW_i, zC_c, zC_i, zC_o]); rfl) | rfl))
    | (with_reducible apply z_in; (case hA => first | with_reducible exact zj_l _ (by decide) | with_reducible exact zj_m1 | (with_reducible apply zj_e; repeat (with_reducible first | exact zv_l _ | exact zv_r | apply zv_add | apply zv_sub | apply zv_mul | apply zv_neg))); (case hL => first | with_reducible exact zj_l _ (by decide) | with_reducible exact zj_m1 | (with_reducible apply zj_e; repeat (with_reducible first | exact zv_l _ | exact zv_r | apply zv_add | apply zv_sub | apply zv_mul | apply zv_neg))); (case hH => first | with_reducible exact zj_l _ (by decide) | with_reducible exact zj_m1 | (with_reducible apply zj_e; repeat (with_reducible first | exact zv_l _ | exact zv_r | apply zv_add | apply zv_sub | apply zv_mul | apply zv_neg))); (case rx => omega); (case rl => omega); (case rh => omega))
    | (with_reducible apply z_7isTeam; (case e1 => repeat (with_reducible first | exact zv_l _ | exact zv_r | apply zv_add | apply zv_sub | apply zv_mul | apply zv_neg)); (case r1 => first | omega | ((simp (disch := omega) only [zU_c, zU_e, zU_k, zF_c, zF_i, zF_o, zW_o, zW_i, zC_c, zC_i, zC_o]); omega)); (case r2 => first | omega | ((simp (disch := omega) only [zU_c, zU_e, zU_k, zF_c, zF_i, zF_o, zW_o, zW_i, zC_c, zC_i, zC_o]); omega)))
    | (with_reducible apply z_7comesGame; (case e4 => repeat (with_reducible first | exact zv_l _ | exact zv_r | apply zv_add | apply zv_sub | apply zv_mul | apply zv_neg)); (case e5 => repeat (with_reducible first | exact zv_l _ | exact zv_r | apply zv_add | apply zv_sub | apply zv_mul | apply zv_neg)); (case e6 => repeat (with_reducible first | exact zv_l _ | exact zv_r | apply zv_add | apply zv_sub | apply zv_mul | apply zv_neg)); (case r1 => first | omega | ((simp (disch := omega) only [zU_c, zU_e, zU_k, zF_c, zF_i, zF_o, zW_o, zW_i, zC_c, zC_i, zC_o]); omega))))
      refine z_L (x := 40 * s + (fr + 3 * (k : Int)) + 1) (y := B) (zv_add rfl (zv_l 1)) zl_61 (by omega) eB ?_
      refine z_eq (x := A) (y := B) rfl rfl (by omega) (by omega) (fun h3 => h183 (fun q => by obtain ⟨p1, p2, p3, p4, p5⟩ := q; omega)) (fun h3 => ?_)
      (first
    | (with_reducible apply z_nm; (case he => repeat (with_reducible first | exact zv_l _ | exact zv_r | apply zv_add | apply zv_sub | apply zv_mul | apply zv_neg)))
    | (with_reducible apply z_b_R; (case h => first | with_unfolding_all rfl))
    | (with_reducible apply z_L; (case he => repeat (with_reducible first | exact zv_l _ | exact zv_r | apply zv_add | apply zv_sub | apply zv_mul | apply zv_neg)); (case hn => with_reducible first | assumption | exact zl_2 | exact zl_4 | exact zl_9 | exact zl_40 | exact zl_51 | exact zl_60 | exact zl_61); (case h => omega); (case hy => first | ((simp (disch := omega) only [zU_c, zU_e, zU_k, zF_c, zF_i, zF_o, zW_o, zW_i, zC_c, zC_i, zC_o]); rfl) | rfl))
    | (with_reducible apply z_in; (case hA => first | with_reducible exact zj_l _ (by decide) | with_reducible exact zj_m1 | (with_reducible apply zj_e; repeat (with_reducible first | exact zv_l _ | exact zv_r | apply zv_add | apply zv_sub | apply zv_mul | apply zv_neg))); (case hL => first | with_reducible exact zj_l _ (by decide) | with_reducible exact zj_m1 | (with_reducible apply zj_e; repeat (with_reducible first | exact zv_l _ | exact zv_r | apply zv_add | apply zv_sub | apply zv_mul | apply zv_neg))); (case hH => first | with_reducible exact zj_l _ (by decide) | with_reducible exact zj_m1 | (with_reducible apply zj_e; repeat (with_reducible first | exact zv_l _ | exact zv_r | apply zv_add | apply zv_sub | apply zv_mul | apply zv_neg))); (case rx => omega); (case rl => omega); (case rh => omega))
    | (with_reducible apply z_7isTeam; (case e1 => repeat (with_reducible first | exact zv_l _ | exact zv_r | apply zv_add | apply zv_sub | apply zv_mul | apply zv_neg)); (case r1 => first | omega | ((simp (disch := omega) only [zU_c, zU_e, zU_k, zF_c, zF_i, zF_o, zW_o, zW_i, zC_c, zC_i, zC_o]); omega)); (case r2 => first | omega | ((simp (disch := omega) only [zU_c, zU_e, zU_k, zF_c, zF_i, zF_o, zW_o, zW_i, zC_c, zC_i, zC_o]); omega)))
    | (with_reducible apply z_7comesGame; (case e4 => repeat (with_reducible first | exact zv_l _ | exact zv_r | apply zv_add | apply zv_sub | apply zv_mul | apply zv_neg)); (case e5 => repeat (with_reducible first | exact zv_l _ | exact zv_r | apply zv_add | apply zv_sub | apply zv_mul | apply zv_neg)); (case e6 => repeat (with_reducible first | exact zv_l _ | exact zv_r | apply zv_add | apply zv_sub | apply zv_mul | apply zv_neg)); (case r1 => first | omega | ((simp (disch := omega) only [zU_c, zU_e, zU_k, zF_c, zF_i, zF_o, zW_o, zW_i, zC_c, zC_i, zC_o]); omega))))
      refine z_L (x := 40 * s + (fr + 3 * (k : Int)) + 2) (y := D) (zv_add rfl (zv_l 2)) zl_61 (by omega) eD ?_
      refine z_in (x := D) (lo := 1) (hi := 30) rfl (zj_l 1 (by decide)) (zj_l 30 (by decide)) (by omega) (by omega) (by omega) ?_
      refine z_B (fun h4 => h183 (fun q => h4 (by obtain ⟨p1, p2, p3, p4, p5⟩ := q; omega))) (fun h4 => ?_)
      unfold f_X7_load_184
      refine z_eq (x := 1) (y := 0) rfl rfl (by omega) (by omega) (fun q => by exfalso; omega) (fun _ => ?_)
      (first
    | (with_reducible apply z_nm; (case he => repeat (with_reducible first | exact zv_l _ | exact zv_r | apply zv_add | apply zv_sub | apply zv_mul | apply zv_neg)))
    | (with_reducible apply z_b_R; (case h => first | with_unfolding_all rfl))
    | (with_reducible apply z_L; (case he => repeat (with_reducible first | exact zv_l _ | exact zv_r | apply zv_add | apply zv_sub | apply zv_mul | apply zv_neg)); (case hn => with_reducible first | assumption | exact zl_2 | exact zl_4 | exact zl_9 | exact zl_40 | exact zl_51 | exact zl_60 | exact zl_61); (case h => omega); (case hy => first | ((simp (disch := omega) only [zU_c, zU_e, zU_k, zF_c, zF_i, zF_o, zW_o, zW_i, zC_c, zC_i, zC_o]); rfl) | rfl))
    | (with_reducible apply z_in; (case hA => first | with_reducible exact zj_l _ (by decide) | with_reducible exact zj_m1 | (with_reducible apply zj_e; repeat (with_reducible first | exact zv_l _ | exact zv_r | apply zv_add | apply zv_sub | apply zv_mul | apply zv_neg))); (case hL => first | with_reducible exact zj_l _ (by decide) | with_reducible exact zj_m1 | (with_reducible apply zj_e; repeat (with_reducible first | exact zv_l _ | exact zv_r | apply zv_add | apply zv_sub | apply zv_mul | apply zv_neg))); (case hH => first | with_reducible exact zj_l _ (by decide) | with_reducible exact zj_m1 | (with_reducible apply zj_e; repeat (with_reducible first | exact zv_l _ | exact zv_r | apply zv_add | apply zv_sub | apply zv_mul | apply zv_neg))); (case rx => omega); (case rl => omega); (case rh => omega))
    | (with_reducible apply z_7isTeam; (case e1 => repeat (with_reducible first | exact zv_l _ | exact zv_r | apply zv_add | apply zv_sub | apply zv_mul | apply zv_neg)); (case r1 => first | omega | ((simp (disch := omega) only [zU_c, zU_e, zU_k, zF_c, zF_i, zF_o, zW_o, zW_i, zC_c, zC_i, zC_o]); omega)); (case r2 => first | omega | ((simp (disch := omega) only [zU_c, zU_e, zU_k, zF_c, zF_i, zF_o, zW_o, zW_i, zC_c, zC_i, zC_o]); omega)))
    | (with_reducible apply z_7comesGame; (case e4 => repeat (with_reducible first | exact zv_l _ | exact zv_r | apply zv_add | apply zv_sub | apply zv_mul | apply zv_neg)); (case e5 => repeat (with_reducible first | exact zv_l _ | exact zv_r | apply zv_add | apply zv_sub | apply zv_mul | apply zv_neg)); (case e6 => repeat (with_reducible first | exact zv_l _ | exact zv_r | apply zv_add | apply zv_sub | apply zv_mul | apply zv_neg)); (case r1 => first | omega | ((simp (disch := omega) only [zU_c, zU_e, zU_k, zF_c, zF_i, zF_o, zW_o, zW_i, zC_c, zC_i, zC_o]); omega))))
      refine z_L (y := A) rfl zl_61 (by omega) eA ?_
      (first
    | (with_reducible apply z_nm; (case he => repeat (with_reducible first | exact zv_l _ | exact zv_r | apply zv_add | apply zv_sub | apply zv_mul | apply zv_neg)))
    | (with_reducible apply z_b_R; (case h => first | with_unfolding_all rfl))
    | (with_reducible apply z_L; (case he => repeat (with_reducible first | exact zv_l _ | exact zv_r | apply zv_add | apply zv_sub | apply zv_mul | apply zv_neg)); (case hn => with_reducible first | assumption | exact zl_2 | exact zl_4 | exact zl_9 | exact zl_40 | exact zl_51 | exact zl_60 | exact zl_61); (case h => omega); (case hy => first | ((simp (disch := omega) only [zU_c, zU_e, zU_k, zF_c, zF_i, zF_o, zW_o, zW_i, zC_c, zC_i, zC_o]); rfl) | rfl))
    | (with_reducible apply z_in; (case hA => first | with_reducible exact zj_l _ (by decide) | with_reducible exact zj_m1 | (with_reducible apply zj_e; repeat (with_reducible first | exact zv_l _ | exact zv_r | apply zv_add | apply zv_sub | apply zv_mul | apply zv_neg))); (case hL => first | with_reducible exact zj_l _ (by decide) | with_reducible exact zj_m1 | (with_reducible apply zj_e; repeat (with_reducible first | exact zv_l _ | exact zv_r | apply zv_add | apply zv_sub | apply zv_mul | apply zv_neg))); (case hH => first | with_reducible exact zj_l _ (by decide) | with_reducible exact zj_m1 | (with_reducible apply zj_e; repeat (with_reducible first | exact zv_l _ | exact zv_r | apply zv_add | apply zv_sub | apply zv_mul | apply zv_neg))); (case rx => omega); (case rl => omega); (case rh => omega))
    | (with_reducible apply z_7isTeam; (case e1 => repeat (with_reducible first | exact zv_l _ | exact zv_r | apply zv_add | apply zv_sub | apply zv_mul | apply zv_neg)); (case r1 => first | omega | ((simp (disch := omega) only [zU_c, zU_e, zU_k, zF_c, zF_i, zF_o, zW_o, zW_i, zC_c, zC_i, zC_o]); omega)); (case r2 => first | omega | ((simp (disch := omega) only [zU_c, zU_e, zU_k, zF_c, zF_i, zF_o, zW_o, zW_i, zC_c, zC_i, zC_o]); omega)))
    | (with_reducible apply z_7comesGame; (case e4 => repeat (with_reducible first | exact zv_l _ | exact zv_r | apply zv_add | apply zv_sub | apply zv_mul | apply zv_neg)); (case e5 => repeat (with_reducible first | exact zv_l _ | exact zv_r | apply zv_add | apply zv_sub | apply zv_mul | apply zv_neg)); (case e6 => repeat (with_reducible first | exact zv_l _ | exact zv_r | apply zv_add | apply zv_sub | apply zv_mul | apply zv_neg)); (case r1 => first | omega | ((simp (disch := omega) only [zU_c, zU_e, zU_k, zF_c, zF_i, zF_o, zW_o, zW_i, zC_c, zC_i, zC_o]); omega))))
      refine z_L (x := 40 * s + (fr + 3 * (k : Int)) + 1) (y := B) (zv_add rfl (zv_l 1)) zl_61 (by omega) eB ?_
      (first
    | (with_reducible apply z_nm; (case he => repeat (with_reducible first | exact zv_l _ | exact zv_r | apply zv_add | apply zv_sub | apply zv_mul | apply zv_neg)))
    | (with_reducible apply z_b_R; (case h => first | with_unfolding_all rfl))
    | (with_reducible apply z_L; (case he => repeat (with_reducible first | exact zv_l _ | exact zv_r | apply zv_add | apply zv_sub | apply zv_mul | apply zv_neg)); (case hn => with_reducible first | assumption | exact zl_2 | exact zl_4 | exact zl_9 | exact zl_40 | exact zl_51 | exact zl_60 | exact zl_61); (case h => omega); (case hy => first | ((simp (disch := omega) only [zU_c, zU_e, zU_k, zF_c, zF_i, zF_o, zW_o, zW_i, zC_c, zC_i, zC_o]); rfl) | rfl))
    | (with_reducible apply z_in; (case hA => first | with_reducible exact zj_l _ (by decide) | with_reducible exact zj_m1 | (with_reducible apply zj_e; repeat (with_reducible first | exact zv_l _ | exact zv_r | apply zv_add | apply zv_sub | apply zv_mul | apply zv_neg))); (case hL => first | with_reducible exact zj_l _ (by decide) | with_reducible exact zj_m1 | (with_reducible apply zj_e; repeat (with_reducible first | exact zv_l _ | exact zv_r | apply zv_add | apply zv_sub | apply zv_mul | apply zv_neg))); (case hH => first | with_reducible exact zj_l _ (by decide) | with_reducible exact zj_m1 | (with_reducible apply zj_e; repeat (with_reducible first | exact zv_l _ | exact zv_r | apply zv_add | apply zv_sub | apply zv_mul | apply zv_neg))); (case rx => omega); (case rl => omega); (case rh => omega))
    | (with_reducible apply z_7isTeam; (case e1 => repeat (with_reducible first | exact zv_l _ | exact zv_r | apply zv_add | apply zv_sub | apply zv_mul | apply zv_neg)); (case r1 => first | omega | ((simp (disch := omega) only [zU_c, zU_e, zU_k, zF_c, zF_i, zF_o, zW_o, zW_i, zC_c, zC_i, zC_o]); omega)); (case r2 => first | omega | ((simp (disch := omega) only [zU_c, zU_e, zU_k, zF_c, zF_i, zF_o, zW_o, zW_i, zC_c, zC_i, zC_o]); omega)))
    | (with_reducible apply z_7comesGame; (case e4 => repeat (with_reducible first | exact zv_l _ | exact zv_r | apply zv_add | apply zv_sub | apply zv_mul | apply zv_neg)); (case e5 => repeat (with_reducible first | exact zv_l _ | exact zv_r | apply zv_add | apply zv_sub | apply zv_mul | apply zv_neg)); (case e6 => repeat (with_reducible first | exact zv_l _ | exact zv_r | apply zv_add | apply zv_sub | apply zv_mul | apply zv_neg)); (case r1 => first | omega | ((simp (disch := omega) only [zU_c, zU_e, zU_k, zF_c, zF_i, zF_o, zW_o, zW_i, zC_c, zC_i, zC_o]); omega))))
      refine z_L (x := 40 * s + (fr + 3 * (k : Int)) + 2) (y := D) (zv_add rfl (zv_l 2)) zl_61 (by omega) eD ?_
      refine z_7comesGame rfl rfl rfl (by omega) ?_
      by_cases h9 : m1 51 1 = 9
      · rw [if_pos h9, if_pos h9]
        refine z_lt (x := -4) (y := 0) rfl rfl (by omega) (by omega) (fun _ => ?_) (fun q => by exfalso; omega)
        exact hno (fun q => by have := q.2.2.2.2; omega)
      · rw [if_neg h9, if_neg h9]
        refine z_lt (x := m1 51 1) (y := 0) rfl rfl (by omega) (by omega) (fun q => by exfalso; omega) (fun _ => ?_)
        have eAc : A = cA := by omega
        have eBc : B = cB := by omega
        have eDc : D = cD := by omega
        subst eAc; subst eBc; subst eDc
        have hg : zGk (zLd mc (r + 1) fr k) 3 A B D := ⟨by omega, by omega, h3, by omega, by omega⟩
        rw [if_pos hg] at es ec
        repeat' (first
    | (with_reducible apply z_nm; (case he => repeat (with_reducible first | exact zv_l _ | exact zv_r | apply zv_add | apply zv_sub | apply zv_mul | apply zv_neg)))
    | (with_reducible apply z_b_R; (case h => first | with_unfolding_all rfl))
    | (with_reducible apply z_L; (case he => repeat (with_reducible first | exact zv_l _ | exact zv_r | apply zv_add | apply zv_sub | apply zv_mul | apply zv_neg)); (case hn => with_reducible first | assumption | exact zl_2 | exact zl_4 | exact zl_9 | exact zl_40 | exact zl_51 | exact zl_60 | exact zl_61); (case h => omega); (case hy => first | ((simp (disch := omega) only [zU_c, zU_e, zU_k, zF_c, zF_i, zF_o, zW_o, zW_i, zC_c, zC_i, zC_o]); rfl) | rfl))
    | (with_reducible apply z_in; (case hA => first | with_reducible exact zj_l _ (by decide) | with_reducible exact zj_m1 | (with_reducible apply zj_e; repeat (with_reducible first | exact zv_l _ | exact zv_r | apply zv_add | apply zv_sub | apply zv_mul | apply zv_neg))); (case hL => first | with_reducible exact zj_l _ (by decide) | with_reducible exact zj_m1 | (with_reducible apply zj_e; repeat (with_reducible first | exact zv_l _ | exact zv_r | apply zv_add | apply zv_sub | apply zv_mul | apply zv_neg))); (case hH => first | with_reducible exact zj_l _ (by decide) | with_reducible exact zj_m1 | (with_reducible apply zj_e; repeat (with_reducible first | exact zv_l _ | exact zv_r | apply zv_add | apply zv_sub | apply zv_mul | apply zv_neg))); (case rx => omega); (case rl => omega); (case rh => omega))
    | (with_reducible apply z_7isTeam; (case e1 => repeat (with_reducible first | exact zv_l _ | exact zv_r | apply zv_add | apply zv_sub | apply zv_mul | apply zv_neg)); (case r1 => first | omega | ((simp (disch := omega) only [zU_c, zU_e, zU_k, zF_c, zF_i, zF_o, zW_o, zW_i, zC_c, zC_i, zC_o]); omega)); (case r2 => first | omega | ((simp (disch := omega) only [zU_c, zU_e, zU_k, zF_c, zF_i, zF_o, zW_o, zW_i, zC_c, zC_i, zC_o]); omega)))
    | (with_reducible apply z_7comesGame; (case e4 => repeat (with_reducible first | exact zv_l _ | exact zv_r | apply zv_add | apply zv_sub | apply zv_mul | apply zv_neg)); (case e5 => repeat (with_reducible first | exact zv_l _ | exact zv_r | apply zv_add | apply zv_sub | apply zv_mul | apply zv_neg)); (case e6 => repeat (with_reducible first | exact zv_l _ | exact zv_r | apply zv_add | apply zv_sub | apply zv_mul | apply zv_neg)); (case r1 => first | omega | ((simp (disch := omega) only [zU_c, zU_e, zU_k, zF_c, zF_i, zF_o, zW_o, zW_i, zC_c, zC_i, zC_o]); omega))))
        refine hk _ _ _ (by omega) ⟨k + 1, ?_, by omega, rfl, by rw [es]; exact zEq2_gam hE1 hW1 (by omega), fun c hc i => ?_, hnok⟩
        · rw [ec]
          rfl
        · rw [← hF1 c hc i]
          unfold zAr
          rw [zU_c hc, zU_c hc, zU_c hc, zU_c hc, zU_c hc]
set_option maxRecDepth 100000 in
set_option maxHeartbeats 1000000 in
theorem s_7load {m : zMe} {mc : zMe} {e1 e2 e3 e4 : Int32} {s x fr n : Int} (e5 : e1 = zI s) (e6 : e2 = zI x) (e7 : e3 = zI fr) (e8 : e4 = zI n) (r1 : -2147483648 ≤ s ∧ s < 2147483648) (r2 : -2147483648 ≤ x ∧ x < 2147483648) (r3 : -2147483648 ≤ fr ∧ fr < 2147483648) (r4 : -2147483648 ≤ n ∧ n < 2147483648) (a1 : zWf mc 3) (a2 : zEq2 mc m 3 51) (a3 : zSc mc) (a4 : ∀ s, 0 ≤ s → s < 4 → m 59 s = mc (zSh s) 1 ∧ m 60 s = mc (zSh s) 2 ∧ ∀ i, 0 ≤ i → i < 40 → zIt (m 61 (40 * s + i)) (mc (zSh s + 1) i)) : zOk (f_X7_load 50 e1 e2 e3 e4 (zM m)) (fun v m1 => (¬ ((0 ≤ s ∧ s < 4) ∧ (x = 0 ∨ x = 1) ∧ (0 ≤ n ∧ n ≤ 9)) ∧ v = zI (-2) ∧ m1 = m) ∨ (((0 ≤ s ∧ s < 4) ∧ (x = 0 ∨ x = 1) ∧ (0 ≤ n ∧ n ≤ 9)) ∧ ((mc (zSh s) 1 = -1 ∧ v = zI (-11) ∧ m1 = m) ∨ (¬ mc (zSh s) 1 = -1 ∧ ¬ mc (zSh s) 1 = x ∧ v = zI (-13) ∧ m1 = m) ∨ (mc (zSh s) 1 = x ∧ zLp7 mc m (zSh s) fr n v m1)))) := by
  subst e5; subst e6; subst e7; subst e8
  unfold f_X7_load
  (first
    | (with_reducible apply z_nm; (case he => repeat (with_reducible first | exact zv_l _ | exact zv_r | apply zv_add | apply zv_mul | apply zv_neg)))
    | (with_reducible apply z_b_ck; (case h => with_unfolding_all rfl))
    | (with_reducible apply z_b_R; (case h => first | with_unfolding_all rfl))
    | (with_reducible apply z_L; (case he => repeat (with_reducible first | exact zv_l _ | exact zv_r | apply zv_add | apply zv_mul | apply zv_neg)); (case hn => with_reducible first | assumption | exact zl_2 | exact zl_4 | exact zl_9 | exact zl_13 | exact zl_40 | exact zl_51 | exact zl_59 | exact zl_60 | exact zl_61); (case h => omega); (case hy => first | ((simp (disch := omega) only [zU_c, zU_e, zU_k, zF_c, zF_i, zF_o, zW_o, zW_i, zC_c, zC_i, zC_o]); rfl) | rfl))
    | (with_reducible apply z_in; (case hA => first | with_reducible exact zj_l _ (by decide) | with_reducible exact zj_m1 | (with_reducible apply zj_e; repeat (with_reducible first | exact zv_l _ | exact zv_r | apply zv_add | apply zv_mul | apply zv_neg))); (case hL => first | with_reducible exact zj_l _ (by decide) | with_reducible exact zj_m1 | (with_reducible apply zj_e; repeat (with_reducible first | exact zv_l _ | exact zv_r | apply zv_add | apply zv_mul | apply zv_neg))); (case hH => first | with_reducible exact zj_l _ (by decide) | with_reducible exact zj_m1 | (with_reducible apply zj_e; repeat (with_reducible first | exact zv_l _ | exact zv_r | apply zv_add | apply zv_mul | apply zv_neg))); (case rx => omega); (case rl => omega); (case rh => omega))
    | (with_reducible apply z_7isSheet; (case e1 => repeat (with_reducible first | exact zv_l _ | exact zv_r | apply zv_add | apply zv_mul | apply zv_neg)); (case r1 => first | omega | ((simp (disch := omega) only [zU_c, zU_e, zU_k, zF_c, zF_i, zF_o, zW_o, zW_i, zC_c, zC_i, zC_o]); omega))))
  refine z_7isSheet rfl r1 ?_
  refine z_B (fun h => ?_) (fun h => ?_)
  · exact ⟨_, _, rfl, Or.inl ⟨by omega, rfl, rfl⟩⟩
  · have hs : 0 ≤ s ∧ s < 4 := by omega
    have hz := zS_Sh hs
    have hsc := a3 _ hz
    obtain ⟨p1, p2, p3⟩ := a4 s hs.1 hs.2
    refine z_in (x := x) (lo := 0) (hi := 1) rfl (zj_l 0 (by decide)) (zj_l 1 (by decide)) r2 (by omega) (by omega) ?_
    refine z_B (fun h2 => ?_) (fun h2 => ?_)
    · exact ⟨_, _, rfl, Or.inl ⟨by omega, rfl, rfl⟩⟩
    · refine z_in (x := n) (lo := 0) (hi := 9) rfl (zj_l 0 (by decide)) (zj_l 9 (by decide)) r4 (by omega) (by omega) ?_
      refine z_B (fun h3 => ?_) (fun h3 => ?_)
      · exact ⟨_, _, rfl, Or.inl ⟨by omega, rfl, rfl⟩⟩
      · have hq : (0 ≤ s ∧ s < 4) ∧ (x = 0 ∨ x = 1) ∧ (0 ≤ n ∧ n ≤ 9) := ⟨hs, by omega, by omega⟩
        (first
    | (with_reducible apply z_nm; (case he => repeat (with_reducible first | exact zv_l _ | exact zv_r | apply zv_add | apply zv_mul | apply zv_neg)))
    | (with_reducible apply z_b_ck; (case h => with_unfolding_all rfl))
    | (with_reducible apply z_b_R; (case h => first | with_unfolding_all rfl))
    | (with_reducible apply z_L; (case he => repeat (with_reducible first | exact zv_l _ | exact zv_r | apply zv_add | apply zv_mul | apply zv_neg)); (case hn => with_reducible first | assumption | exact zl_2 | exact zl_4 | exact zl_9 | exact zl_13 | exact zl_40 | exact zl_51 | exact zl_59 | exact zl_60 | exact zl_61); (case h => omega); (case hy => first | ((simp (disch := omega) only [zU_c, zU_e, zU_k, zF_c, zF_i, zF_o, zW_o, zW_i, zC_c, zC_i, zC_o]); rfl) | rfl))
    | (with_reducible apply z_in; (case hA => first | with_reducible exact zj_l _ (by decide) | with_reducible exact zj_m1 | (with_reducible apply zj_e; repeat (with_reducible first | exact zv_l _ | exact zv_r | apply zv_add | apply zv_mul | apply zv_neg))); (case hL => first | with_reducible exact zj_l _ (by decide) | with_reducible exact zj_m1 | (with_reducible apply zj_e; repeat (with_reducible first | exact zv_l _ | exact zv_r | apply zv_add | apply zv_mul | apply zv_neg))); (case hH => first | with_reducible exact zj_l _ (by decide) | with_reducible exact zj_m1 | (with_reducible apply zj_e; repeat (with_reducible first | exact zv_l _ | exact zv_r | apply zv_add | apply zv_mul | apply zv_neg))); (case rx => omega); (case rl => omega); (case rh => omega))
    | (with_reducible apply z_7isSheet; (case e1 => repeat (with_reducible first | exact zv_l _ | exact zv_r | apply zv_add | apply zv_mul | apply zv_neg)); (case r1 => first | omega | ((simp (disch := omega) only [zU_c, zU_e, zU_k, zF_c, zF_i, zF_o, zW_o, zW_i, zC_c, zC_i, zC_o]); omega))))
        refine z_L (y := mc (zSh s) 1) rfl zl_59 (by omega) p1 ?_
        refine z_le (x := 0) (y := mc (zSh s) 1) rfl rfl (by omega) (by omega) (fun h4 => ?_) (fun h4 => ?_)
        · (first
    | (with_reducible apply z_nm; (case he => repeat (with_reducible first | exact zv_l _ | exact zv_r | apply zv_add | apply zv_mul | apply zv_neg)))
    | (with_reducible apply z_b_ck; (case h => with_unfolding_all rfl))
    | (with_reducible apply z_b_R; (case h => first | with_unfolding_all rfl))
    | (with_reducible apply z_L; (case he => repeat (with_reducible first | exact zv_l _ | exact zv_r | apply zv_add | apply zv_mul | apply zv_neg)); (case hn => with_reducible first | assumption | exact zl_2 | exact zl_4 | exact zl_9 | exact zl_13 | exact zl_40 | exact zl_51 | exact zl_59 | exact zl_60 | exact zl_61); (case h => omega); (case hy => first | ((simp (disch := omega) only [zU_c, zU_e, zU_k, zF_c, zF_i, zF_o, zW_o, zW_i, zC_c, zC_i, zC_o]); rfl) | rfl))
    | (with_reducible apply z_in; (case hA => first | with_reducible exact zj_l _ (by decide) | with_reducible exact zj_m1 | (with_reducible apply zj_e; repeat (with_reducible first | exact zv_l _ | exact zv_r | apply zv_add | apply zv_mul | apply zv_neg))); (case hL => first | with_reducible exact zj_l _ (by decide) | with_reducible exact zj_m1 | (with_reducible apply zj_e; repeat (with_reducible first | exact zv_l _ | exact zv_r | apply zv_add | apply zv_mul | apply zv_neg))); (case hH => first | with_reducible exact zj_l _ (by decide) | with_reducible exact zj_m1 | (with_reducible apply zj_e; repeat (with_reducible first | exact zv_l _ | exact zv_r | apply zv_add | apply zv_mul | apply zv_neg))); (case rx => omega); (case rl => omega); (case rh => omega))
    | (with_reducible apply z_7isSheet; (case e1 => repeat (with_reducible first | exact zv_l _ | exact zv_r | apply zv_add | apply zv_mul | apply zv_neg)); (case r1 => first | omega | ((simp (disch := omega) only [zU_c, zU_e, zU_k, zF_c, zF_i, zF_o, zW_o, zW_i, zC_c, zC_i, zC_o]); omega))))
          refine z_L (y := mc (zSh s) 1) rfl zl_59 (by omega) p1 ?_
          refine z_eq (x := mc (zSh s) 1) (y := x) rfl rfl (by omega) r2 (fun h5 => ?_) (fun h5 => ?_)
          · exact zOk.mono (s7_load_l hz hs a1 a2 a3 p2 p3 r3 (by omega)) (fun v m1 q => Or.inr ⟨hq, Or.inr (Or.inr ⟨h5, q⟩)⟩)
          · exact ⟨_, _, rfl, Or.inr ⟨hq, Or.inr (Or.inl ⟨by omega, h5, rfl, rfl⟩)⟩⟩
        · exact ⟨_, _, rfl, Or.inr ⟨hq, Or.inl ⟨by omega, rfl, rfl⟩⟩⟩
theorem z_7load {m : zMe} {mc : zMe} {e1 e2 e3 e4 : Int32} {s x fr n : Int} (e5 : e1 = zI s) (e6 : e2 = zI x) (e7 : e3 = zI fr) (e8 : e4 = zI n) (r1 : -2147483648 ≤ s ∧ s < 2147483648) (r2 : -2147483648 ≤ x ∧ x < 2147483648) (r3 : -2147483648 ≤ fr ∧ fr < 2147483648) (r4 : -2147483648 ≤ n ∧ n < 2147483648) (a1 : zWf mc 3) (a2 : zEq2 mc m 3 51) (a3 : zSc mc) (a4 : ∀ s, 0 ≤ s → s < 4 → m 59 s = mc (zSh s) 1 ∧ m 60 s = mc (zSh s) 2 ∧ ∀ i, 0 ≤ i → i < 40 → zIt (m 61 (40 * s + i)) (mc (zSh s + 1) i)) {α : Type} {kf : Int32 × Hp → Option (α × Hp)} {Q : α → zMe → Prop} (K : ∀ (v : Int32) (m1 : zMe), (fun v m1 => (¬ ((0 ≤ s ∧ s < 4) ∧ (x = 0 ∨ x = 1) ∧ (0 ≤ n ∧ n ≤ 9)) ∧ v = zI (-2) ∧ m1 = m) ∨ (((0 ≤ s ∧ s < 4) ∧ (x = 0 ∨ x = 1) ∧ (0 ≤ n ∧ n ≤ 9)) ∧ ((mc (zSh s) 1 = -1 ∧ v = zI (-11) ∧ m1 = m) ∨ (¬ mc (zSh s) 1 = -1 ∧ ¬ mc (zSh s) 1 = x ∧ v = zI (-13) ∧ m1 = m) ∨ (mc (zSh s) 1 = x ∧ zLp7 mc m (zSh s) fr n v m1)))) v m1 → zOk (kf (v, zM m1)) Q) : zOk ((f_X7_load 50 e1 e2 e3 e4 (zM m)).bind kf) Q := z_call (s_7load e5 e6 e7 e8 r1 r2 r3 r4 a1 a2 a3 a4) K
