/-! the reference: 51 w, 53 as, 54 points, 55 run; what its group is, seen as the class's at 3 -/
def zV (m : zMe) : zMe := fun c j => if c = 3 then m 51 j else if c = 4 then m 51 (3 + j) else if c = 5 then m 51 (9 + j) else if c = 6 then m 51 (15 + j) else if c = 7 then m 51 (51 + j) else if c = 8 then m 51 (60 + j) else if c = 9 then m 51 (69 + j) else m 53 j
def zRw (m : zMe) : Prop := ((0 ≤ m 51 0 ∧ m 51 0 ≤ 6) ∧ (0 ≤ m 51 1 ∧ m 51 1 ≤ 9) ∧ (0 ≤ m 51 2 ∧ m 51 2 ≤ 2)) ∧ (∀ t, 0 ≤ t → t < m 51 0 → (0 ≤ m 51 (3 + t) ∧ m 51 (3 + t) ≤ 9) ∧ (1 ≤ m 51 (9 + t) ∧ m 51 (9 + t) ≤ 6)) ∧ ∀ k, 0 ≤ k → k < m 51 1 → (-1 ≤ m 51 (78 + k) ∧ m 51 (78 + k) ≤ 2) ∧ (0 ≤ m 51 (51 + k) ∧ m 51 (51 + k) < m 51 0) ∧ (0 ≤ m 51 (60 + k) ∧ m 51 (60 + k) < m 51 0) ∧ (¬ m 51 (51 + k) = m 51 (60 + k)) ∧ (1 ≤ m 51 (69 + k) ∧ m 51 (69 + k) ≤ 30)
def zAs (m : zMe) : Prop := ∀ k, 0 ≤ k → k < m 51 1 → -2 ≤ m 53 k ∧ m 53 k ≤ 2
/-- scratch -/
def zSr (c : Nat) (j : Int) : Prop := c = 53 ∨ c = 54 ∨ c = 55 ∨ c = 58 ∨ (c = 50 ∧ (j = 5 ∨ j = 6 ∨ j = 8 ∨ j = 9 ∨ j = 17))
def zX (m m1 : zMe) : Prop := ∀ c j, ¬ zSr c j → m1 c j = m c j
theorem zX_r (m : zMe) : zX m m := fun c j _ => rfl
theorem zX_t {m m1 m2 : zMe} (h1 : zX m m1) (h2 : zX m1 m2) : zX m m2 := fun c j h => by rw [h2 c j h, h1 c j h]
theorem zX_51 {m m1 : zMe} (h : zX m m1) : ∀ j, m1 51 j = m 51 j := fun j => h 51 j (by unfold zSr; omega)
theorem zX_U {m m1 : zMe} {r : Nat} {k x : Int} (h1 : zX m m1) (h : r = 53 ∨ r = 54 ∨ r = 55 ∨ r = 58 ∨ (r = 50 ∧ (k = 5 ∨ k = 6 ∨ k = 8 ∨ k = 9 ∨ k = 17))) : zX m (zU m1 r k x) := fun c j hc => by
  unfold zSr at hc
  by_cases hq : c = r
  · subst hq
    rw [zU_k (by omega), h1 c j hc]
  · rw [zU_c hq, h1 c j hc]
theorem zX_F {m m1 : zMe} {r : Nat} {s n : Int} {g : Int → Int} (h1 : zX m m1) (h : r = 53 ∨ r = 54 ∨ r = 55 ∨ r = 58) : zX m (zF m1 r s n g) := fun c j hc => by
  unfold zSr at hc
  rw [zF_c (by omega), h1 c j hc]
theorem zX_A {m m1 : zMe} {r : Nat} {g : Int → Int} (h1 : zX m m1) (h : r = 53 ∨ r = 54 ∨ r = 55 ∨ r = 58) : zX m (zAw m1 r g) := fun c j hc => by
  unfold zSr at hc
  rw [zAw_c (by omega), h1 c j hc]
theorem zRw_X {m m1 : zMe} (h : ∀ j, m1 51 j = m 51 j) (hR : zRw m) : zRw m1 := by
  unfold zRw at hR ⊢
  simp only [h]
  exact hR
set_option maxRecDepth 100000 in
theorem zor0_tab : ∀ x : Nat, x < 512 → (Int32.ofNat x ||| 0) = Int32.ofNat x := by decide +kernel
theorem zOr_0 {x : Nat} (h : x < 512) : zOr (x : Int) 0 = (x : Int) := by
  unfold zOr
  have := zor0_tab x h
  rw [show zI 0 = (0 : Int32) from rfl, zI_ofNat, this, ← zI_ofNat]
  exact zI_toInt (by omega)
set_option maxRecDepth 100000 in
set_option maxHeartbeats 1000000 in
theorem s_7has {m : zMe} {e g : Int32} {x i : Nat} (e1 : e = zI (x : Int)) (e2 : g = zI (i : Int)) (r1 : x < 512) (r2 : i < 9) : f_X7_has e g (zM m) = some (zI (zB (x.testBit i = true)), zM (m)) := by
  subst e1; subst e2
  refine zOk.eq ?_
  unfold f_X7_has
  rw [zbit_at r2 r1]
  by_cases h : x.testBit i = true
  · rw [zB_p h, if_pos (by decide)]
    exact ⟨_, _, rfl, rfl, rfl⟩
  · rw [zB_n h, if_neg (by decide)]
    exact ⟨_, _, rfl, rfl, rfl⟩
theorem z_7has {m : zMe} {e g : Int32} {x i : Nat} (e1 : e = zI (x : Int)) (e2 : g = zI (i : Int)) (r1 : x < 512) (r2 : i < 9) {α : Type} {kf : Int32 × Hp → Option (α × Hp)} {Q : α → zMe → Prop} (K : zOk (kf (zI (zB (x.testBit i = true)), zM (m))) Q) : zOk ((f_X7_has e g (zM m)).bind kf) Q := z_b (s_7has e1 e2 r1 r2) K
set_option maxRecDepth 100000 in
set_option maxHeartbeats 1000000 in
theorem s_7ones {m : zMe} {e : Int32} {x : Nat} (e1 : e = zI (x : Int)) (r1 : x < 512) : f_X7_ones e (zM m) = some (zI (zPop x : Nat), zM (m)) := by
  subst e1
  refine zOk.eq ?_
  unfold f_X7_ones
  refine z_lp (fun n v m1 => ∃ i : Nat, v = (zI (x : Int), zI (zPn i (fun i => x.testBit i) : Nat), zI (i : Int)) ∧ i ≤ 9 ∧ n = 9 - i ∧ m1 = m) (fun _ _ v m1 => v = zI (zPop x : Nat) ∧ m1 = m) ?_ 600 9 _ _ (by omega) ⟨0, rfl, by omega, by omega, rfl⟩
  rintro n v m1 k ⟨i, rfl, hi, rfl, rfl⟩ hk
  unfold f_X7_ones_4
  dsimp only
  (first
    | (with_reducible apply z_B; all_goals (intro _; try (exfalso; omega)))
    | (with_reducible apply z_E; all_goals intro _)
    | (with_reducible apply z_lt; (case ha => repeat (with_reducible first | exact zv_l _ | exact zv_r | apply zv_add | apply zv_sub | apply zv_shr | apply zv_and)); (case hb => repeat (with_reducible first | exact zv_l _ | exact zv_r | apply zv_add | apply zv_sub | apply zv_shr | apply zv_and)); (case hx => omega); (case hy => omega); all_goals (intro _; try (exfalso; omega)))
    | (with_reducible apply z_le; (case ha => repeat (with_reducible first | exact zv_l _ | exact zv_r | apply zv_add | apply zv_sub | apply zv_shr | apply zv_and)); (case hb => repeat (with_reducible first | exact zv_l _ | exact zv_r | apply zv_add | apply zv_sub | apply zv_shr | apply zv_and)); (case hx => omega); (case hy => omega); all_goals (intro _; try (exfalso; omega)))
    | (with_reducible apply z_eq; (case ha => repeat (with_reducible first | exact zv_l _ | exact zv_r | apply zv_add | apply zv_sub | apply zv_shr | apply zv_and)); (case hb => repeat (with_reducible first | exact zv_l _ | exact zv_r | apply zv_add | apply zv_sub | apply zv_shr | apply zv_and)); (case hx => omega); (case hy => omega); all_goals (intro _; try (exfalso; omega))))
  · (first | (with_reducible apply z_reti; (case he => repeat (with_reducible first | exact zv_l _ | exact zv_r | apply zv_add | apply zv_sub | apply zv_shr | apply zv_and))) | with_reducible refine z_ret ?_)
    have : i = 9 := by omega
    subst this
    exact ⟨rfl, rfl⟩
  · rw [zbit_at (by omega) r1]
    repeat' (first
    | (with_reducible apply z_nm; (case he => repeat (with_reducible first | exact zv_l _ | exact zv_r | apply zv_add | apply zv_sub | apply zv_shr | apply zv_and))))
    refine hk _ _ _ (by omega) ⟨i + 1, ?_, by omega, rfl, rfl⟩
    have e : zPn (i + 1) (fun i => x.testBit i) = zPn i (fun i => x.testBit i) + (if x.testBit i = true then 1 else 0) := rfl
    rw [e]
    by_cases hb : x.testBit i = true
    · rw [zB_p hb, if_pos hb]
      rfl
    · rw [zB_n hb, if_neg hb]
      simp
theorem z_7ones {m : zMe} {e : Int32} {x : Nat} (e1 : e = zI (x : Int)) (r1 : x < 512) {α : Type} {kf : Int32 × Hp → Option (α × Hp)} {Q : α → zMe → Prop} (K : zOk (kf (zI (zPop x : Nat), zM (m))) Q) : zOk ((f_X7_ones e (zM m)).bind kf) Q := z_b (s_7ones e1 r1) K
set_option maxRecDepth 100000 in
set_option maxHeartbeats 1000000 in
theorem s_7isTeam {m : zMe} {e : Int32} {t : Int} (e1 : e = zI t) (r1 : -2147483648 ≤ t ∧ t < 2147483648) (r2 : 0 ≤ m 51 0 ∧ m 51 0 ≤ 6) : f_X7_isTeam 50 e (zM m) = some (zI (zB (0 ≤ t ∧ t < m 51 0)), zM (m)) := by
  subst e1
  refine zOk.eq ?_
  unfold f_X7_isTeam
  repeat' (first
    | (with_reducible apply z_b_ck; (case h => with_unfolding_all rfl))
    | (with_reducible apply z_b_R; (case h => first | with_unfolding_all rfl))
    | (with_reducible apply z_L; (case he => repeat (with_reducible first | exact zv_l _ | exact zv_r | apply zv_sub | apply zv_neg)); (case hn => with_reducible first | assumption | exact zl_6 | exact zl_51); (case h => omega); (case hy => first | ((simp (disch := omega) only [zU_c, zU_e, zU_k, zF_c, zF_i, zF_o, zW_o, zW_i, zC_c, zC_i, zC_o]); rfl) | rfl))
    | (with_reducible apply z_in; (case hA => first | with_reducible exact zj_l _ (by decide) | with_reducible exact zj_m1 | (with_reducible apply zj_e; repeat (with_reducible first | exact zv_l _ | exact zv_r | apply zv_sub | apply zv_neg))); (case hL => first | with_reducible exact zj_l _ (by decide) | with_reducible exact zj_m1 | (with_reducible apply zj_e; repeat (with_reducible first | exact zv_l _ | exact zv_r | apply zv_sub | apply zv_neg))); (case hH => first | with_reducible exact zj_l _ (by decide) | with_reducible exact zj_m1 | (with_reducible apply zj_e; repeat (with_reducible first | exact zv_l _ | exact zv_r | apply zv_sub | apply zv_neg))); (case rx => omega); (case rl => omega); (case rh => omega))
    | with_reducible refine z_bz ?_
    | with_reducible refine z_bzE ?_
    | (with_reducible apply z_bzl; (case h => omega)))
  refine ⟨_, _, rfl, ?_, rfl⟩
  congr 1
  by_cases h : 0 ≤ t ∧ t < m 51 0
  · rw [zB_p h, zB_p (by omega)]
  · rw [zB_n h, zB_n (by omega)]
theorem z_7isTeam {m : zMe} {e : Int32} {t : Int} (e1 : e = zI t) (r1 : -2147483648 ≤ t ∧ t < 2147483648) (r2 : 0 ≤ m 51 0 ∧ m 51 0 ≤ 6) {α : Type} {kf : Int32 × Hp → Option (α × Hp)} {Q : α → zMe → Prop} (K : zOk (kf (zI (zB (0 ≤ t ∧ t < m 51 0)), zM (m))) Q) : zOk ((f_X7_isTeam 50 e (zM m)).bind kf) Q := z_b (s_7isTeam e1 r1 r2) K
set_option maxRecDepth 100000 in
set_option maxHeartbeats 1000000 in
theorem s_7isGame {m : zMe} {e : Int32} {t : Int} (e1 : e = zI t) (r1 : -2147483648 ≤ t ∧ t < 2147483648) (r2 : 0 ≤ m 51 1 ∧ m 51 1 ≤ 9) : f_X7_isGame 50 e (zM m) = some (zI (zB (0 ≤ t ∧ t < m 51 1)), zM (m)) := by
  subst e1
  refine zOk.eq ?_
  unfold f_X7_isGame
  repeat' (first
    | (with_reducible apply z_b_ck; (case h => with_unfolding_all rfl))
    | (with_reducible apply z_b_R; (case h => first | with_unfolding_all rfl))
    | (with_reducible apply z_L; (case he => repeat (with_reducible first | exact zv_l _ | exact zv_r | apply zv_sub | apply zv_neg)); (case hn => with_reducible first | assumption | exact zl_9 | exact zl_51); (case h => omega); (case hy => first | ((simp (disch := omega) only [zU_c, zU_e, zU_k, zF_c, zF_i, zF_o, zW_o, zW_i, zC_c, zC_i, zC_o]); rfl) | rfl))
    | (with_reducible apply z_in; (case hA => first | with_reducible exact zj_l _ (by decide) | with_reducible exact zj_m1 | (with_reducible apply zj_e; repeat (with_reducible first | exact zv_l _ | exact zv_r | apply zv_sub | apply zv_neg))); (case hL => first | with_reducible exact zj_l _ (by decide) | with_reducible exact zj_m1 | (with_reducible apply zj_e; repeat (with_reducible first | exact zv_l _ | exact zv_r | apply zv_sub | apply zv_neg))); (case hH => first | with_reducible exact zj_l _ (by decide) | with_reducible exact zj_m1 | (with_reducible apply zj_e; repeat (with_reducible first | exact zv_l _ | exact zv_r | apply zv_sub | apply zv_neg))); (case rx => omega); (case rl => omega); (case rh => omega))
    | with_reducible refine z_bz ?_
    | with_reducible refine z_bzE ?_
    | (with_reducible apply z_bzl; (case h => omega)))
  refine ⟨_, _, rfl, ?_, rfl⟩
  congr 1
  by_cases h : 0 ≤ t ∧ t < m 51 1
  · rw [zB_p h, zB_p (by omega)]
  · rw [zB_n h, zB_n (by omega)]
theorem z_7isGame {m : zMe} {e : Int32} {t : Int} (e1 : e = zI t) (r1 : -2147483648 ≤ t ∧ t < 2147483648) (r2 : 0 ≤ m 51 1 ∧ m 51 1 ≤ 9) {α : Type} {kf : Int32 × Hp → Option (α × Hp)} {Q : α → zMe → Prop} (K : zOk (kf (zI (zB (0 ≤ t ∧ t < m 51 1)), zM (m))) Q) : zOk ((f_X7_isGame 50 e (zM m)).bind kf) Q := z_b (s_7isGame e1 r1 r2) K
set_option maxRecDepth 100000 in
set_option maxHeartbeats 1000000 in
theorem s_7isOf {m : zMe} {e g : Int32} {k t : Int} (e1 : e = zI k) (e2 : g = zI t) (r1 : 0 ≤ k ∧ k < 9) (r2 : -2147483648 ≤ t ∧ t < 2147483648) (r3 : 0 ≤ m 51 (51 + k) ∧ m 51 (51 + k) < 6) (r4 : 0 ≤ m 51 (60 + k) ∧ m 51 (60 + k) < 6) : f_X7_isOf 50 e g (zM m) = some (zI (zB (m 51 (51 + k) = t ∨ m 51 (60 + k) = t)), zM (m)) := by
  subst e1; subst e2
  refine zOk.eq ?_
  unfold f_X7_isOf
  repeat' (first | (first
    | (with_reducible apply z_nm; (case he => repeat (with_reducible first | exact zv_l _ | exact zv_r | apply zv_add | apply zv_neg)))
    | (with_reducible apply z_b_ck; (case h => with_unfolding_all rfl))
    | (with_reducible apply z_b_R; (case h => first | with_unfolding_all rfl))
    | (with_reducible apply z_L; (case he => repeat (with_reducible first | exact zv_l _ | exact zv_r | apply zv_add | apply zv_neg)); (case hn => with_reducible first | assumption | exact zl_6 | exact zl_9 | exact zl_51 | exact zl_60); (case h => omega); (case hy => first | ((simp (disch := omega) only [zU_c, zU_e, zU_k, zF_c, zF_i, zF_o, zW_o, zW_i, zC_c, zC_i, zC_o]); rfl) | rfl))) | (first
    | (with_reducible apply z_B; all_goals (intro _; try (exfalso; omega)))
    | (with_reducible apply z_E; all_goals intro _)
    | (with_reducible apply z_lt; (case ha => repeat (with_reducible first | exact zv_l _ | exact zv_r | apply zv_add | apply zv_neg)); (case hb => repeat (with_reducible first | exact zv_l _ | exact zv_r | apply zv_add | apply zv_neg)); (case hx => omega); (case hy => omega); all_goals (intro _; try (exfalso; omega)))
    | (with_reducible apply z_le; (case ha => repeat (with_reducible first | exact zv_l _ | exact zv_r | apply zv_add | apply zv_neg)); (case hb => repeat (with_reducible first | exact zv_l _ | exact zv_r | apply zv_add | apply zv_neg)); (case hx => omega); (case hy => omega); all_goals (intro _; try (exfalso; omega)))
    | (with_reducible apply z_eq; (case ha => repeat (with_reducible first | exact zv_l _ | exact zv_r | apply zv_add | apply zv_neg)); (case hb => repeat (with_reducible first | exact zv_l _ | exact zv_r | apply zv_add | apply zv_neg)); (case hx => omega); (case hy => omega); all_goals (intro _; try (exfalso; omega)))))
  all_goals (first | exact zB_r1 (by omega) | exact zB_r0 (by omega))
theorem z_7isOf {m : zMe} {e g : Int32} {k t : Int} (e1 : e = zI k) (e2 : g = zI t) (r1 : 0 ≤ k ∧ k < 9) (r2 : -2147483648 ≤ t ∧ t < 2147483648) (r3 : 0 ≤ m 51 (51 + k) ∧ m 51 (51 + k) < 6) (r4 : 0 ≤ m 51 (60 + k) ∧ m 51 (60 + k) < 6) {α : Type} {kf : Int32 × Hp → Option (α × Hp)} {Q : α → zMe → Prop} (K : zOk (kf (zI (zB (m 51 (51 + k) = t ∨ m 51 (60 + k) = t)), zM (m))) Q) : zOk ((f_X7_isOf 50 e g (zM m)).bind kf) Q := z_b (s_7isOf e1 e2 r1 r2 r3 r4) K
set_option maxRecDepth 100000 in
set_option maxHeartbeats 1000000 in
theorem s_7wonBrings {m : zMe} (r1 : 0 ≤ m 51 2 ∧ m 51 2 ≤ 2) : f_X7_wonBrings 50 (zM m) = some (zI (m 51 2 + 1), zM (m)) := by
  refine zOk.eq ?_
  unfold f_X7_wonBrings
  repeat' (first
    | (with_reducible apply z_b_ck; (case h => with_unfolding_all rfl))
    | (with_reducible apply z_b_R; (case h => first | with_unfolding_all rfl))
    | (with_reducible apply z_L; (case he => repeat (with_reducible first | exact zv_l _ | exact zv_r | apply zv_add)); (case hn => with_reducible first | assumption | exact zl_2 | exact zl_51); (case h => omega); (case hy => first | ((simp (disch := omega) only [zU_c, zU_e, zU_k, zF_c, zF_i, zF_o, zW_o, zW_i, zC_c, zC_i, zC_o]); rfl) | rfl)))
  (first | (with_reducible apply z_reti; (case he => repeat (with_reducible first | exact zv_l _ | exact zv_r | apply zv_add))) | with_reducible refine z_ret ?_)
  exact ⟨rfl, rfl⟩
theorem z_7wonBrings {m : zMe} (r1 : 0 ≤ m 51 2 ∧ m 51 2 ≤ 2) {α : Type} {kf : Int32 × Hp → Option (α × Hp)} {Q : α → zMe → Prop} (K : zOk (kf (zI (m 51 2 + 1), zM (m))) Q) : zOk ((f_X7_wonBrings 50 (zM m)).bind kf) Q := z_b (s_7wonBrings r1) K
set_option maxRecDepth 100000 in
set_option maxHeartbeats 1000000 in
theorem s_7drawnBrings {m : zMe} (r1 : 0 ≤ m 51 2 ∧ m 51 2 ≤ 2) : f_X7_drawnBrings 50 (zM m) = some (zI (if m 51 2 = 0 then 0 else 1), zM (m)) := by
  refine zOk.eq ?_
  unfold f_X7_drawnBrings
  repeat' (first
    | (with_reducible apply z_nm; (case he => repeat (with_reducible first | exact zv_l _ | exact zv_r)))
    | (with_reducible apply z_b_ck; (case h => with_unfolding_all rfl))
    | (with_reducible apply z_b_R; (case h => first | with_unfolding_all rfl))
    | (with_reducible apply z_L; (case he => repeat (with_reducible first | exact zv_l _ | exact zv_r)); (case hn => with_reducible first | assumption | exact zl_2 | exact zl_51); (case h => omega); (case hy => first | ((simp (disch := omega) only [zU_c, zU_e, zU_k, zF_c, zF_i, zF_o, zW_o, zW_i, zC_c, zC_i, zC_o]); rfl) | rfl)))
  (first
    | (with_reducible apply z_B; all_goals (intro _; try (exfalso; omega)))
    | (with_reducible apply z_E; all_goals intro _)
    | (with_reducible apply z_lt; (case ha => repeat (with_reducible first | exact zv_l _ | exact zv_r)); (case hb => repeat (with_reducible first | exact zv_l _ | exact zv_r)); (case hx => omega); (case hy => omega); all_goals (intro _; try (exfalso; omega)))
    | (with_reducible apply z_le; (case ha => repeat (with_reducible first | exact zv_l _ | exact zv_r)); (case hb => repeat (with_reducible first | exact zv_l _ | exact zv_r)); (case hx => omega); (case hy => omega); all_goals (intro _; try (exfalso; omega)))
    | (with_reducible apply z_eq; (case ha => repeat (with_reducible first | exact zv_l _ | exact zv_r)); (case hb => repeat (with_reducible first | exact zv_l _ | exact zv_r)); (case hx => omega); (case hy => omega); all_goals (intro _; try (exfalso; omega))))
  · rename_i h
    rw [if_pos h]
    exact ⟨_, _, rfl, rfl, rfl⟩
  · rename_i h
    rw [if_neg h]
    exact ⟨_, _, rfl, rfl, rfl⟩
theorem z_7drawnBrings {m : zMe} (r1 : 0 ≤ m 51 2 ∧ m 51 2 ≤ 2) {α : Type} {kf : Int32 × Hp → Option (α × Hp)} {Q : α → zMe → Prop} (K : zOk (kf (zI (if m 51 2 = 0 then 0 else 1), zM (m))) Q) : zOk ((f_X7_drawnBrings 50 (zM m)).bind kf) Q := z_b (s_7drawnBrings r1) K
set_option maxRecDepth 100000 in
set_option maxHeartbeats 1000000 in
theorem s_7results {m : zMe} (r1 : 0 ≤ m 51 2 ∧ m 51 2 ≤ 2) : f_X7_results 50 (zM m) = some (zI (if m 51 2 = 0 then 2 else 3), zM (m)) := by
  refine zOk.eq ?_
  unfold f_X7_results
  repeat' (first
    | (with_reducible apply z_nm; (case he => repeat (with_reducible first | exact zv_l _ | exact zv_r)))
    | (with_reducible apply z_b_ck; (case h => with_unfolding_all rfl))
    | (with_reducible apply z_b_R; (case h => first | with_unfolding_all rfl))
    | (with_reducible apply z_L; (case he => repeat (with_reducible first | exact zv_l _ | exact zv_r)); (case hn => with_reducible first | assumption | exact zl_2 | exact zl_51); (case h => omega); (case hy => first | ((simp (disch := omega) only [zU_c, zU_e, zU_k, zF_c, zF_i, zF_o, zW_o, zW_i, zC_c, zC_i, zC_o]); rfl) | rfl)))
  (first
    | (with_reducible apply z_B; all_goals (intro _; try (exfalso; omega)))
    | (with_reducible apply z_E; all_goals intro _)
    | (with_reducible apply z_lt; (case ha => repeat (with_reducible first | exact zv_l _ | exact zv_r)); (case hb => repeat (with_reducible first | exact zv_l _ | exact zv_r)); (case hx => omega); (case hy => omega); all_goals (intro _; try (exfalso; omega)))
    | (with_reducible apply z_le; (case ha => repeat (with_reducible first | exact zv_l _ | exact zv_r)); (case hb => repeat (with_reducible first | exact zv_l _ | exact zv_r)); (case hx => omega); (case hy => omega); all_goals (intro _; try (exfalso; omega)))
    | (with_reducible apply z_eq; (case ha => repeat (with_reducible first | exact zv_l _ | exact zv_r)); (case hb => repeat (with_reducible first | exact zv_l _ | exact zv_r)); (case hx => omega); (case hy => omega); all_goals (intro _; try (exfalso; omega))))
  · rename_i h
    rw [if_pos h]
    exact ⟨_, _, rfl, rfl, rfl⟩
  · rename_i h
    rw [if_neg h]
    exact ⟨_, _, rfl, rfl, rfl⟩
theorem z_7results {m : zMe} (r1 : 0 ≤ m 51 2 ∧ m 51 2 ≤ 2) {α : Type} {kf : Int32 × Hp → Option (α × Hp)} {Q : α → zMe → Prop} (K : zOk (kf (zI (if m 51 2 = 0 then 2 else 3), zM (m))) Q) : zOk ((f_X7_results 50 (zM m)).bind kf) Q := z_b (s_7results r1) K
set_option maxRecDepth 100000 in
set_option maxHeartbeats 1000000 in
theorem s_7resultAt {m : zMe} {e : Int32} {i : Int} (e1 : e = zI i) (r1 : 0 ≤ i ∧ i ≤ 2) : f_X7_resultAt e (zM m) = some (zI (if i = 2 then 0 else i + 1), zM (m)) := by
  subst e1
  refine zOk.eq ?_
  unfold f_X7_resultAt
  (first
    | (with_reducible apply z_B; all_goals (intro _; try (exfalso; omega)))
    | (with_reducible apply z_E; all_goals intro _)
    | (with_reducible apply z_lt; (case ha => repeat (with_reducible first | exact zv_l _ | exact zv_r | apply zv_add)); (case hb => repeat (with_reducible first | exact zv_l _ | exact zv_r | apply zv_add)); (case hx => omega); (case hy => omega); all_goals (intro _; try (exfalso; omega)))
    | (with_reducible apply z_le; (case ha => repeat (with_reducible first | exact zv_l _ | exact zv_r | apply zv_add)); (case hb => repeat (with_reducible first | exact zv_l _ | exact zv_r | apply zv_add)); (case hx => omega); (case hy => omega); all_goals (intro _; try (exfalso; omega)))
    | (with_reducible apply z_eq; (case ha => repeat (with_reducible first | exact zv_l _ | exact zv_r | apply zv_add)); (case hb => repeat (with_reducible first | exact zv_l _ | exact zv_r | apply zv_add)); (case hx => omega); (case hy => omega); all_goals (intro _; try (exfalso; omega))))
  · rename_i h
    rw [if_pos h]
    exact ⟨_, _, rfl, rfl, rfl⟩
  · rename_i h
    rw [if_neg h]
    (first | (with_reducible apply z_reti; (case he => repeat (with_reducible first | exact zv_l _ | exact zv_r | apply zv_add))) | with_reducible refine z_ret ?_)
    exact ⟨rfl, rfl⟩
theorem z_7resultAt {m : zMe} {e : Int32} {i : Int} (e1 : e = zI i) (r1 : 0 ≤ i ∧ i ≤ 2) {α : Type} {kf : Int32 × Hp → Option (α × Hp)} {Q : α → zMe → Prop} (K : zOk (kf (zI (if i = 2 then 0 else i + 1), zM (m))) Q) : zOk ((f_X7_resultAt e (zM m)).bind kf) Q := z_b (s_7resultAt e1 r1) K
set_option maxRecDepth 100000 in
set_option maxHeartbeats 1000000 in
theorem s_7leftSet {m : zMe} (r1 : 0 ≤ m 51 1 ∧ m 51 1 ≤ 9) (a1 : zAs m) : f_X7_leftSet 50 (zM m) = some (zI (zLeft (zV m) 3 : Nat), zM (m)) := by
  refine zOk.eq ?_
  unfold f_X7_leftSet
  (first
    | (with_reducible apply z_nm; (case he => repeat (with_reducible first | exact zv_l _ | exact zv_r | apply zv_add | apply zv_sub | apply zv_neg | apply zv_or | apply zv_shl | apply zv_and)))
    | (with_reducible apply z_b_ck; (case h => with_unfolding_all rfl))
    | (with_reducible apply z_b_R; (case h => first | with_unfolding_all rfl))
    | (with_reducible apply z_L; (case he => repeat (with_reducible first | exact zv_l _ | exact zv_r | apply zv_add | apply zv_sub | apply zv_neg | apply zv_or | apply zv_shl | apply zv_and)); (case hn => with_reducible first | assumption | exact zl_2 | exact zl_9 | exact zl_51 | exact zl_53); (case h => omega); (case hy => first | ((simp (disch := omega) only [zU_c, zU_e, zU_k, zF_c, zF_i, zF_o, zW_o, zW_i, zC_c, zC_i, zC_o]); rfl) | rfl)))
  have e7 : zLeft (zV m) 3 = zBn (m 51 1).toNat (fun k => decide (m 53 (k : Int) = -1)) := rfl
  rw [e7]
  refine z_lp (fun n v m1 => ∃ i : Nat, v = (50, zI (zBn i (fun k => decide (m 53 (k : Int) = -1)) : Nat), zI (i : Int)) ∧ (i : Int) ≤ m 51 1 ∧ n = (m 51 1 - i).toNat ∧ m1 = m) (fun _ _ v m' => v = zI (zBn (m 51 1).toNat (fun k => decide (m 53 (k : Int) = -1)) : Nat) ∧ m' = m) ?_ 600 (m 51 1).toNat _ m (by omega) ⟨0, rfl, by omega, by omega, rfl⟩
  rintro n v m1 k ⟨i, rfl, h1, rfl, rfl⟩ hk
  have hi := a1 i (by omega)
  have hlt := zBn_lt i (fun k => decide (m1 53 (k : Int) = -1))
  unfold f_X7_leftSet_4
  dsimp only
  (first
    | (with_reducible apply z_nm; (case he => repeat (with_reducible first | exact zv_l _ | exact zv_r | apply zv_add | apply zv_sub | apply zv_neg | apply zv_or | apply zv_shl | apply zv_and)))
    | (with_reducible apply z_b_ck; (case h => with_unfolding_all rfl))
    | (with_reducible apply z_b_R; (case h => first | with_unfolding_all rfl))
    | (with_reducible apply z_L; (case he => repeat (with_reducible first | exact zv_l _ | exact zv_r | apply zv_add | apply zv_sub | apply zv_neg | apply zv_or | apply zv_shl | apply zv_and)); (case hn => with_reducible first | assumption | exact zl_2 | exact zl_9 | exact zl_51 | exact zl_53); (case h => omega); (case hy => first | ((simp (disch := omega) only [zU_c, zU_e, zU_k, zF_c, zF_i, zF_o, zW_o, zW_i, zC_c, zC_i, zC_o]); rfl) | rfl)))
  (first
    | (with_reducible apply z_nm; (case he => repeat (with_reducible first | exact zv_l _ | exact zv_r | apply zv_add | apply zv_sub | apply zv_neg | apply zv_or | apply zv_shl | apply zv_and)))
    | (with_reducible apply z_b_ck; (case h => with_unfolding_all rfl))
    | (with_reducible apply z_b_R; (case h => first | with_unfolding_all rfl))
    | (with_reducible apply z_L; (case he => repeat (with_reducible first | exact zv_l _ | exact zv_r | apply zv_add | apply zv_sub | apply zv_neg | apply zv_or | apply zv_shl | apply zv_and)); (case hn => with_reducible first | assumption | exact zl_2 | exact zl_9 | exact zl_51 | exact zl_53); (case h => omega); (case hy => first | ((simp (disch := omega) only [zU_c, zU_e, zU_k, zF_c, zF_i, zF_o, zW_o, zW_i, zC_c, zC_i, zC_o]); rfl) | rfl)))
  (first
    | (with_reducible apply z_B; all_goals (intro _; try (exfalso; omega)))
    | (with_reducible apply z_E; all_goals intro _)
    | (with_reducible apply z_lt; (case ha => repeat (with_reducible first | exact zv_l _ | exact zv_r | apply zv_add | apply zv_sub | apply zv_neg | apply zv_or | apply zv_shl | apply zv_and)); (case hb => repeat (with_reducible first | exact zv_l _ | exact zv_r | apply zv_add | apply zv_sub | apply zv_neg | apply zv_or | apply zv_shl | apply zv_and)); (case hx => omega); (case hy => omega); all_goals (intro _; try (exfalso; omega)))
    | (with_reducible apply z_le; (case ha => repeat (with_reducible first | exact zv_l _ | exact zv_r | apply zv_add | apply zv_sub | apply zv_neg | apply zv_or | apply zv_shl | apply zv_and)); (case hb => repeat (with_reducible first | exact zv_l _ | exact zv_r | apply zv_add | apply zv_sub | apply zv_neg | apply zv_or | apply zv_shl | apply zv_and)); (case hx => omega); (case hy => omega); all_goals (intro _; try (exfalso; omega)))
    | (with_reducible apply z_eq; (case ha => repeat (with_reducible first | exact zv_l _ | exact zv_r | apply zv_add | apply zv_sub | apply zv_neg | apply zv_or | apply zv_shl | apply zv_and)); (case hb => repeat (with_reducible first | exact zv_l _ | exact zv_r | apply zv_add | apply zv_sub | apply zv_neg | apply zv_or | apply zv_shl | apply zv_and)); (case hx => omega); (case hy => omega); all_goals (intro _; try (exfalso; omega))))
  · (first | (with_reducible apply z_reti; (case he => repeat (with_reducible first | exact zv_l _ | exact zv_r | apply zv_add | apply zv_sub | apply zv_neg | apply zv_or | apply zv_shl | apply zv_and))) | with_reducible refine z_ret ?_)
    have : (m1 51 1).toNat = i := by omega
    rw [this]
    exact ⟨rfl, rfl⟩
  · have hi := hi (by omega)
    have h512 : zBn i (fun k => decide (m1 53 (k : Int) = -1)) < 512 := by
      have : 2 ^ i ≤ 2 ^ 9 := Nat.pow_le_pow_right (by omega) (by omega)
      omega
    (first
    | (with_reducible apply z_nm; (case he => repeat (with_reducible first | exact zv_l _ | exact zv_r | apply zv_add | apply zv_sub | apply zv_neg | apply zv_or | apply zv_shl | apply zv_and)))
    | (with_reducible apply z_b_ck; (case h => with_unfolding_all rfl))
    | (with_reducible apply z_b_R; (case h => first | with_unfolding_all rfl))
    | (with_reducible apply z_L; (case he => repeat (with_reducible first | exact zv_l _ | exact zv_r | apply zv_add | apply zv_sub | apply zv_neg | apply zv_or | apply zv_shl | apply zv_and)); (case hn => with_reducible first | assumption | exact zl_2 | exact zl_9 | exact zl_51 | exact zl_53); (case h => omega); (case hy => first | ((simp (disch := omega) only [zU_c, zU_e, zU_k, zF_c, zF_i, zF_o, zW_o, zW_i, zC_c, zC_i, zC_o]); rfl) | rfl)))
    (first
    | (with_reducible apply z_nm; (case he => repeat (with_reducible first | exact zv_l _ | exact zv_r | apply zv_add | apply zv_sub | apply zv_neg | apply zv_or | apply zv_shl | apply zv_and)))
    | (with_reducible apply z_b_ck; (case h => with_unfolding_all rfl))
    | (with_reducible apply z_b_R; (case h => first | with_unfolding_all rfl))
    | (with_reducible apply z_L; (case he => repeat (with_reducible first | exact zv_l _ | exact zv_r | apply zv_add | apply zv_sub | apply zv_neg | apply zv_or | apply zv_shl | apply zv_and)); (case hn => with_reducible first | assumption | exact zl_2 | exact zl_9 | exact zl_51 | exact zl_53); (case h => omega); (case hy => first | ((simp (disch := omega) only [zU_c, zU_e, zU_k, zF_c, zF_i, zF_o, zW_o, zW_i, zC_c, zC_i, zC_o]); rfl) | rfl)))
    (first
    | (with_reducible apply z_B; all_goals (intro _; try (exfalso; omega)))
    | (with_reducible apply z_E; all_goals intro _)
    | (with_reducible apply z_lt; (case ha => repeat (with_reducible first | exact zv_l _ | exact zv_r | apply zv_add | apply zv_sub | apply zv_neg | apply zv_or | apply zv_shl | apply zv_and)); (case hb => repeat (with_reducible first | exact zv_l _ | exact zv_r | apply zv_add | apply zv_sub | apply zv_neg | apply zv_or | apply zv_shl | apply zv_and)); (case hx => omega); (case hy => omega); all_goals (intro _; try (exfalso; omega)))
    | (with_reducible apply z_le; (case ha => repeat (with_reducible first | exact zv_l _ | exact zv_r | apply zv_add | apply zv_sub | apply zv_neg | apply zv_or | apply zv_shl | apply zv_and)); (case hb => repeat (with_reducible first | exact zv_l _ | exact zv_r | apply zv_add | apply zv_sub | apply zv_neg | apply zv_or | apply zv_shl | apply zv_and)); (case hx => omega); (case hy => omega); all_goals (intro _; try (exfalso; omega)))
    | (with_reducible apply z_eq; (case ha => repeat (with_reducible first | exact zv_l _ | exact zv_r | apply zv_add | apply zv_sub | apply zv_neg | apply zv_or | apply zv_shl | apply zv_and)); (case hb => repeat (with_reducible first | exact zv_l _ | exact zv_r | apply zv_add | apply zv_sub | apply zv_neg | apply zv_or | apply zv_shl | apply zv_and)); (case hx => omega); (case hy => omega); all_goals (intro _; try (exfalso; omega))))
    · rename_i hq
      repeat' (first
    | (with_reducible apply z_nm; (case he => repeat (with_reducible first | exact zv_l _ | exact zv_r | apply zv_add | apply zv_sub | apply zv_neg | apply zv_or | apply zv_shl | apply zv_and)))
    | (with_reducible apply z_b_ck; (case h => with_unfolding_all rfl))
    | (with_reducible apply z_b_R; (case h => first | with_unfolding_all rfl))
    | (with_reducible apply z_L; (case he => repeat (with_reducible first | exact zv_l _ | exact zv_r | apply zv_add | apply zv_sub | apply zv_neg | apply zv_or | apply zv_shl | apply zv_and)); (case hn => with_reducible first | assumption | exact zl_2 | exact zl_9 | exact zl_51 | exact zl_53); (case h => omega); (case hy => first | ((simp (disch := omega) only [zU_c, zU_e, zU_k, zF_c, zF_i, zF_o, zW_o, zW_i, zC_c, zC_i, zC_o]); rfl) | rfl)))
      refine hk _ _ _ (by omega) ⟨i + 1, ?_, by omega, rfl, rfl⟩
      rw [zOr_bit (by omega) hlt, zBn_t (decide_eq_true hq)]
      rfl
    · rename_i hq
      repeat' (first
    | (with_reducible apply z_nm; (case he => repeat (with_reducible first | exact zv_l _ | exact zv_r | apply zv_add | apply zv_sub | apply zv_neg | apply zv_or | apply zv_shl | apply zv_and)))
    | (with_reducible apply z_b_ck; (case h => with_unfolding_all rfl))
    | (with_reducible apply z_b_R; (case h => first | with_unfolding_all rfl))
    | (with_reducible apply z_L; (case he => repeat (with_reducible first | exact zv_l _ | exact zv_r | apply zv_add | apply zv_sub | apply zv_neg | apply zv_or | apply zv_shl | apply zv_and)); (case hn => with_reducible first | assumption | exact zl_2 | exact zl_9 | exact zl_51 | exact zl_53); (case h => omega); (case hy => first | ((simp (disch := omega) only [zU_c, zU_e, zU_k, zF_c, zF_i, zF_o, zW_o, zW_i, zC_c, zC_i, zC_o]); rfl) | rfl)))
      refine hk _ _ _ (by omega) ⟨i + 1, ?_, by omega, rfl, rfl⟩
      rw [zOr_0 h512, zBn_f (fun q => hq (of_decide_eq_true q))]
      rfl
theorem z_7leftSet {m : zMe} (r1 : 0 ≤ m 51 1 ∧ m 51 1 ≤ 9) (a1 : zAs m) {α : Type} {kf : Int32 × Hp → Option (α × Hp)} {Q : α → zMe → Prop} (K : zOk (kf (zI (zLeft (zV m) 3 : Nat), zM (m))) Q) : zOk ((f_X7_leftSet 50 (zM m)).bind kf) Q := z_b (s_7leftSet r1 a1) K
set_option maxRecDepth 100000 in
set_option maxHeartbeats 1000000 in
theorem s_7ownLeft {m : zMe} {e : Int32} {t : Int} (e1 : e = zI t) (r2 : -2147483648 ≤ t ∧ t < 2147483648) (a2 : zRw m) (a1 : zAs m) : f_X7_ownLeft 50 e (zM m) = some (zI (zOwn (zV m) 3 t : Nat), zM (m)) := by
  subst e1
  have hT := a2.1.1
  have hN := a2.1.2.1
  refine zOk.eq ?_
  unfold f_X7_ownLeft
  (first
    | (with_reducible apply z_nm; (case he => repeat (with_reducible first | exact zv_l _ | exact zv_r | apply zv_add | apply zv_sub | apply zv_neg | apply zv_or | apply zv_shl | apply zv_and)))
    | (with_reducible apply z_b_ck; (case h => with_unfolding_all rfl))
    | (with_reducible apply z_b_R; (case h => first | with_unfolding_all rfl))
    | (with_reducible apply z_L; (case he => repeat (with_reducible first | exact zv_l _ | exact zv_r | apply zv_add | apply zv_sub | apply zv_neg | apply zv_or | apply zv_shl | apply zv_and)); (case hn => with_reducible first | assumption | exact zl_2 | exact zl_9 | exact zl_51 | exact zl_53 | exact zl_60); (case h => omega); (case hy => first | ((simp (disch := omega) only [zU_c, zU_e, zU_k, zF_c, zF_i, zF_o, zW_o, zW_i, zC_c, zC_i, zC_o]); rfl) | rfl))
    | (with_reducible apply z_7isOf; (case e1 => repeat (with_reducible first | exact zv_l _ | exact zv_r | apply zv_add | apply zv_sub | apply zv_neg | apply zv_or | apply zv_shl | apply zv_and)); (case e2 => repeat (with_reducible first | exact zv_l _ | exact zv_r | apply zv_add | apply zv_sub | apply zv_neg | apply zv_or | apply zv_shl | apply zv_and)); (case r1 => first | omega | ((simp (disch := omega) only [zU_c, zU_e, zU_k, zF_c, zF_i, zF_o, zW_o, zW_i, zC_c, zC_i, zC_o]); omega)); (case r2 => first | omega | ((simp (disch := omega) only [zU_c, zU_e, zU_k, zF_c, zF_i, zF_o, zW_o, zW_i, zC_c, zC_i, zC_o]); omega)); (case r3 => first | omega | ((simp (disch := omega) only [zU_c, zU_e, zU_k, zF_c, zF_i, zF_o, zW_o, zW_i, zC_c, zC_i, zC_o]); omega)); (case r4 => first | omega | ((simp (disch := omega) only [zU_c, zU_e, zU_k, zF_c, zF_i, zF_o, zW_o, zW_i, zC_c, zC_i, zC_o]); omega))))
  have e7 : zOwn (zV m) 3 t = zBn (m 51 1).toNat (fun k => decide (m 53 (k : Int) = -1 ∧ (m 51 (51 + (k : Int)) = t ∨ m 51 (60 + (k : Int)) = t))) := rfl
  rw [e7]
  refine z_lp (fun n v m1 => ∃ i : Nat, v = (50, zI t, zI (zBn i (fun k => decide (m 53 (k : Int) = -1 ∧ (m 51 (51 + (k : Int)) = t ∨ m 51 (60 + (k : Int)) = t))) : Nat), zI (i : Int)) ∧ (i : Int) ≤ m 51 1 ∧ n = (m 51 1 - i).toNat ∧ m1 = m) (fun _ _ v m' => v = zI (zBn (m 51 1).toNat (fun k => decide (m 53 (k : Int) = -1 ∧ (m 51 (51 + (k : Int)) = t ∨ m 51 (60 + (k : Int)) = t))) : Nat) ∧ m' = m) ?_ 600 (m 51 1).toNat _ m (by omega) ⟨0, rfl, by omega, by omega, rfl⟩
  rintro n v m1 k ⟨i, rfl, h1, rfl, rfl⟩ hk
  have hi := a1 i (by omega)
  have hg := a2.2.2 i (by omega)
  have hlt := zBn_lt i (fun k => decide (m1 53 (k : Int) = -1 ∧ (m1 51 (51 + (k : Int)) = t ∨ m1 51 (60 + (k : Int)) = t)))
  unfold f_X7_ownLeft_4
  dsimp only
  (first
    | (with_reducible apply z_nm; (case he => repeat (with_reducible first | exact zv_l _ | exact zv_r | apply zv_add | apply zv_sub | apply zv_neg | apply zv_or | apply zv_shl | apply zv_and)))
    | (with_reducible apply z_b_ck; (case h => with_unfolding_all rfl))
    | (with_reducible apply z_b_R; (case h => first | with_unfolding_all rfl))
    | (with_reducible apply z_L; (case he => repeat (with_reducible first | exact zv_l _ | exact zv_r | apply zv_add | apply zv_sub | apply zv_neg | apply zv_or | apply zv_shl | apply zv_and)); (case hn => with_reducible first | assumption | exact zl_2 | exact zl_9 | exact zl_51 | exact zl_53 | exact zl_60); (case h => omega); (case hy => first | ((simp (disch := omega) only [zU_c, zU_e, zU_k, zF_c, zF_i, zF_o, zW_o, zW_i, zC_c, zC_i, zC_o]); rfl) | rfl))
    | (with_reducible apply z_7isOf; (case e1 => repeat (with_reducible first | exact zv_l _ | exact zv_r | apply zv_add | apply zv_sub | apply zv_neg | apply zv_or | apply zv_shl | apply zv_and)); (case e2 => repeat (with_reducible first | exact zv_l _ | exact zv_r | apply zv_add | apply zv_sub | apply zv_neg | apply zv_or | apply zv_shl | apply zv_and)); (case r1 => first | omega | ((simp (disch := omega) only [zU_c, zU_e, zU_k, zF_c, zF_i, zF_o, zW_o, zW_i, zC_c, zC_i, zC_o]); omega)); (case r2 => first | omega | ((simp (disch := omega) only [zU_c, zU_e, zU_k, zF_c, zF_i, zF_o, zW_o, zW_i, zC_c, zC_i, zC_o]); omega)); (case r3 => first | omega | ((simp (disch := omega) only [zU_c, zU_e, zU_k, zF_c, zF_i, zF_o, zW_o, zW_i, zC_c, zC_i, zC_o]); omega)); (case r4 => first | omega | ((simp (disch := omega) only [zU_c, zU_e, zU_k, zF_c, zF_i, zF_o, zW_o, zW_i, zC_c, zC_i, zC_o]); omega))))
  (first
    | (with_reducible apply z_nm; (case he => repeat (with_reducible first | exact zv_l _ | exact zv_r | apply zv_add | apply zv_sub | apply zv_neg | apply zv_or | apply zv_shl | apply zv_and)))
    | (with_reducible apply z_b_ck; (case h => with_unfolding_all rfl))
    | (with_reducible apply z_b_R; (case h => first | with_unfolding_all rfl))
    | (with_reducible apply z_L; (case he => repeat (with_reducible first | exact zv_l _ | exact zv_r | apply zv_add | apply zv_sub | apply zv_neg | apply zv_or | apply zv_shl | apply zv_and)); (case hn => with_reducible first | assumption | exact zl_2 | exact zl_9 | exact zl_51 | exact zl_53 | exact zl_60); (case h => omega); (case hy => first | ((simp (disch := omega) only [zU_c, zU_e, zU_k, zF_c, zF_i, zF_o, zW_o, zW_i, zC_c, zC_i, zC_o]); rfl) | rfl))
    | (with_reducible apply z_7isOf; (case e1 => repeat (with_reducible first | exact zv_l _ | exact zv_r | apply zv_add | apply zv_sub | apply zv_neg | apply zv_or | apply zv_shl | apply zv_and)); (case e2 => repeat (with_reducible first | exact zv_l _ | exact zv_r | apply zv_add | apply zv_sub | apply zv_neg | apply zv_or | apply zv_shl | apply zv_and)); (case r1 => first | omega | ((simp (disch := omega) only [zU_c, zU_e, zU_k, zF_c, zF_i, zF_o, zW_o, zW_i, zC_c, zC_i, zC_o]); omega)); (case r2 => first | omega | ((simp (disch := omega) only [zU_c, zU_e, zU_k, zF_c, zF_i, zF_o, zW_o, zW_i, zC_c, zC_i, zC_o]); omega)); (case r3 => first | omega | ((simp (disch := omega) only [zU_c, zU_e, zU_k, zF_c, zF_i, zF_o, zW_o, zW_i, zC_c, zC_i, zC_o]); omega)); (case r4 => first | omega | ((simp (disch := omega) only [zU_c, zU_e, zU_k, zF_c, zF_i, zF_o, zW_o, zW_i, zC_c, zC_i, zC_o]); omega))))
  (first
    | (with_reducible apply z_B; all_goals (intro _; try (exfalso; omega)))
    | (with_reducible apply z_E; all_goals intro _)
    | (with_reducible apply z_lt; (case ha => repeat (with_reducible first | exact zv_l _ | exact zv_r | apply zv_add | apply zv_sub | apply zv_neg | apply zv_or | apply zv_shl | apply zv_and)); (case hb => repeat (with_reducible first | exact zv_l _ | exact zv_r | apply zv_add | apply zv_sub | apply zv_neg | apply zv_or | apply zv_shl | apply zv_and)); (case hx => omega); (case hy => omega); all_goals (intro _; try (exfalso; omega)))
    | (with_reducible apply z_le; (case ha => repeat (with_reducible first | exact zv_l _ | exact zv_r | apply zv_add | apply zv_sub | apply zv_neg | apply zv_or | apply zv_shl | apply zv_and)); (case hb => repeat (with_reducible first | exact zv_l _ | exact zv_r | apply zv_add | apply zv_sub | apply zv_neg | apply zv_or | apply zv_shl | apply zv_and)); (case hx => omega); (case hy => omega); all_goals (intro _; try (exfalso; omega)))
    | (with_reducible apply z_eq; (case ha => repeat (with_reducible first | exact zv_l _ | exact zv_r | apply zv_add | apply zv_sub | apply zv_neg | apply zv_or | apply zv_shl | apply zv_and)); (case hb => repeat (with_reducible first | exact zv_l _ | exact zv_r | apply zv_add | apply zv_sub | apply zv_neg | apply zv_or | apply zv_shl | apply zv_and)); (case hx => omega); (case hy => omega); all_goals (intro _; try (exfalso; omega))))
  · (first | (with_reducible apply z_reti; (case he => repeat (with_reducible first | exact zv_l _ | exact zv_r | apply zv_add | apply zv_sub | apply zv_neg | apply zv_or | apply zv_shl | apply zv_and))) | with_reducible refine z_ret ?_)
    have : (m1 51 1).toNat = i := by omega
    rw [this]
    exact ⟨rfl, rfl⟩
  · have hi := hi (by omega)
    have hg := hg (by omega)
    have h512 : zBn i (fun k => decide (m1 53 (k : Int) = -1 ∧ (m1 51 (51 + (k : Int)) = t ∨ m1 51 (60 + (k : Int)) = t))) < 512 := by
      have : 2 ^ i ≤ 2 ^ 9 := Nat.pow_le_pow_right (by omega) (by omega)
      omega
    have hno : ¬ (m1 53 (i : Int) = -1 ∧ (m1 51 (51 + (i : Int)) = t ∨ m1 51 (60 + (i : Int)) = t)) → zOk (f_X7_ownLeft_40 k 50 (zI t) (zI (i : Int)) (zI (zBn i (fun k => decide (m1 53 (k : Int) = -1 ∧ (m1 51 (51 + (k : Int)) = t ∨ m1 51 (60 + (k : Int)) = t))) : Nat)) (zM m1)) (fun v m' => v = zI (zBn (m1 51 1).toNat (fun k => decide (m1 53 (k : Int) = -1 ∧ (m1 51 (51 + (k : Int)) = t ∨ m1 51 (60 + (k : Int)) = t))) : Nat) ∧ m' = m1) := fun hq => by
      unfold f_X7_ownLeft_40
      repeat' (first
    | (with_reducible apply z_nm; (case he => repeat (with_reducible first | exact zv_l _ | exact zv_r | apply zv_add | apply zv_sub | apply zv_neg | apply zv_or | apply zv_shl | apply zv_and)))
    | (with_reducible apply z_b_ck; (case h => with_unfolding_all rfl))
    | (with_reducible apply z_b_R; (case h => first | with_unfolding_all rfl))
    | (with_reducible apply z_L; (case he => repeat (with_reducible first | exact zv_l _ | exact zv_r | apply zv_add | apply zv_sub | apply zv_neg | apply zv_or | apply zv_shl | apply zv_and)); (case hn => with_reducible first | assumption | exact zl_2 | exact zl_9 | exact zl_51 | exact zl_53 | exact zl_60); (case h => omega); (case hy => first | ((simp (disch := omega) only [zU_c, zU_e, zU_k, zF_c, zF_i, zF_o, zW_o, zW_i, zC_c, zC_i, zC_o]); rfl) | rfl))
    | (with_reducible apply z_7isOf; (case e1 => repeat (with_reducible first | exact zv_l _ | exact zv_r | apply zv_add | apply zv_sub | apply zv_neg | apply zv_or | apply zv_shl | apply zv_and)); (case e2 => repeat (with_reducible first | exact zv_l _ | exact zv_r | apply zv_add | apply zv_sub | apply zv_neg | apply zv_or | apply zv_shl | apply zv_and)); (case r1 => first | omega | ((simp (disch := omega) only [zU_c, zU_e, zU_k, zF_c, zF_i, zF_o, zW_o, zW_i, zC_c, zC_i, zC_o]); omega)); (case r2 => first | omega | ((simp (disch := omega) only [zU_c, zU_e, zU_k, zF_c, zF_i, zF_o, zW_o, zW_i, zC_c, zC_i, zC_o]); omega)); (case r3 => first | omega | ((simp (disch := omega) only [zU_c, zU_e, zU_k, zF_c, zF_i, zF_o, zW_o, zW_i, zC_c, zC_i, zC_o]); omega)); (case r4 => first | omega | ((simp (disch := omega) only [zU_c, zU_e, zU_k, zF_c, zF_i, zF_o, zW_o, zW_i, zC_c, zC_i, zC_o]); omega))))
      refine hk _ _ _ (by omega) ⟨i + 1, ?_, by omega, rfl, rfl⟩
      rw [zOr_0 h512, zBn_f (fun q => hq (of_decide_eq_true q))]
      rfl
    (first
    | (with_reducible apply z_nm; (case he => repeat (with_reducible first | exact zv_l _ | exact zv_r | apply zv_add | apply zv_sub | apply zv_neg | apply zv_or | apply zv_shl | apply zv_and)))
    | (with_reducible apply z_b_ck; (case h => with_unfolding_all rfl))
    | (with_reducible apply z_b_R; (case h => first | with_unfolding_all rfl))
    | (with_reducible apply z_L; (case he => repeat (with_reducible first | exact zv_l _ | exact zv_r | apply zv_add | apply zv_sub | apply zv_neg | apply zv_or | apply zv_shl | apply zv_and)); (case hn => with_reducible first | assumption | exact zl_2 | exact zl_9 | exact zl_51 | exact zl_53 | exact zl_60); (case h => omega); (case hy => first | ((simp (disch := omega) only [zU_c, zU_e, zU_k, zF_c, zF_i, zF_o, zW_o, zW_i, zC_c, zC_i, zC_o]); rfl) | rfl))
    | (with_reducible apply z_7isOf; (case e1 => repeat (with_reducible first | exact zv_l _ | exact zv_r | apply zv_add | apply zv_sub | apply zv_neg | apply zv_or | apply zv_shl | apply zv_and)); (case e2 => repeat (with_reducible first | exact zv_l _ | exact zv_r | apply zv_add | apply zv_sub | apply zv_neg | apply zv_or | apply zv_shl | apply zv_and)); (case r1 => first | omega | ((simp (disch := omega) only [zU_c, zU_e, zU_k, zF_c, zF_i, zF_o, zW_o, zW_i, zC_c, zC_i, zC_o]); omega)); (case r2 => first | omega | ((simp (disch := omega) only [zU_c, zU_e, zU_k, zF_c, zF_i, zF_o, zW_o, zW_i, zC_c, zC_i, zC_o]); omega)); (case r3 => first | omega | ((simp (disch := omega) only [zU_c, zU_e, zU_k, zF_c, zF_i, zF_o, zW_o, zW_i, zC_c, zC_i, zC_o]); omega)); (case r4 => first | omega | ((simp (disch := omega) only [zU_c, zU_e, zU_k, zF_c, zF_i, zF_o, zW_o, zW_i, zC_c, zC_i, zC_o]); omega))))
    (first
    | (with_reducible apply z_nm; (case he => repeat (with_reducible first | exact zv_l _ | exact zv_r | apply zv_add | apply zv_sub | apply zv_neg | apply zv_or | apply zv_shl | apply zv_and)))
    | (with_reducible apply z_b_ck; (case h => with_unfolding_all rfl))
    | (with_reducible apply z_b_R; (case h => first | with_unfolding_all rfl))
    | (with_reducible apply z_L; (case he => repeat (with_reducible first | exact zv_l _ | exact zv_r | apply zv_add | apply zv_sub | apply zv_neg | apply zv_or | apply zv_shl | apply zv_and)); (case hn => with_reducible first | assumption | exact zl_2 | exact zl_9 | exact zl_51 | exact zl_53 | exact zl_60); (case h => omega); (case hy => first | ((simp (disch := omega) only [zU_c, zU_e, zU_k, zF_c, zF_i, zF_o, zW_o, zW_i, zC_c, zC_i, zC_o]); rfl) | rfl))
    | (with_reducible apply z_7isOf; (case e1 => repeat (with_reducible first | exact zv_l _ | exact zv_r | apply zv_add | apply zv_sub | apply zv_neg | apply zv_or | apply zv_shl | apply zv_and)); (case e2 => repeat (with_reducible first | exact zv_l _ | exact zv_r | apply zv_add | apply zv_sub | apply zv_neg | apply zv_or | apply zv_shl | apply zv_and)); (case r1 => first | omega | ((simp (disch := omega) only [zU_c, zU_e, zU_k, zF_c, zF_i, zF_o, zW_o, zW_i, zC_c, zC_i, zC_o]); omega)); (case r2 => first | omega | ((simp (disch := omega) only [zU_c, zU_e, zU_k, zF_c, zF_i, zF_o, zW_o, zW_i, zC_c, zC_i, zC_o]); omega)); (case r3 => first | omega | ((simp (disch := omega) only [zU_c, zU_e, zU_k, zF_c, zF_i, zF_o, zW_o, zW_i, zC_c, zC_i, zC_o]); omega)); (case r4 => first | omega | ((simp (disch := omega) only [zU_c, zU_e, zU_k, zF_c, zF_i, zF_o, zW_o, zW_i, zC_c, zC_i, zC_o]); omega))))
    (first
    | (with_reducible apply z_B; all_goals (intro _; try (exfalso; omega)))
    | (with_reducible apply z_E; all_goals intro _)
    | (with_reducible apply z_lt; (case ha => repeat (with_reducible first | exact zv_l _ | exact zv_r | apply zv_add | apply zv_sub | apply zv_neg | apply zv_or | apply zv_shl | apply zv_and)); (case hb => repeat (with_reducible first | exact zv_l _ | exact zv_r | apply zv_add | apply zv_sub | apply zv_neg | apply zv_or | apply zv_shl | apply zv_and)); (case hx => omega); (case hy => omega); all_goals (intro _; try (exfalso; omega)))
    | (with_reducible apply z_le; (case ha => repeat (with_reducible first | exact zv_l _ | exact zv_r | apply zv_add | apply zv_sub | apply zv_neg | apply zv_or | apply zv_shl | apply zv_and)); (case hb => repeat (with_reducible first | exact zv_l _ | exact zv_r | apply zv_add | apply zv_sub | apply zv_neg | apply zv_or | apply zv_shl | apply zv_and)); (case hx => omega); (case hy => omega); all_goals (intro _; try (exfalso; omega)))
    | (with_reducible apply z_eq; (case ha => repeat (with_reducible first | exact zv_l _ | exact zv_r | apply zv_add | apply zv_sub | apply zv_neg | apply zv_or | apply zv_shl | apply zv_and)); (case hb => repeat (with_reducible first | exact zv_l _ | exact zv_r | apply zv_add | apply zv_sub | apply zv_neg | apply zv_or | apply zv_shl | apply zv_and)); (case hx => omega); (case hy => omega); all_goals (intro _; try (exfalso; omega))))
    · rename_i hq
      refine z_7isOf rfl rfl (by omega) r2 (by omega) (by omega) ?_
      refine z_B (fun h => ?_) (fun h => ?_)
      · exact hno (fun q => h q.2)
      · repeat' (first
    | (with_reducible apply z_nm; (case he => repeat (with_reducible first | exact zv_l _ | exact zv_r | apply zv_add | apply zv_sub | apply zv_neg | apply zv_or | apply zv_shl | apply zv_and)))
    | (with_reducible apply z_b_ck; (case h => with_unfolding_all rfl))
    | (with_reducible apply z_b_R; (case h => first | with_unfolding_all rfl))
    | (with_reducible apply z_L; (case he => repeat (with_reducible first | exact zv_l _ | exact zv_r | apply zv_add | apply zv_sub | apply zv_neg | apply zv_or | apply zv_shl | apply zv_and)); (case hn => with_reducible first | assumption | exact zl_2 | exact zl_9 | exact zl_51 | exact zl_53 | exact zl_60); (case h => omega); (case hy => first | ((simp (disch := omega) only [zU_c, zU_e, zU_k, zF_c, zF_i, zF_o, zW_o, zW_i, zC_c, zC_i, zC_o]); rfl) | rfl))
    | (with_reducible apply z_7isOf; (case e1 => repeat (with_reducible first | exact zv_l _ | exact zv_r | apply zv_add | apply zv_sub | apply zv_neg | apply zv_or | apply zv_shl | apply zv_and)); (case e2 => repeat (with_reducible first | exact zv_l _ | exact zv_r | apply zv_add | apply zv_sub | apply zv_neg | apply zv_or | apply zv_shl | apply zv_and)); (case r1 => first | omega | ((simp (disch := omega) only [zU_c, zU_e, zU_k, zF_c, zF_i, zF_o, zW_o, zW_i, zC_c, zC_i, zC_o]); omega)); (case r2 => first | omega | ((simp (disch := omega) only [zU_c, zU_e, zU_k, zF_c, zF_i, zF_o, zW_o, zW_i, zC_c, zC_i, zC_o]); omega)); (case r3 => first | omega | ((simp (disch := omega) only [zU_c, zU_e, zU_k, zF_c, zF_i, zF_o, zW_o, zW_i, zC_c, zC_i, zC_o]); omega)); (case r4 => first | omega | ((simp (disch := omega) only [zU_c, zU_e, zU_k, zF_c, zF_i, zF_o, zW_o, zW_i, zC_c, zC_i, zC_o]); omega))))
        refine hk _ _ _ (by omega) ⟨i + 1, ?_, by omega, rfl, rfl⟩
        rw [zOr_bit (by omega) hlt, zBn_t (decide_eq_true ⟨hq, h⟩)]
        rfl
    · rename_i hq
      exact hno (fun q => hq q.1)
theorem z_7ownLeft {m : zMe} {e : Int32} {t : Int} (e1 : e = zI t) (r2 : -2147483648 ≤ t ∧ t < 2147483648) (a2 : zRw m) (a1 : zAs m) {α : Type} {kf : Int32 × Hp → Option (α × Hp)} {Q : α → zMe → Prop} (K : zOk (kf (zI (zOwn (zV m) 3 t : Nat), zM (m))) Q) : zOk ((f_X7_ownLeft 50 e (zM m)).bind kf) Q := z_b (s_7ownLeft e1 r2 a2 a1) K
