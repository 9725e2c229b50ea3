/-! the reference: tokens -/
/-- the reference's tape holds what the class's holds -/
def zTr (mc m : zMe) : Prop := m 50 11 = mc 1 1 ∧ (0 ≤ mc 1 1 ∧ mc 1 1 ≤ 40) ∧ (∀ j, 0 ≤ j → j < 40 → m 56 j = mc 2 j) ∧ ∀ j, 0 ≤ j → j < 40 → 0 ≤ mc 2 j ∧ mc 2 j ≤ 255
def zN2 (m : zMe) (b q : Int) : zMe := zU (zU (zU m 50 12 b) 50 13 b) 50 14 q
def zNt (m : zMe) (b e : Int) : zMe := zU (zU (zU m 50 12 e) 50 13 b) 50 14 e
theorem zNt_c {m : zMe} {b e j : Int} {c : Nat} (h : ¬ c = 50) : zNt m b e c j = m c j := by
  unfold zNt
  rw [zU_c h, zU_c h, zU_c h]
theorem zNt_j {m : zMe} {b e j : Int} (h : ¬ j = 12 ∧ ¬ j = 13 ∧ ¬ j = 14) : zNt m b e 50 j = m 50 j := by
  unfold zNt
  rw [zU_k h.2.2, zU_k h.2.1, zU_k h.1]
theorem zNt_12 {m : zMe} {b e : Int} : zNt m b e 50 12 = e := by
  unfold zNt
  rw [zU_k (by omega), zU_k (by omega), zU_e]
theorem zNt_13 {m : zMe} {b e : Int} : zNt m b e 50 13 = b := by
  unfold zNt
  rw [zU_k (by omega), zU_e]
theorem zNt_14 {m : zMe} {b e : Int} : zNt m b e 50 14 = e := by
  unfold zNt
  rw [zU_e]
theorem zN2_14 {m : zMe} {b e : Int} : zN2 m b e 50 14 = e := by
  unfold zN2
  rw [zU_e]
theorem zN2_s {m : zMe} {b e x : Int} : zU (zN2 m b e) 50 14 x = zN2 m b x := by
  unfold zN2
  rw [zU_U]
theorem zN2_t {m : zMe} {b e : Int} : zU (zN2 m b e) 50 12 e = zNt m b e := by
  funext c j
  unfold zN2 zNt zU
  by_cases hc : c = 50
  · subst hc
    simp only [if_true]
    by_cases h4 : j = 14
    · simp [h4]
    · by_cases h3 : j = 13
      · simp [h3]
      · by_cases h2 : j = 12
        · simp [h2]
        · simp [h2, h3, h4]
  · simp [hc]
theorem zU_self {m : zMe} {r : Nat} {k x : Int} (h : m r k = x) : zU m r k x = m := by
  funext c j
  unfold zU
  by_cases hc : c = r
  · subst hc
    by_cases hj : j = k
    · subst hj
      rw [if_pos rfl, if_pos rfl, h]
    · rw [if_pos rfl, if_neg hj]
  · rw [if_neg hc]
theorem zNt_U {m : zMe} {b e x : Int} : zNt (zU m 50 12 x) b e = zNt m b e := by
  unfold zNt
  rw [zU_U]
theorem zNt_Nt {m : zMe} {b e b' e' : Int} : zNt (zNt m b e) b' e' = zNt m b' e' := by
  funext c j
  unfold zNt zU
  by_cases hc : c = 50
  · subst hc
    simp only [if_true]
    by_cases h4 : j = 14
    · simp [h4]
    · by_cases h3 : j = 13
      · simp [h3]
      · by_cases h2 : j = 12
        · simp [h2]
        · simp [h2, h3, h4]
  · simp [hc]
theorem zTr_U {mc m : zMe} {k x : Int} (h : zTr mc m) (hk : ¬ k = 11) : zTr mc (zU m 50 k x) := by
  obtain ⟨h1, h2, h3, h4⟩ := h
  refine ⟨by rw [zU_k (fun q => hk q.symm)]; exact h1, h2, fun j j0 j1 => ?_, h4⟩
  rw [zU_c (by omega)]
  exact h3 j j0 j1
theorem zTr_Nt {mc m : zMe} {b e : Int} (h : zTr mc m) : zTr mc (zNt m b e) := zTr_U (zTr_U (zTr_U h (by omega)) (by omega)) (by omega)
theorem zTr_N2 {mc m : zMe} {b e : Int} (h : zTr mc m) : zTr mc (zN2 m b e) := zTr_U (zTr_U (zTr_U h (by omega)) (by omega)) (by omega)
def zBy (mc : zMe) (p : Int) : Int := if p < mc 1 1 then mc 2 p else -1
theorem zBy_r {mc m : zMe} {p : Int} (h : zTr mc m) (hp : 0 ≤ p) : -1 ≤ zBy mc p ∧ zBy mc p ≤ 255 := by
  obtain ⟨h1, h2, h3, h4⟩ := h
  have := h4 p hp
  unfold zBy
  split <;> omega
theorem zBy_1 {mc : zMe} {p : Int} : (97 ≤ zBy mc p ∧ zBy mc p ≤ 122) ↔ (p < mc 1 1 ∧ zCl (mc 2 p) = 1) := by
  unfold zBy zCl
  split
  · (repeat' split) <;> omega
  · omega
theorem zBy_2 {mc : zMe} {p : Int} : (48 ≤ zBy mc p ∧ zBy mc p ≤ 57) ↔ (p < mc 1 1 ∧ zCl (mc 2 p) = 2) := by
  unfold zBy zCl
  split
  · (repeat' split) <;> omega
  · omega
theorem zBy_b {mc : zMe} {p : Int} : (zBy mc p = 32 ∨ zBy mc p = 10) ↔ (p < mc 1 1 ∧ (mc 2 p = 32 ∨ mc 2 p = 10)) := by
  unfold zBy
  split <;> omega
set_option maxRecDepth 100000 in
set_option maxHeartbeats 1000000 in
theorem s_7byteAt {m : zMe} {mc : zMe} {e : Int32} {p : Int} (e1 : e = zI p) (r1 : 0 ≤ p ∧ p ≤ 40) (a1 : zTr mc m) : f_X7_byteAt 50 e (zM m) = some (zI (zBy mc p), zM (m)) := by
  subst e1
  obtain ⟨h1, h2, h3, h4⟩ := a1
  have hp := h3 p
  refine zOk.eq ?_
  unfold f_X7_byteAt zBy
  (first
    | (with_reducible apply z_nm; (case he => repeat (with_reducible first | exact zv_l _ | exact zv_r | apply zv_neg)))
    | (with_reducible apply z_b_ck; (case h => with_unfolding_all rfl))
    | (with_reducible apply z_I; (case h => first | with_unfolding_all rfl); (case hy => first | ((simp (disch := omega) only [zU_c, zU_e, zU_k, zF_c, zF_i, zF_o, zW_o, zW_i, zC_c, zC_i, zC_o]); rfl) | rfl))
    | (with_reducible apply z_b_R; (case h => first | with_unfolding_all rfl))
    | (with_reducible apply z_L; (case he => repeat (with_reducible first | exact zv_l _ | exact zv_r | apply zv_neg)); (case hn => with_reducible first | assumption | exact zl_2 | exact zl_40 | exact zl_56); (case h => omega); (case hy => first | ((simp (disch := omega) only [zU_c, zU_e, zU_k, zF_c, zF_i, zF_o, zW_o, zW_i, zC_c, zC_i, zC_o]); rfl) | rfl)))
  refine z_I (y := mc 1 1) (by with_unfolding_all rfl) h1 ?_
  (first
    | (with_reducible apply z_B; all_goals (intro _; try (exfalso; omega)))
    | (with_reducible apply z_E; all_goals intro _)
    | (with_reducible apply z_lt; (case ha => repeat (with_reducible first | exact zv_l _ | exact zv_r | apply zv_neg)); (case hb => repeat (with_reducible first | exact zv_l _ | exact zv_r | apply zv_neg)); (case hx => omega); (case hy => omega); all_goals (intro _; try (exfalso; omega)))
    | (with_reducible apply z_le; (case ha => repeat (with_reducible first | exact zv_l _ | exact zv_r | apply zv_neg)); (case hb => repeat (with_reducible first | exact zv_l _ | exact zv_r | apply zv_neg)); (case hx => omega); (case hy => omega); all_goals (intro _; try (exfalso; omega)))
    | (with_reducible apply z_eq; (case ha => repeat (with_reducible first | exact zv_l _ | exact zv_r | apply zv_neg)); (case hb => repeat (with_reducible first | exact zv_l _ | exact zv_r | apply zv_neg)); (case hx => omega); (case hy => omega); all_goals (intro _; try (exfalso; omega))))
  · rw [if_neg (by omega)]
    exact ⟨_, _, rfl, rfl, rfl⟩
  · rw [if_pos (by omega)]
    (first
    | (with_reducible apply z_nm; (case he => repeat (with_reducible first | exact zv_l _ | exact zv_r | apply zv_neg)))
    | (with_reducible apply z_b_ck; (case h => with_unfolding_all rfl))
    | (with_reducible apply z_I; (case h => first | with_unfolding_all rfl); (case hy => first | ((simp (disch := omega) only [zU_c, zU_e, zU_k, zF_c, zF_i, zF_o, zW_o, zW_i, zC_c, zC_i, zC_o]); rfl) | rfl))
    | (with_reducible apply z_b_R; (case h => first | with_unfolding_all rfl))
    | (with_reducible apply z_L; (case he => repeat (with_reducible first | exact zv_l _ | exact zv_r | apply zv_neg)); (case hn => with_reducible first | assumption | exact zl_2 | exact zl_40 | exact zl_56); (case h => omega); (case hy => first | ((simp (disch := omega) only [zU_c, zU_e, zU_k, zF_c, zF_i, zF_o, zW_o, zW_i, zC_c, zC_i, zC_o]); rfl) | rfl)))
    refine z_L (y := mc 2 p) rfl zl_56 (by omega) (hp r1.1 (by omega)) ?_
    exact ⟨_, _, rfl, rfl, rfl⟩
theorem z_7byteAt {m : zMe} {mc : zMe} {e : Int32} {p : Int} (e1 : e = zI p) (r1 : 0 ≤ p ∧ p ≤ 40) (a1 : zTr mc m) {α : Type} {kf : Int32 × Hp → Option (α × Hp)} {Q : α → zMe → Prop} (K : zOk (kf (zI (zBy mc p), zM (m))) Q) : zOk ((f_X7_byteAt 50 e (zM m)).bind kf) Q := z_b (s_7byteAt e1 r1 a1) K
set_option maxRecDepth 100000 in
set_option maxHeartbeats 1000000 in
theorem s_7isLetter {m : zMe} {e : Int32} {x : Int} (e1 : e = zI x) (r1 : -2147483648 ≤ x ∧ x < 2147483648) : f_X7_isLetter e (zM m) = some (zI (zB (97 ≤ x ∧ x ≤ 122)), zM (m)) := by
  subst e1
  refine zOk.eq ?_
  unfold f_X7_isLetter
  repeat' (first | (first
    | (with_reducible apply z_in; (case hA => first | with_reducible exact zj_l _ (by decide) | with_reducible exact zj_m1 | (with_reducible apply zj_e; repeat (with_reducible first | exact zv_l _ | exact zv_r | apply zv_neg))); (case hL => first | with_reducible exact zj_l _ (by decide) | with_reducible exact zj_m1 | (with_reducible apply zj_e; repeat (with_reducible first | exact zv_l _ | exact zv_r | apply zv_neg))); (case hH => first | with_reducible exact zj_l _ (by decide) | with_reducible exact zj_m1 | (with_reducible apply zj_e; repeat (with_reducible first | exact zv_l _ | exact zv_r | apply zv_neg))); (case rx => omega); (case rl => omega); (case rh => omega))
    | with_reducible refine z_bz ?_
    | with_reducible refine z_bzE ?_
    | (with_reducible apply z_bzl; (case h => omega))) | (first
    | (with_reducible apply z_B; all_goals (intro _; try (exfalso; omega)))
    | (with_reducible apply z_E; all_goals intro _)
    | (with_reducible apply z_lt; (case ha => repeat (with_reducible first | exact zv_l _ | exact zv_r | apply zv_neg)); (case hb => repeat (with_reducible first | exact zv_l _ | exact zv_r | apply zv_neg)); (case hx => omega); (case hy => omega); all_goals (intro _; try (exfalso; omega)))
    | (with_reducible apply z_le; (case ha => repeat (with_reducible first | exact zv_l _ | exact zv_r | apply zv_neg)); (case hb => repeat (with_reducible first | exact zv_l _ | exact zv_r | apply zv_neg)); (case hx => omega); (case hy => omega); all_goals (intro _; try (exfalso; omega)))
    | (with_reducible apply z_eq; (case ha => repeat (with_reducible first | exact zv_l _ | exact zv_r | apply zv_neg)); (case hb => repeat (with_reducible first | exact zv_l _ | exact zv_r | apply zv_neg)); (case hx => omega); (case hy => omega); all_goals (intro _; try (exfalso; omega)))))
  exact ⟨_, _, rfl, rfl, rfl⟩
theorem z_7isLetter {m : zMe} {e : Int32} {x : Int} (e1 : e = zI x) (r1 : -2147483648 ≤ x ∧ x < 2147483648) {α : Type} {kf : Int32 × Hp → Option (α × Hp)} {Q : α → zMe → Prop} (K : zOk (kf (zI (zB (97 ≤ x ∧ x ≤ 122)), zM (m))) Q) : zOk ((f_X7_isLetter e (zM m)).bind kf) Q := z_b (s_7isLetter e1 r1) K
set_option maxRecDepth 100000 in
set_option maxHeartbeats 1000000 in
theorem s_7isDigit {m : zMe} {e : Int32} {x : Int} (e1 : e = zI x) (r1 : -2147483648 ≤ x ∧ x < 2147483648) : f_X7_isDigit e (zM m) = some (zI (zB (48 ≤ x ∧ x ≤ 57)), zM (m)) := by
  subst e1
  refine zOk.eq ?_
  unfold f_X7_isDigit
  repeat' (first | (first
    | (with_reducible apply z_in; (case hA => first | with_reducible exact zj_l _ (by decide) | with_reducible exact zj_m1 | (with_reducible apply zj_e; repeat (with_reducible first | exact zv_l _ | exact zv_r | apply zv_neg))); (case hL => first | with_reducible exact zj_l _ (by decide) | with_reducible exact zj_m1 | (with_reducible apply zj_e; repeat (with_reducible first | exact zv_l _ | exact zv_r | apply zv_neg))); (case hH => first | with_reducible exact zj_l _ (by decide) | with_reducible exact zj_m1 | (with_reducible apply zj_e; repeat (with_reducible first | exact zv_l _ | exact zv_r | apply zv_neg))); (case rx => omega); (case rl => omega); (case rh => omega))
    | with_reducible refine z_bz ?_
    | with_reducible refine z_bzE ?_
    | (with_reducible apply z_bzl; (case h => omega))) | (first
    | (with_reducible apply z_B; all_goals (intro _; try (exfalso; omega)))
    | (with_reducible apply z_E; all_goals intro _)
    | (with_reducible apply z_lt; (case ha => repeat (with_reducible first | exact zv_l _ | exact zv_r | apply zv_neg)); (case hb => repeat (with_reducible first | exact zv_l _ | exact zv_r | apply zv_neg)); (case hx => omega); (case hy => omega); all_goals (intro _; try (exfalso; omega)))
    | (with_reducible apply z_le; (case ha => repeat (with_reducible first | exact zv_l _ | exact zv_r | apply zv_neg)); (case hb => repeat (with_reducible first | exact zv_l _ | exact zv_r | apply zv_neg)); (case hx => omega); (case hy => omega); all_goals (intro _; try (exfalso; omega)))
    | (with_reducible apply z_eq; (case ha => repeat (with_reducible first | exact zv_l _ | exact zv_r | apply zv_neg)); (case hb => repeat (with_reducible first | exact zv_l _ | exact zv_r | apply zv_neg)); (case hx => omega); (case hy => omega); all_goals (intro _; try (exfalso; omega)))))
  exact ⟨_, _, rfl, rfl, rfl⟩
theorem z_7isDigit {m : zMe} {e : Int32} {x : Int} (e1 : e = zI x) (r1 : -2147483648 ≤ x ∧ x < 2147483648) {α : Type} {kf : Int32 × Hp → Option (α × Hp)} {Q : α → zMe → Prop} (K : zOk (kf (zI (zB (48 ≤ x ∧ x ≤ 57)), zM (m))) Q) : zOk ((f_X7_isDigit e (zM m)).bind kf) Q := z_b (s_7isDigit e1 r1) K
theorem s7_nx67 {mc m : zMe} {b w c E : Int} (hT : zTr mc m) (hb : 0 ≤ b ∧ b ≤ mc 1 1) (hw : (w = 1 ∧ c = 1) ∨ (w = 0 ∧ c = 2)) (hE : E = zRun (mc 2) (mc 1 1) c 41 b) : zOk (lp f_X7_next_67 600 (50, zI w) (zM (zN2 m b b))) (fun (_ : Unit) m1 => m1 = zNt m b E) := by
  have hs := hT.2.1
  refine z_lp (fun n v m1 => ∃ (p : Int) (q : Nat), v = (50, zI w) ∧ b ≤ p ∧ p ≤ mc 1 1 ∧ mc 1 1 - p < q ∧ n = (mc 1 1 - p).toNat ∧ m1 = zN2 m b p ∧ E = zRun (mc 2) (mc 1 1) c q p) (fun _ _ _ m1 => m1 = zNt m b E) ?_ 600 (mc 1 1 - b).toNat _ _ (by omega) ⟨b, 41, rfl, by omega, by omega, by omega, rfl, rfl, hE⟩
  rintro n v m1 k ⟨p, q, rfl, g0, g1, g2, rfl, rfl, hB⟩ hk
  obtain ⟨q, rfl⟩ : ∃ q', q = q' + 1 := ⟨q - 1, by omega⟩
  have hr := zBy_r hT (p := p) (by omega)
  have h1 := zBy_1 (mc := mc) (p := p)
  have h2 := zBy_2 (mc := mc) (p := p)
  have hu : zRun (mc 2) (mc 1 1) c (q + 1) p = if p < mc 1 1 ∧ zCl (mc 2 p) = c then zRun (mc 2) (mc 1 1) c q (p + 1) else p := rfl
  rw [hu] at hB
  have hstop : ¬ (p < mc 1 1 ∧ zCl (mc 2 p) = c) → zOk (f_X7_next_115 50 (zM (zN2 m b p))) (fun (_ : Unit) m1 => m1 = zNt m b E) := fun hq => by
    unfold f_X7_next_115
    refine z_I (y := p) (by with_unfolding_all rfl) zN2_14 ?_
    (first
    | (with_reducible apply z_I; (case h => first | with_unfolding_all rfl); (case hy => first | ((simp (disch := omega) only [zU_c, zU_e, zU_k, zF_c, zF_i, zF_o, zW_o, zW_i, zC_c, zC_i, zC_o]); rfl) | rfl))
    | (with_reducible apply z_PU; (case he => repeat (with_reducible first | exact zv_l _ | exact zv_r | apply zv_add | apply zv_sub)); (case h => with_reducible first | exact zp_50_12 _ | exact zp_50_14 _))
    | (with_reducible apply z_7byteAt; (case e1 => repeat (with_reducible first | exact zv_l _ | exact zv_r | apply zv_add | apply zv_sub)); (case r1 => first | omega | ((simp (disch := omega) only [zU_c, zU_e, zU_k, zF_c, zF_i, zF_o, zW_o, zW_i, zC_c, zC_i, zC_o]); omega)); (case a1 => assumption))
    | (with_reducible apply z_7isLetter; (case e1 => repeat (with_reducible first | exact zv_l _ | exact zv_r | apply zv_add | apply zv_sub)); (case r1 => first | omega | ((simp (disch := omega) only [zU_c, zU_e, zU_k, zF_c, zF_i, zF_o, zW_o, zW_i, zC_c, zC_i, zC_o]); omega)))
    | (with_reducible apply z_7isDigit; (case e1 => repeat (with_reducible first | exact zv_l _ | exact zv_r | apply zv_add | apply zv_sub)); (case r1 => first | omega | ((simp (disch := omega) only [zU_c, zU_e, zU_k, zF_c, zF_i, zF_o, zW_o, zW_i, zC_c, zC_i, zC_o]); omega))))
    rw [zN2_t]
    refine z_ret ?_
    rw [hB, if_neg hq]
  have hgo : (p < mc 1 1 ∧ zCl (mc 2 p) = c) → zOk (f_X7_next_102 k 50 (zI w) (zM (zN2 m b p))) (fun (_ : Unit) m1 => m1 = zNt m b E) := fun hq => by
    unfold f_X7_next_102
    refine z_I (y := p) (by with_unfolding_all rfl) zN2_14 ?_
    (first
    | (with_reducible apply z_I; (case h => first | with_unfolding_all rfl); (case hy => first | ((simp (disch := omega) only [zU_c, zU_e, zU_k, zF_c, zF_i, zF_o, zW_o, zW_i, zC_c, zC_i, zC_o]); rfl) | rfl))
    | (with_reducible apply z_PU; (case he => repeat (with_reducible first | exact zv_l _ | exact zv_r | apply zv_add | apply zv_sub)); (case h => with_reducible first | exact zp_50_12 _ | exact zp_50_14 _))
    | (with_reducible apply z_7byteAt; (case e1 => repeat (with_reducible first | exact zv_l _ | exact zv_r | apply zv_add | apply zv_sub)); (case r1 => first | omega | ((simp (disch := omega) only [zU_c, zU_e, zU_k, zF_c, zF_i, zF_o, zW_o, zW_i, zC_c, zC_i, zC_o]); omega)); (case a1 => assumption))
    | (with_reducible apply z_7isLetter; (case e1 => repeat (with_reducible first | exact zv_l _ | exact zv_r | apply zv_add | apply zv_sub)); (case r1 => first | omega | ((simp (disch := omega) only [zU_c, zU_e, zU_k, zF_c, zF_i, zF_o, zW_o, zW_i, zC_c, zC_i, zC_o]); omega)))
    | (with_reducible apply z_7isDigit; (case e1 => repeat (with_reducible first | exact zv_l _ | exact zv_r | apply zv_add | apply zv_sub)); (case r1 => first | omega | ((simp (disch := omega) only [zU_c, zU_e, zU_k, zF_c, zF_i, zF_o, zW_o, zW_i, zC_c, zC_i, zC_o]); omega))))
    rw [zN2_s]
    refine hk _ _ _ (by omega) ⟨p + 1, q, rfl, by omega, by omega, by omega, rfl, rfl, ?_⟩
    rw [hB, if_pos hq]
  unfold f_X7_next_67
  dsimp only
  refine z_eq (x := w) (y := 0) rfl rfl (by omega) (by omega) (fun hw0 => ?_) (fun hw0 => ?_)
  · have hc : c = 2 := by omega
    refine z_I (y := p) (by with_unfolding_all rfl) zN2_14 ?_
    refine z_7byteAt rfl (by omega) (zTr_N2 hT) ?_
    refine z_7isDigit rfl (by omega) ?_
    refine z_B (fun h => ?_) (fun h => ?_)
    · exact hstop (fun z => h (h2.mpr ⟨z.1, by rw [z.2, hc]⟩))
    · exact hgo ⟨(h2.mp h).1, by rw [(h2.mp h).2, hc]⟩
  · have hc : c = 1 := by omega
    refine z_I (y := p) (by with_unfolding_all rfl) zN2_14 ?_
    refine z_7byteAt rfl (by omega) (zTr_N2 hT) ?_
    refine z_7isLetter rfl (by omega) ?_
    refine z_B (fun h => ?_) (fun h => ?_)
    · exact hstop (fun z => h (h1.mpr ⟨z.1, by rw [z.2, hc]⟩))
    · exact hgo ⟨(h1.mp h).1, by rw [(h1.mp h).2, hc]⟩
theorem zTe_E {f : Int → Int} {sz p B : Int} (hB : B = zTb f sz p) (h0 : 0 ≤ B) : zTe f sz p = if B < sz ∧ zCl (f B) = 1 then zRun f sz 1 41 B else zRun f sz 2 41 B := by
  have hs : zTs f sz p = if 0 ≤ B ∧ B < sz then zCl (f B) else 0 := by
    rw [hB]
    rfl
  have hcl := zCl_range (f B)
  have hu : zRun f sz 2 41 B = if B < sz ∧ zCl (f B) = 2 then zRun f sz 2 40 (B + 1) else B := rfl
  unfold zTe
  rw [hs, ← hB]
  by_cases hl : B < sz
  · rw [if_pos (show 0 ≤ B ∧ B < sz from ⟨h0, hl⟩)]
    by_cases h1 : zCl (f B) = 1
    · rw [if_pos (Or.inl h1), if_pos ⟨hl, h1⟩, h1]
    · rw [if_neg (show ¬ (B < sz ∧ zCl (f B) = 1) from fun q => h1 q.2)]
      by_cases h2 : zCl (f B) = 2
      · rw [if_pos (Or.inr h2), h2]
      · rw [if_neg (by omega), hu, if_neg (fun q => h2 q.2)]
  · rw [if_neg (show ¬ (0 ≤ B ∧ B < sz) by omega), if_neg (by omega), if_neg (fun q => hl q.1), hu, if_neg (fun q => hl q.1)]
theorem s7_nx0 {mc m : zMe} {p0 : Int} (hT : zTr mc m) (hp : 0 ≤ p0 ∧ p0 ≤ mc 1 1) : zOk (lp f_X7_next_0 600 50 (zM (zU m 50 12 p0))) (fun (_ : Unit) m1 => m1 = zNt m (zTb (mc 2) (mc 1 1) p0) (zTe (mc 2) (mc 1 1) p0)) := by
  have hs := hT.2.1
  have hTE := zTe_E (f := mc 2) (sz := mc 1 1) (p := p0) rfl (by have := zSkip_range (mc 2) (mc 1 1) 41 p0 hp.2; have : p0 ≤ zTb (mc 2) (mc 1 1) p0 := this.1; omega)
  have hTB : zTb (mc 2) (mc 1 1) p0 = zSkip (mc 2) (mc 1 1) 41 p0 := rfl
  generalize zTb (mc 2) (mc 1 1) p0 = B at hTE hTB ⊢
  generalize zTe (mc 2) (mc 1 1) p0 = E at hTE ⊢
  refine z_lp (fun n v m1 => ∃ (p : Int) (q : Nat), v = 50 ∧ p0 ≤ p ∧ p ≤ mc 1 1 ∧ mc 1 1 - p < q ∧ n = (mc 1 1 - p).toNat ∧ m1 = zU m 50 12 p ∧ B = zSkip (mc 2) (mc 1 1) q p) (fun _ _ _ m1 => m1 = zNt m B E) ?_ 600 (mc 1 1 - p0).toNat _ _ (by omega) ⟨p0, 41, rfl, by omega, by omega, by omega, rfl, rfl, hTB⟩
  rintro n v m1 k ⟨p, q, rfl, g0, g1, g2, rfl, rfl, hB⟩ hk
  obtain ⟨q, rfl⟩ : ∃ q', q = q' + 1 := ⟨q - 1, by omega⟩
  have hr := zBy_r hT (p := p) (by omega)
  have hb := zBy_b (mc := mc) (p := p)
  have hT1 : zTr mc (zU m 50 12 p) := zTr_U hT (by omega)
  have hu : zSkip (mc 2) (mc 1 1) (q + 1) p = if p < mc 1 1 ∧ (mc 2 p = 32 ∨ mc 2 p = 10) then zSkip (mc 2) (mc 1 1) q (p + 1) else p := rfl
  rw [hu] at hB
  have hgo : (p < mc 1 1 ∧ (mc 2 p = 32 ∨ mc 2 p = 10)) → zOk (f_X7_next_26 k 50 (zM (zU m 50 12 p))) (fun (_ : Unit) m1 => m1 = zNt m B E) := fun hq => by
    unfold f_X7_next_26
    refine z_I (y := p) (by with_unfolding_all rfl) zU_e ?_
    (first
    | (with_reducible apply z_I; (case h => first | with_unfolding_all rfl); (case hy => first | ((simp (disch := omega) only [zU_c, zU_e, zU_k, zF_c, zF_i, zF_o, zW_o, zW_i, zC_c, zC_i, zC_o]); rfl) | rfl))
    | (with_reducible apply z_PU; (case he => repeat (with_reducible first | exact zv_l _ | exact zv_r | apply zv_add | apply zv_sub)); (case h => with_reducible first | exact zp_50_12 _ | exact zp_50_13 _ | exact zp_50_14 _))
    | (with_reducible apply z_7byteAt; (case e1 => repeat (with_reducible first | exact zv_l _ | exact zv_r | apply zv_add | apply zv_sub)); (case r1 => first | omega | ((simp (disch := omega) only [zU_c, zU_e, zU_k, zF_c, zF_i, zF_o, zW_o, zW_i, zC_c, zC_i, zC_o]); omega)); (case a1 => assumption))
    | (with_reducible apply z_7isLetter; (case e1 => repeat (with_reducible first | exact zv_l _ | exact zv_r | apply zv_add | apply zv_sub)); (case r1 => first | omega | ((simp (disch := omega) only [zU_c, zU_e, zU_k, zF_c, zF_i, zF_o, zW_o, zW_i, zC_c, zC_i, zC_o]); omega))))
    rw [zU_U]
    refine hk _ _ _ (by omega) ⟨p + 1, q, rfl, by omega, by omega, by omega, rfl, rfl, ?_⟩
    rw [hB, if_pos hq]
  unfold f_X7_next_0
  dsimp only
  refine z_I (y := p) (by with_unfolding_all rfl) zU_e ?_
  refine z_7byteAt rfl (by omega) hT1 ?_
  refine z_eq (x := zBy mc p) (y := 32) rfl rfl (by omega) (by omega) (fun h => ?_) (fun h => ?_)
  · exact hgo (hb.mp (Or.inl h))
  · refine z_I (y := p) (by with_unfolding_all rfl) zU_e ?_
    refine z_7byteAt rfl (by omega) hT1 ?_
    refine z_eq (x := zBy mc p) (y := 10) rfl rfl (by omega) (by omega) (fun h2 => ?_) (fun h2 => ?_)
    · exact hgo (hb.mp (Or.inr h2))
    · rw [if_neg (fun w => by have := hb.mpr w; omega)] at hB
      subst hB
      refine z_I (y := B) (by with_unfolding_all rfl) zU_e ?_
      (first
    | (with_reducible apply z_I; (case h => first | with_unfolding_all rfl); (case hy => first | ((simp (disch := omega) only [zU_c, zU_e, zU_k, zF_c, zF_i, zF_o, zW_o, zW_i, zC_c, zC_i, zC_o]); rfl) | rfl))
    | (with_reducible apply z_PU; (case he => repeat (with_reducible first | exact zv_l _ | exact zv_r | apply zv_add | apply zv_sub)); (case h => with_reducible first | exact zp_50_12 _ | exact zp_50_13 _ | exact zp_50_14 _))
    | (with_reducible apply z_7byteAt; (case e1 => repeat (with_reducible first | exact zv_l _ | exact zv_r | apply zv_add | apply zv_sub)); (case r1 => first | omega | ((simp (disch := omega) only [zU_c, zU_e, zU_k, zF_c, zF_i, zF_o, zW_o, zW_i, zC_c, zC_i, zC_o]); omega)); (case a1 => assumption))
    | (with_reducible apply z_7isLetter; (case e1 => repeat (with_reducible first | exact zv_l _ | exact zv_r | apply zv_add | apply zv_sub)); (case r1 => first | omega | ((simp (disch := omega) only [zU_c, zU_e, zU_k, zF_c, zF_i, zF_o, zW_o, zW_i, zC_c, zC_i, zC_o]); omega))))
      refine z_I (y := B) (by with_unfolding_all rfl) (by rw [zU_k (by omega), zU_e]) ?_
      (first
    | (with_reducible apply z_I; (case h => first | with_unfolding_all rfl); (case hy => first | ((simp (disch := omega) only [zU_c, zU_e, zU_k, zF_c, zF_i, zF_o, zW_o, zW_i, zC_c, zC_i, zC_o]); rfl) | rfl))
    | (with_reducible apply z_PU; (case he => repeat (with_reducible first | exact zv_l _ | exact zv_r | apply zv_add | apply zv_sub)); (case h => with_reducible first | exact zp_50_12 _ | exact zp_50_13 _ | exact zp_50_14 _))
    | (with_reducible apply z_7byteAt; (case e1 => repeat (with_reducible first | exact zv_l _ | exact zv_r | apply zv_add | apply zv_sub)); (case r1 => first | omega | ((simp (disch := omega) only [zU_c, zU_e, zU_k, zF_c, zF_i, zF_o, zW_o, zW_i, zC_c, zC_i, zC_o]); omega)); (case a1 => assumption))
    | (with_reducible apply z_7isLetter; (case e1 => repeat (with_reducible first | exact zv_l _ | exact zv_r | apply zv_add | apply zv_sub)); (case r1 => first | omega | ((simp (disch := omega) only [zU_c, zU_e, zU_k, zF_c, zF_i, zF_o, zW_o, zW_i, zC_c, zC_i, zC_o]); omega))))
      refine z_I (y := B) (by with_unfolding_all rfl) (by rw [zU_k (by omega), zU_k (by omega), zU_e]) ?_
      have hT2 : zTr mc (zN2 m B B) := zTr_N2 hT
      refine z_7byteAt rfl (by omega) hT2 ?_
      refine z_7isLetter rfl (by omega) ?_
      have h1 := zBy_1 (mc := mc) (p := B)
      by_cases hl : B < mc 1 1 ∧ zCl (mc 2 B) = 1
      · rw [zB_p (h1.mpr hl)]
        rw [if_pos hl] at hTE
        exact s7_nx67 hT (by omega) (Or.inl ⟨rfl, rfl⟩) hTE
      · rw [zB_n (fun q => hl (h1.mp q))]
        rw [if_neg hl] at hTE
        exact s7_nx67 hT (by omega) (Or.inr ⟨rfl, rfl⟩) hTE
set_option maxRecDepth 100000 in
set_option maxHeartbeats 1000000 in
theorem s_7next {m : zMe} {mc : zMe} {p : Int} (a1 : zTr mc m) (r1 : 0 ≤ p ∧ p ≤ mc 1 1) (a2 : m 50 12 = p) : f_X7_next 50 (zM m) = some ((), zM (zNt m (zTb (mc 2) (mc 1 1) p) (zTe (mc 2) (mc 1 1) p))) := by
  refine zOk.eq ?_
  unfold f_X7_next
  (first
    | (with_reducible apply z_b_ck; (case h => with_unfolding_all rfl)))
  have h := s7_nx0 (p0 := p) a1 r1
  rw [zU_self a2] at h
  exact h.mono (fun v m1 q => ⟨rfl, q⟩)
theorem z_7next {m : zMe} {mc : zMe} {p : Int} (a1 : zTr mc m) (r1 : 0 ≤ p ∧ p ≤ mc 1 1) (a2 : m 50 12 = p) {α : Type} {kf : Unit × Hp → Option (α × Hp)} {Q : α → zMe → Prop} (K : zOk (kf ((), zM (zNt m (zTb (mc 2) (mc 1 1) p) (zTe (mc 2) (mc 1 1) p)))) Q) : zOk ((f_X7_next 50 (zM m)).bind kf) Q := z_b (s_7next a1 r1 a2) K
/-- the reference behind a token -/
def zNn (mc m : zMe) (k : Nat) : zMe := zNt m (zBg mc k) (zEn mc (k + 1))
theorem s7_step0 {mc m : zMe} (hT : zTr mc m) {α : Type} {f : Unit × Hp → Option (α × Hp)} {Q : α → zMe → Prop} (K : zOk (f ((), zM (zNn mc m 0))) Q) : zOk ((f_X7_next 50 (zM (zU m 50 12 0))).bind f) Q := by
  refine z_7next (mc := mc) (p := 0) (zTr_U hT (by omega)) ⟨by omega, hT.2.1.1⟩ zU_e ?_
  rw [zNt_U]
  exact K
theorem s7_step {mc m : zMe} {k : Nat} (hP : zTp mc) (h3 : mc 1 3 = 0) (hT : zTr mc m) {α : Type} {f : Unit × Hp → Option (α × Hp)} {Q : α → zMe → Prop} (K : zOk (f ((), zM (zNn mc m (k + 1)))) Q) : zOk ((f_X7_next 50 (zM (zNn mc m k))).bind f) Q := by
  have hr := (zTp_r hP h3 k).1
  refine z_7next (mc := mc) (p := zEn mc (k + 1)) (zTr_Nt hT) ⟨by omega, by omega⟩ zNt_12 ?_
  rw [zNt_Nt]
  exact K
/-- what a token is, by its first byte -/
theorem zKd_at {mc : zMe} (hP : zTp mc) (h3 : mc 1 3 = 0) (k : Nat) : zKd mc k = if zBg mc k < mc 1 1 then zCl (mc 2 (zBg mc k)) else 0 := by
  have hr := (zTp_r hP h3 k).1
  have : zKd mc k = zSoF (mc 2) (mc 1 1) (zBg mc k) := rfl
  rw [this]
  unfold zSoF
  by_cases h : zBg mc k < mc 1 1
  · rw [if_pos h, if_pos ⟨hr.1, h⟩]
  · rw [if_neg h, if_neg (fun q => h q.2)]
theorem zKd_len {mc : zMe} (k : Nat) : (zKd mc k = 1 ∨ zKd mc k = 2 → zBg mc k < zEn mc (k + 1)) ∧ (¬ (zKd mc k = 1 ∨ zKd mc k = 2) → zEn mc (k + 1) = zBg mc k) := by
  refine ⟨fun h => zTe_gt h, fun h => ?_⟩
  show zTe (mc 2) (mc 1 1) (zEn mc k) = _
  unfold zTe
  exact if_neg h
theorem s7_isWord {mc m : zMe} {k : Nat} (hP : zTp mc) (h3 : mc 1 3 = 0) (hT : zTr mc m) {α : Type} {f : Int32 × Hp → Option (α × Hp)} {Q : α → zMe → Prop} (K : zOk (f (zI (zB (zKd mc k = 1)), zM (zNn mc m k))) Q) : zOk ((f_X7_isWord 50 (zM (zNn mc m k))).bind f) Q := by
  have hr := (zTp_r hP h3 k).1
  have hkd := zKd_at hP h3 k
  have hln := zKd_len (mc := mc) k
  have hs := hT.2.1
  have hcr := zCl_range (mc 2 (zBg mc k))
  have h1 : (97 ≤ mc 2 (zBg mc k) ∧ mc 2 (zBg mc k) ≤ 122) ↔ zCl (mc 2 (zBg mc k)) = 1 := by
    unfold zCl
    (repeat' split) <;> omega
  refine z_b (x := (zI (zB (zKd mc k = 1)), zM (zNn mc m k))) (zOk.eq ?_) K
  unfold f_X7_isWord
  (first
    | (with_reducible apply z_nm; (case he => repeat (with_reducible first | exact zv_l _ | exact zv_r | apply zv_add)))
    | (with_reducible apply z_b_ck; (case h => with_unfolding_all rfl))
    | (with_reducible apply z_I; (case h => first | with_unfolding_all rfl); (case hy => first | ((simp (disch := omega) only [zU_c, zU_e, zU_k, zF_c, zF_i, zF_o, zW_o, zW_i, zC_c, zC_i, zC_o]); rfl) | rfl))
    | (with_reducible apply z_b_R; (case h => first | with_unfolding_all rfl))
    | (with_reducible apply z_L; (case he => repeat (with_reducible first | exact zv_l _ | exact zv_r | apply zv_add)); (case hn => with_reducible first | assumption | exact zl_2 | exact zl_56); (case h => omega); (case hy => first | ((simp (disch := omega) only [zU_c, zU_e, zU_k, zF_c, zF_i, zF_o, zW_o, zW_i, zC_c, zC_i, zC_o]); rfl) | rfl))
    | (with_reducible apply z_7isLetter; (case e1 => repeat (with_reducible first | exact zv_l _ | exact zv_r | apply zv_add)); (case r1 => first | omega | ((simp (disch := omega) only [zU_c, zU_e, zU_k, zF_c, zF_i, zF_o, zW_o, zW_i, zC_c, zC_i, zC_o]); omega))))
  refine z_I (y := zEn mc (k + 1)) (by with_unfolding_all rfl) zNt_14 ?_
  refine z_I (y := zBg mc k) (by with_unfolding_all rfl) zNt_13 ?_
  (first
    | (with_reducible apply z_B; all_goals (intro _; try (exfalso; omega)))
    | (with_reducible apply z_E; all_goals intro _)
    | (with_reducible apply z_lt; (case ha => repeat (with_reducible first | exact zv_l _ | exact zv_r | apply zv_add)); (case hb => repeat (with_reducible first | exact zv_l _ | exact zv_r | apply zv_add)); (case hx => omega); (case hy => omega); all_goals (intro _; try (exfalso; omega)))
    | (with_reducible apply z_le; (case ha => repeat (with_reducible first | exact zv_l _ | exact zv_r | apply zv_add)); (case hb => repeat (with_reducible first | exact zv_l _ | exact zv_r | apply zv_add)); (case hx => omega); (case hy => omega); all_goals (intro _; try (exfalso; omega)))
    | (with_reducible apply z_eq; (case ha => repeat (with_reducible first | exact zv_l _ | exact zv_r | apply zv_add)); (case hb => repeat (with_reducible first | exact zv_l _ | exact zv_r | apply zv_add)); (case hx => omega); (case hy => omega); all_goals (intro _; try (exfalso; omega))))
  · refine zB_r0 (fun q => ?_)
    have := hln.1 (Or.inl q)
    omega
  · rename_i hlt
    have hlt2 : zKd mc k = 1 ∨ zKd mc k = 2 := by
      by_cases hq : zKd mc k = 1 ∨ zKd mc k = 2
      · exact hq
      · have := hln.2 hq
        omega
    have hb4 := hT.2.2.2 (zBg mc k) hr.1 (by omega)
    rw [if_pos (by omega)] at hkd
    (first
    | (with_reducible apply z_nm; (case he => repeat (with_reducible first | exact zv_l _ | exact zv_r | apply zv_add)))
    | (with_reducible apply z_b_ck; (case h => with_unfolding_all rfl))
    | (with_reducible apply z_I; (case h => first | with_unfolding_all rfl); (case hy => first | ((simp (disch := omega) only [zU_c, zU_e, zU_k, zF_c, zF_i, zF_o, zW_o, zW_i, zC_c, zC_i, zC_o]); rfl) | rfl))
    | (with_reducible apply z_b_R; (case h => first | with_unfolding_all rfl))
    | (with_reducible apply z_L; (case he => repeat (with_reducible first | exact zv_l _ | exact zv_r | apply zv_add)); (case hn => with_reducible first | assumption | exact zl_2 | exact zl_56); (case h => omega); (case hy => first | ((simp (disch := omega) only [zU_c, zU_e, zU_k, zF_c, zF_i, zF_o, zW_o, zW_i, zC_c, zC_i, zC_o]); rfl) | rfl))
    | (with_reducible apply z_7isLetter; (case e1 => repeat (with_reducible first | exact zv_l _ | exact zv_r | apply zv_add)); (case r1 => first | omega | ((simp (disch := omega) only [zU_c, zU_e, zU_k, zF_c, zF_i, zF_o, zW_o, zW_i, zC_c, zC_i, zC_o]); omega))))
    refine z_I (y := zBg mc k) (by with_unfolding_all rfl) zNt_13 ?_
    refine z_L (y := mc 2 (zBg mc k)) rfl zl_56 (by omega) (by unfold zNn; rw [zNt_c (by omega)]; exact hT.2.2.1 _ hr.1 (by omega)) ?_
    refine z_7isLetter rfl (by omega) ?_
    refine z_B (fun h => ?_) (fun h => ?_)
    · exact zB_r0 (fun q => h (h1.mpr (by rw [← hkd]; exact q)))
    · exact zB_r1 (by rw [hkd]; exact h1.mp h)
theorem s7_isOver {mc m : zMe} {k : Nat} (hP : zTp mc) (h3 : mc 1 3 = 0) (hT : zTr mc m) {α : Type} {f : Int32 × Hp → Option (α × Hp)} {Q : α → zMe → Prop} (K : zOk (f (zI (zB (zKd mc (k + 1) = 0)), zM (zNn mc m (k + 1)))) Q) : zOk ((f_X7_isOver 50 (zM (zNn mc m k))).bind f) Q := by
  have hr := (zTp_r hP h3 (k + 1)).1
  have hkd := zKd_at hP h3 (k + 1)
  have hs := hT.2.1
  have hcr := zCl_range (mc 2 (zBg mc (k + 1)))
  refine z_b (x := (zI (zB (zKd mc (k + 1) = 0)), zM (zNn mc m (k + 1)))) (zOk.eq ?_) K
  unfold f_X7_isOver
  (first
    | (with_reducible apply z_nm; (case he => repeat (with_reducible first | exact zv_l _ | exact zv_r | apply zv_add)))
    | (with_reducible apply z_b_ck; (case h => with_unfolding_all rfl))
    | (with_reducible apply z_I; (case h => first | with_unfolding_all rfl); (case hy => first | ((simp (disch := omega) only [zU_c, zU_e, zU_k, zF_c, zF_i, zF_o, zW_o, zW_i, zC_c, zC_i, zC_o]); rfl) | rfl))
    | (with_reducible apply z_7next; (case a1 => assumption); (case r1 => first | omega | ((simp (disch := omega) only [zU_c, zU_e, zU_k, zF_c, zF_i, zF_o, zW_o, zW_i, zC_c, zC_i, zC_o]); omega)); (case a2 => assumption)))
  refine s7_step hP h3 hT ?_
  refine z_I (y := zBg mc (k + 1)) (by with_unfolding_all rfl) zNt_13 ?_
  refine z_I (y := mc 1 1) (by with_unfolding_all rfl) (by unfold zNn; rw [zNt_j (by omega)]; exact hT.1) ?_
  (first
    | (with_reducible apply z_B; all_goals (intro _; try (exfalso; omega)))
    | (with_reducible apply z_E; all_goals intro _)
    | (with_reducible apply z_lt; (case ha => repeat (with_reducible first | exact zv_l _ | exact zv_r | apply zv_add)); (case hb => repeat (with_reducible first | exact zv_l _ | exact zv_r | apply zv_add)); (case hx => omega); (case hy => omega); all_goals (intro _; try (exfalso; omega)))
    | (with_reducible apply z_le; (case ha => repeat (with_reducible first | exact zv_l _ | exact zv_r | apply zv_add)); (case hb => repeat (with_reducible first | exact zv_l _ | exact zv_r | apply zv_add)); (case hx => omega); (case hy => omega); all_goals (intro _; try (exfalso; omega)))
    | (with_reducible apply z_eq; (case ha => repeat (with_reducible first | exact zv_l _ | exact zv_r | apply zv_add)); (case hb => repeat (with_reducible first | exact zv_l _ | exact zv_r | apply zv_add)); (case hx => omega); (case hy => omega); all_goals (intro _; try (exfalso; omega))))
  · refine zB_r1 ?_
    rw [hkd, if_neg (by omega)]
  · refine zB_r0 (fun q => ?_)
    rw [hkd, if_pos (by omega)] at q
    omega
theorem s7_fault {mc m : zMe} {k : Nat} (hP : zTp mc) (h3 : mc 1 3 = 0) {α : Type} {f : Int32 × Hp → Option (α × Hp)} {Q : α → zMe → Prop} (K : zOk (f (zI (-100 - zBg mc k), zM (zU (zNn mc m k) 50 11 0))) Q) : zOk ((f_X7_faults 50 (zM (zNn mc m k))).bind f) Q := by
  have hr := (zTp_r hP h3 k).1
  refine z_b (x := (zI (-100 - zBg mc k), zM (zU (zNn mc m k) 50 11 0))) (zOk.eq ?_) K
  unfold f_X7_faults
  (first
    | (with_reducible apply z_b_ck; (case h => with_unfolding_all rfl))
    | (with_reducible apply z_I; (case h => first | with_unfolding_all rfl); (case hy => first | ((simp (disch := omega) only [zU_c, zU_e, zU_k, zF_c, zF_i, zF_o, zW_o, zW_i, zC_c, zC_i, zC_o]); rfl) | rfl))
    | (with_reducible apply z_PU; (case he => repeat (with_reducible first | exact zv_l _ | exact zv_r | apply zv_sub | apply zv_neg)); (case h => with_reducible first | exact zp_50_11 _)))
  refine z_I (y := zBg mc k) (by with_unfolding_all rfl) zNt_13 ?_
  repeat' (first
    | (with_reducible apply z_b_ck; (case h => with_unfolding_all rfl))
    | (with_reducible apply z_I; (case h => first | with_unfolding_all rfl); (case hy => first | ((simp (disch := omega) only [zU_c, zU_e, zU_k, zF_c, zF_i, zF_o, zW_o, zW_i, zC_c, zC_i, zC_o]); rfl) | rfl))
    | (with_reducible apply z_PU; (case he => repeat (with_reducible first | exact zv_l _ | exact zv_r | apply zv_sub | apply zv_neg)); (case h => with_reducible first | exact zp_50_11 _)))
  (first | (with_reducible apply z_reti; (case he => repeat (with_reducible first | exact zv_l _ | exact zv_r | apply zv_sub | apply zv_neg))) | with_reducible refine z_ret ?_)
  exact ⟨rfl, rfl⟩
/-- all bytes of a word are letters -/
theorem zRun_all {f : Int → Int} {sz c : Int} (n : Nat) (p j : Int) (h0 : p ≤ j) (h1 : j < zRun f sz c n p) : zCl (f j) = c := by
  induction n generalizing p with
  | zero =>
    have : zRun f sz c 0 p = p := rfl
    omega
  | succ n ih =>
    have hu : zRun f sz c (n + 1) p = if p < sz ∧ zCl (f p) = c then zRun f sz c n (p + 1) else p := rfl
    rw [hu] at h1
    by_cases hq : p < sz ∧ zCl (f p) = c
    · rw [if_pos hq] at h1
      by_cases hj : j = p
      · rw [hj]
        exact hq.2
      · exact ih (p + 1) (by omega) h1
    · rw [if_neg hq] at h1
      omega
theorem zKd_all {mc : zMe} {k : Nat} (h : zKd mc k = 1) {j : Int} (h0 : zBg mc k ≤ j) (h1 : j < zEn mc (k + 1)) : 97 ≤ mc 2 j ∧ mc 2 j ≤ 122 := by
  have e : zEn mc (k + 1) = zRun (mc 2) (mc 1 1) 1 41 (zBg mc k) := by
    show zTe (mc 2) (mc 1 1) (zEn mc k) = _
    have h2 : zTs (mc 2) (mc 1 1) (zEn mc k) = 1 := h
    unfold zTe
    rw [h2, if_pos (Or.inl rfl)]
    rfl
  rw [e] at h1
  have hc := zRun_all 41 (zBg mc k) j h0 h1
  unfold zCl at hc
  split at hc
  · assumption
  · split at hc <;> omega
set_option maxRecDepth 100000 in
theorem zky_tab : ∀ x : Nat, x < 5 → ∀ c : Nat, c < 5 → zM0 57 ((5 * x + c : Nat) : Int) = if c < lenK x then (chK x c).toInt else 32 := by decide +kernel
set_option maxRecDepth 100000 in
theorem zky_let : ∀ x : Nat, x < 5 → ∀ c : Nat, c < lenK x → 97 ≤ (chK x c).toInt ∧ (chK x c).toInt ≤ 122 := by decide +kernel
