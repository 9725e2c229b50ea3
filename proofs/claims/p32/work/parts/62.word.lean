/-! Tape: words, names, numbers -/
def chI (x : Nat) (i : Int) : Int := (chK x i.toNat).toInt
set_option maxRecDepth 100000 in
theorem chI_tab : ∀ x, x < 5 → ∀ i, i < 5 → 0 ≤ (chK x i).toInt ∧ (chK x i).toInt ≤ 255 := by decide +kernel
theorem lenK_r : ∀ x, x < 5 → 3 ≤ lenK x ∧ lenK x ≤ 5 := by decide
theorem chI_r {x : Nat} {i : Int} (hx : x < 5) (hi : 0 ≤ i ∧ i < 5) : 0 ≤ chI x i ∧ chI x i ≤ 255 := chI_tab x hx i.toNat (by omega)
theorem z_len {m : zMe} {x : Nat} {α : Type} {kf : Int32 × Hp → Option (α × Hp)} {Q : α → zMe → Prop} (r1 : x < 5) (K : zOk (kf (zI (lenK x : Nat), zM m)) Q) : zOk ((fS_length (1010 + x) (zM m)).bind kf) Q := by
  refine z_b ?_ K
  unfold fS_length
  rw [if_pos (by omega), show 1010 + x - 1010 = x from by omega, zI_ofNat]
theorem z_chr {m : zMe} {x : Nat} {e : Int32} {i : Int} {α : Type} {kf : Int32 × Hp → Option (α × Hp)} {Q : α → zMe → Prop} (e1 : e = zI i) (r1 : x < 5) (r2 : 0 ≤ i ∧ i < lenK x) (K : zOk (kf (zI (chI x i), zM m)) Q) : zOk ((fS_charAt (1010 + x) e (zM m)).bind kf) Q := by
  subst e1
  have h5 := lenK_r x r1
  refine z_b ?_ K
  unfold fS_charAt
  rw [if_pos, show 1010 + x - 1010 = x from by omega, zI_nat r2.1 (by omega)]
  · unfold chI
    rw [← zI_self]
  · refine ⟨by omega, zI_nn r2.1 (by omega), ?_⟩
    rw [zI_nat r2.1 (by omega), show 1010 + x - 1010 = x from by omega]
    omega
/-- these bytes are the word x -/
def zWd (f : Int → Int) (x : Nat) (b e : Int) : Prop := e - b = lenK x ∧ ∀ i : Int, 0 ≤ i → i < lenK x → f (b + i) = chI x i
theorem s4_is_l {m : zMe} {x : Nat} (hx : x < 5) (hb : 0 ≤ m 1 2) (he : m 1 3 ≤ 40) (hl : m 1 3 - m 1 2 = lenK x) (a1 : ∀ j, 0 ≤ j → j < 40 → 0 ≤ m 2 j ∧ m 2 j ≤ 255) (h1 : m 1 4 = 1) : zOk (lp f_X4_is_28 600 (1, 1010 + x, zI 0) (zM m)) (fun v m1 => v = zI (zE (m 1 4 = 1 ∧ zWd (m 2) x (m 1 2) (m 1 3))) ∧ m1 = m) := by
  have h5 := lenK_r x hx
  refine z_lp (fun n v m1 => ∃ i : Int, v = (1, 1010 + x, zI i) ∧ 0 ≤ i ∧ i ≤ lenK x ∧ n = (lenK x - i).toNat ∧ m1 = m ∧ ∀ k, 0 ≤ k → k < i → m 2 (m 1 2 + k) = chI x k) (fun _ _ v m1 => v = zI (zE (m 1 4 = 1 ∧ zWd (m 2) x (m 1 2) (m 1 3))) ∧ m1 = m) ?_ 600 (lenK x) _ m (by omega) ⟨0, rfl, by omega, by omega, by omega, rfl, fun k h0 h1 => by exfalso; omega⟩
  rintro n v m1 k ⟨i, rfl, h0, hi, rfl, rfl, hw⟩ hk
  have g1 := a1 (m1 1 2 + i)
  unfold f_X4_is_28
  dsimp only
  (first
    | (with_reducible apply z_nm; (case he => repeat (with_reducible first | exact zv_l _ | exact zv_r | apply zv_add | apply zv_sub)))
    | (with_reducible apply z_I; (case h => first | with_unfolding_all rfl); (case hy => first | ((simp (disch := omega) only [zU_c, zU_e, zU_k, zF_c, zF_i, zF_o, zW_o, zW_i, zC_c, zC_i, zC_o]); rfl) | rfl))
    | (with_reducible apply z_b_R; (case h => first | with_unfolding_all rfl))
    | (with_reducible apply z_L; (case he => repeat (with_reducible first | exact zv_l _ | exact zv_r | apply zv_add | apply zv_sub)); (case hn => with_reducible first | assumption | exact zl_2 | exact zl_4 | exact zl_5 | exact zl_40); (case h => omega); (case hy => first | ((simp (disch := omega) only [zU_c, zU_e, zU_k, zF_c, zF_i, zF_o, zW_o, zW_i, zC_c, zC_i, zC_o]); rfl) | rfl))
    | (with_reducible apply z_len; (case r1 => first | omega | ((simp (disch := omega) only [zU_c, zU_e, zU_k, zF_c, zF_i, zF_o, zW_o, zW_i, zC_c, zC_i, zC_o]); omega)))
    | (with_reducible apply z_chr; (case e1 => repeat (with_reducible first | exact zv_l _ | exact zv_r | apply zv_add | apply zv_sub)); (case r1 => first | omega | ((simp (disch := omega) only [zU_c, zU_e, zU_k, zF_c, zF_i, zF_o, zW_o, zW_i, zC_c, zC_i, zC_o]); omega)); (case r2 => first | omega | ((simp (disch := omega) only [zU_c, zU_e, zU_k, zF_c, zF_i, zF_o, zW_o, zW_i, zC_c, zC_i, zC_o]); omega))))
  (first
    | (with_reducible apply z_B; all_goals (intro _; try (exfalso; omega)))
    | (with_reducible apply z_E; all_goals intro _)
    | (with_reducible apply z_lt; (case ha => repeat (with_reducible first | exact zv_l _ | exact zv_r | apply zv_add | apply zv_sub)); (case hb => repeat (with_reducible first | exact zv_l _ | exact zv_r | apply zv_add | apply zv_sub)); (case hx => omega); (case hy => omega); all_goals (intro _; try (exfalso; omega)))
    | (with_reducible apply z_le; (case ha => repeat (with_reducible first | exact zv_l _ | exact zv_r | apply zv_add | apply zv_sub)); (case hb => repeat (with_reducible first | exact zv_l _ | exact zv_r | apply zv_add | apply zv_sub)); (case hx => omega); (case hy => omega); all_goals (intro _; try (exfalso; omega)))
    | (with_reducible apply z_eq; (case ha => repeat (with_reducible first | exact zv_l _ | exact zv_r | apply zv_add | apply zv_sub)); (case hb => repeat (with_reducible first | exact zv_l _ | exact zv_r | apply zv_add | apply zv_sub)); (case hx => omega); (case hy => omega); all_goals (intro _; try (exfalso; omega))))
  · exact zE_r1 ⟨h1, hl, fun k q0 q1 => hw k q0 (by omega)⟩
  · have g1 := g1 (by omega) (by omega)
    have g2 := chI_r hx (i := i) (by omega)
    repeat' (first | (first
    | (with_reducible apply z_nm; (case he => repeat (with_reducible first | exact zv_l _ | exact zv_r | apply zv_add | apply zv_sub)))
    | (with_reducible apply z_I; (case h => first | with_unfolding_all rfl); (case hy => first | ((simp (disch := omega) only [zU_c, zU_e, zU_k, zF_c, zF_i, zF_o, zW_o, zW_i, zC_c, zC_i, zC_o]); rfl) | rfl))
    | (with_reducible apply z_b_R; (case h => first | with_unfolding_all rfl))
    | (with_reducible apply z_L; (case he => repeat (with_reducible first | exact zv_l _ | exact zv_r | apply zv_add | apply zv_sub)); (case hn => with_reducible first | assumption | exact zl_2 | exact zl_4 | exact zl_5 | exact zl_40); (case h => omega); (case hy => first | ((simp (disch := omega) only [zU_c, zU_e, zU_k, zF_c, zF_i, zF_o, zW_o, zW_i, zC_c, zC_i, zC_o]); rfl) | rfl))
    | (with_reducible apply z_len; (case r1 => first | omega | ((simp (disch := omega) only [zU_c, zU_e, zU_k, zF_c, zF_i, zF_o, zW_o, zW_i, zC_c, zC_i, zC_o]); omega)))
    | (with_reducible apply z_chr; (case e1 => repeat (with_reducible first | exact zv_l _ | exact zv_r | apply zv_add | apply zv_sub)); (case r1 => first | omega | ((simp (disch := omega) only [zU_c, zU_e, zU_k, zF_c, zF_i, zF_o, zW_o, zW_i, zC_c, zC_i, zC_o]); omega)); (case r2 => first | omega | ((simp (disch := omega) only [zU_c, zU_e, zU_k, zF_c, zF_i, zF_o, zW_o, zW_i, zC_c, zC_i, zC_o]); omega)))) | (first
    | (with_reducible apply z_B; all_goals (intro _; try (exfalso; omega)))
    | (with_reducible apply z_E; all_goals intro _)
    | (with_reducible apply z_lt; (case ha => repeat (with_reducible first | exact zv_l _ | exact zv_r | apply zv_add | apply zv_sub)); (case hb => repeat (with_reducible first | exact zv_l _ | exact zv_r | apply zv_add | apply zv_sub)); (case hx => omega); (case hy => omega); all_goals (intro _; try (exfalso; omega)))
    | (with_reducible apply z_le; (case ha => repeat (with_reducible first | exact zv_l _ | exact zv_r | apply zv_add | apply zv_sub)); (case hb => repeat (with_reducible first | exact zv_l _ | exact zv_r | apply zv_add | apply zv_sub)); (case hx => omega); (case hy => omega); all_goals (intro _; try (exfalso; omega)))
    | (with_reducible apply z_eq; (case ha => repeat (with_reducible first | exact zv_l _ | exact zv_r | apply zv_add | apply zv_sub)); (case hb => repeat (with_reducible first | exact zv_l _ | exact zv_r | apply zv_add | apply zv_sub)); (case hx => omega); (case hy => omega); all_goals (intro _; try (exfalso; omega)))))
    · refine hk _ _ _ (by omega) ⟨i + 1, rfl, by omega, by omega, rfl, rfl, fun k q0 q1 => ?_⟩
      by_cases hj : k = i
      · subst hj
        assumption
      · exact hw k q0 (by omega)
    · refine zE_r0 (fun h => ?_)
      have := h.2.2 i h0 (by omega)
      contradiction
set_option maxRecDepth 100000 in
set_option maxHeartbeats 1000000 in
theorem s_4is {m : zMe} {x : Nat} (r1 : x < 5) (r2 : 0 ≤ m 1 2 ∧ m 1 2 ≤ m 1 3 ∧ m 1 3 ≤ 40) (r3 : 0 ≤ m 1 4 ∧ m 1 4 ≤ 3) (a1 : ∀ j, 0 ≤ j → j < 40 → 0 ≤ m 2 j ∧ m 2 j ≤ 255) : f_X4_is 1 (1010 + x) (zM m) = some (zI (zE (m 1 4 = 1 ∧ zWd (m 2) x (m 1 2) (m 1 3))), zM (m)) := by
  have h5 := lenK_r x r1
  refine zOk.eq ?_
  unfold f_X4_is
  repeat' (first | (first
    | (with_reducible apply z_nm; (case he => repeat (with_reducible first | exact zv_l _ | exact zv_r | apply zv_add | apply zv_sub)))
    | (with_reducible apply z_b_ck; (case h => with_unfolding_all rfl))
    | (with_reducible apply z_I; (case h => first | with_unfolding_all rfl); (case hy => first | ((simp (disch := omega) only [zU_c, zU_e, zU_k, zF_c, zF_i, zF_o, zW_o, zW_i, zC_c, zC_i, zC_o]); rfl) | rfl))
    | (with_reducible apply z_len; (case r1 => first | omega | ((simp (disch := omega) only [zU_c, zU_e, zU_k, zF_c, zF_i, zF_o, zW_o, zW_i, zC_c, zC_i, zC_o]); omega)))) | (first
    | (with_reducible apply z_B; all_goals (intro _; try (exfalso; omega)))
    | (with_reducible apply z_E; all_goals intro _)
    | (with_reducible apply z_lt; (case ha => repeat (with_reducible first | exact zv_l _ | exact zv_r | apply zv_add | apply zv_sub)); (case hb => repeat (with_reducible first | exact zv_l _ | exact zv_r | apply zv_add | apply zv_sub)); (case hx => omega); (case hy => omega); all_goals (intro _; try (exfalso; omega)))
    | (with_reducible apply z_le; (case ha => repeat (with_reducible first | exact zv_l _ | exact zv_r | apply zv_add | apply zv_sub)); (case hb => repeat (with_reducible first | exact zv_l _ | exact zv_r | apply zv_add | apply zv_sub)); (case hx => omega); (case hy => omega); all_goals (intro _; try (exfalso; omega)))
    | (with_reducible apply z_eq; (case ha => repeat (with_reducible first | exact zv_l _ | exact zv_r | apply zv_add | apply zv_sub)); (case hb => repeat (with_reducible first | exact zv_l _ | exact zv_r | apply zv_add | apply zv_sub)); (case hx => omega); (case hy => omega); all_goals (intro _; try (exfalso; omega)))))
  · exact s4_is_l r1 r2.1 r2.2.2 (by assumption) a1 (by assumption)
  · refine zE_r0 (fun h => ?_)
    have := h.2.1
    contradiction
  · refine zE_r0 (fun h => ?_)
    have := h.1
    contradiction
theorem z_4is {m : zMe} {x : Nat} (r1 : x < 5) (r2 : 0 ≤ m 1 2 ∧ m 1 2 ≤ m 1 3 ∧ m 1 3 ≤ 40) (r3 : 0 ≤ m 1 4 ∧ m 1 4 ≤ 3) (a1 : ∀ j, 0 ≤ j → j < 40 → 0 ≤ m 2 j ∧ m 2 j ≤ 255) {α : Type} {kf : Int32 × Hp → Option (α × Hp)} {Q : α → zMe → Prop} (K : zOk (kf (zI (zE (m 1 4 = 1 ∧ zWd (m 2) x (m 1 2) (m 1 3))), zM (m))) Q) : zOk ((f_X4_is 1 (1010 + x) (zM m)).bind kf) Q := z_b (s_4is r1 r2 r3 a1) K
/-- these bytes are a name: a word of 6 at most, none of the five -/
def zNa (f : Int → Int) (s b e : Int) : Prop := s = 1 ∧ e - b ≤ 6 ∧ ∀ x, x < 5 → ¬ zWd f x b e
set_option maxRecDepth 100000 in
set_option maxHeartbeats 1000000 in
theorem s_4isName {m : zMe} (r2 : 0 ≤ m 1 2 ∧ m 1 2 ≤ m 1 3 ∧ m 1 3 ≤ 40) (r3 : 0 ≤ m 1 4 ∧ m 1 4 ≤ 3) (a1 : ∀ j, 0 ≤ j → j < 40 → 0 ≤ m 2 j ∧ m 2 j ≤ 255) : f_X4_isName 1 (zM m) = some (zI (zE (zNa (m 2) (m 1 4) (m 1 2) (m 1 3))), zM (m)) := by
  refine zOk.eq ?_
  unfold f_X4_isName
  repeat' (first | (first
    | (with_reducible apply z_nm; (case he => repeat (with_reducible first | exact zv_l _ | exact zv_r | apply zv_add | apply zv_sub)))
    | (with_reducible apply z_b_ck; (case h => with_unfolding_all rfl))
    | (with_reducible apply z_I; (case h => first | with_unfolding_all rfl); (case hy => first | ((simp (disch := omega) only [zU_c, zU_e, zU_k, zF_c, zF_i, zF_o, zW_o, zW_i, zC_c, zC_i, zC_o]); rfl) | rfl))
    | (with_reducible apply z_4is; (case r1 => first | omega | ((simp (disch := omega) only [zU_c, zU_e, zU_k, zF_c, zF_i, zF_o, zW_o, zW_i, zC_c, zC_i, zC_o]); omega)); (case r2 => first | omega | ((simp (disch := omega) only [zU_c, zU_e, zU_k, zF_c, zF_i, zF_o, zW_o, zW_i, zC_c, zC_i, zC_o]); omega)); (case r3 => first | omega | ((simp (disch := omega) only [zU_c, zU_e, zU_k, zF_c, zF_i, zF_o, zW_o, zW_i, zC_c, zC_i, zC_o]); omega)); (case a1 => assumption))) | (first
    | (with_reducible apply z_B; all_goals (intro _; try (exfalso; omega)))
    | (with_reducible apply z_E; all_goals intro _)
    | (with_reducible apply z_lt; (case ha => repeat (with_reducible first | exact zv_l _ | exact zv_r | apply zv_add | apply zv_sub)); (case hb => repeat (with_reducible first | exact zv_l _ | exact zv_r | apply zv_add | apply zv_sub)); (case hx => omega); (case hy => omega); all_goals (intro _; try (exfalso; omega)))
    | (with_reducible apply z_le; (case ha => repeat (with_reducible first | exact zv_l _ | exact zv_r | apply zv_add | apply zv_sub)); (case hb => repeat (with_reducible first | exact zv_l _ | exact zv_r | apply zv_add | apply zv_sub)); (case hx => omega); (case hy => omega); all_goals (intro _; try (exfalso; omega)))
    | (with_reducible apply z_eq; (case ha => repeat (with_reducible first | exact zv_l _ | exact zv_r | apply zv_add | apply zv_sub)); (case hb => repeat (with_reducible first | exact zv_l _ | exact zv_r | apply zv_add | apply zv_sub)); (case hx => omega); (case hy => omega); all_goals (intro _; try (exfalso; omega)))))
  · rename_i h h6 n0 n1 n2 n3 n4
    refine zE_r1 ⟨h, h6, fun x hx hw => ?_⟩
    match x, hx with
    | 0, _ => exact n0 ⟨h, hw⟩
    | 1, _ => exact n1 ⟨h, hw⟩
    | 2, _ => exact n2 ⟨h, hw⟩
    | 3, _ => exact n3 ⟨h, hw⟩
    | 4, _ => exact n4 ⟨h, hw⟩
    | x + 5, hx => exact absurd hx (by omega)
  · rename_i y
    exact zE_r0 (fun h => h.2.2 4 (by omega) y.2)
  · rename_i y
    exact zE_r0 (fun h => h.2.2 3 (by omega) y.2)
  · rename_i y
    exact zE_r0 (fun h => h.2.2 2 (by omega) y.2)
  · rename_i y
    exact zE_r0 (fun h => h.2.2 1 (by omega) y.2)
  · rename_i y
    exact zE_r0 (fun h => h.2.2 0 (by omega) y.2)
  · rename_i y
    exact zE_r0 (fun h => y h.2.1)
  · rename_i y
    exact zE_r0 (fun h => y h.1)
theorem z_4isName {m : zMe} (r2 : 0 ≤ m 1 2 ∧ m 1 2 ≤ m 1 3 ∧ m 1 3 ≤ 40) (r3 : 0 ≤ m 1 4 ∧ m 1 4 ≤ 3) (a1 : ∀ j, 0 ≤ j → j < 40 → 0 ≤ m 2 j ∧ m 2 j ≤ 255) {α : Type} {kf : Int32 × Hp → Option (α × Hp)} {Q : α → zMe → Prop} (K : zOk (kf (zI (zE (zNa (m 2) (m 1 4) (m 1 2) (m 1 3))), zM (m))) Q) : zOk ((f_X4_isName 1 (zM m)).bind kf) Q := z_b (s_4isName r2 r3 a1) K
/-- what digits tell -/
def zDg (f : Int → Int) : Nat → Int → Int → Int
  | 0, _, v => v
  | n + 1, p, v => zDg f n (p + 1) (v * 10 + f p - 48)
/-- a number of two digits at most, within these; -1 -/
def zNu (f : Int → Int) (s b e lo hi : Int) : Int := if s = 2 ∧ e - b ≤ 2 then (if lo ≤ zDg f (e - b).toNat b 0 ∧ zDg f (e - b).toNat b 0 ≤ hi then zDg f (e - b).toNat b 0 else -1) else -1
theorem zDg_r {f : Int → Int} (h : ∀ j, 0 ≤ j → j < 40 → 0 ≤ f j ∧ f j ≤ 255) (n : Nat) (hn : n ≤ 2) (p v : Int) (hp : 0 ≤ p ∧ p + n ≤ 40) (hv : -100000 ≤ v ∧ v ≤ 100000) : -100000000 ≤ zDg f n p v ∧ zDg f n p v ≤ 100000000 := by
  match n, hn with
  | 0, _ => exact ⟨by unfold zDg; omega, by unfold zDg; omega⟩
  | 1, _ =>
    have := h p (by omega) (by omega)
    unfold zDg zDg
    omega
  | 2, _ =>
    have := h p (by omega) (by omega)
    have := h (p + 1) (by omega) (by omega)
    unfold zDg zDg zDg
    omega
  | n + 3, h => omega
