/-! Race (cell 30: 5 size, 6 win, 7 draw, 8 mayDraw; 31 room, 32 ones, 33 others, 34 numbers, 35 picks) -/
/-- what a team wants, were all its games from one on won by it -/
def zNd (o p : Int → Int) (W team : Int) : Nat → Int → Int
  | 0, _ => 0
  | n + 1, i => (if o i = team ∨ p i = team then W else 0) + zNd o p W team n (i + 1)
theorem zNd_range {o p : Int → Int} {W team : Int} (hW : 0 ≤ W ∧ W ≤ 3) (n : Nat) (i : Int) : 0 ≤ zNd o p W team n i ∧ zNd o p W team n i ≤ n * 3 := by
  induction n generalizing i with
  | zero => exact ⟨Int.le_refl _, by simp [zNd]⟩
  | succ n ih =>
    have := ih (i + 1)
    unfold zNd
    split <;> omega
theorem zNd_s (o p : Int → Int) (W team : Int) (n : Nat) (i : Int) : zNd o p W team (n + 1) i = (if o i = team ∨ p i = team then W else 0) + zNd o p W team n (i + 1) := rfl
def zSub (f : Int → Int) (x W : Int) : Int → Int := fun u => if u = x then f u - W else f u
/-- the results that are found: 1, 2, 0 -/
def zSv (o p : Int → Int) (W D dr : Int) : Nat → (Int → Int) → Int → Option (List Int)
  | 0, _, _ => some []
  | n + 1, f, i =>
    match (if W ≤ f (o i) then (zSv o p W D dr n (zSub f (o i) W) (i + 1)).map (fun l => 1 :: l) else none) with
    | some l => some l
    | none => if zNd o p W (o i) (n + 1) i ≤ f (o i) then none else
      match (if W ≤ f (p i) then (zSv o p W D dr n (zSub f (p i) W) (i + 1)).map (fun l => 2 :: l) else none) with
      | some l => some l
      | none => if dr = 0 then none else if zNd o p W (p i) (n + 1) i ≤ f (p i) then none else if D ≤ f (o i) ∧ D ≤ f (p i) then (zSv o p W D dr n (zSub (zSub f (o i) D) (p i) D) (i + 1)).map (fun l => 0 :: l) else none
/-- what holds while a search goes on -/
def zRc (m : zMe) : Prop := (0 ≤ m 30 5 ∧ m 30 5 ≤ 9) ∧ (0 ≤ m 30 6 ∧ m 30 6 ≤ 3) ∧ (0 ≤ m 30 7 ∧ m 30 7 ≤ 1) ∧ (m 30 8 = 0 ∨ m 30 8 = 1) ∧ (∀ i, 0 ≤ i → i < m 30 5 → (0 ≤ m 32 i ∧ m 32 i < 6) ∧ (0 ≤ m 33 i ∧ m 33 i < 6) ∧ ¬ m 32 i = m 33 i) ∧ ∀ u, 0 ≤ u → u < 6 → 0 ≤ m 31 u ∧ m 31 u ≤ 1000
theorem s1_room_l {m : zMe} {team i0 : Int} (h : zRc m) (ht : 0 ≤ team ∧ team < 6) (hi : 0 ≤ i0 ∧ i0 ≤ m 30 5) : zOk (lp f_X1_hasRoomForAll_5 600 (30, zI team, zI 0, zI i0) (zM m)) (fun v m1 => v = zI (zB (zNd (m 32) (m 33) (m 30 6) team (m 30 5 - i0).toNat i0 ≤ m 31 team)) ∧ m1 = m) := by
  obtain ⟨hS, hW, hD, hdr, hg, hf⟩ := h
  have hfr := hf team ht.1 ht.2
  refine z_lp (fun n v m1 => ∃ (i a : Int), v = (30, zI team, zI a, zI i) ∧ i0 ≤ i ∧ i ≤ m 30 5 ∧ n = (m 30 5 - i).toNat ∧ m1 = m ∧ 0 ≤ a ∧ zNd (m 32) (m 33) (m 30 6) team (m 30 5 - i0).toNat i0 = a + zNd (m 32) (m 33) (m 30 6) team (m 30 5 - i).toNat i) (fun _ _ v m1 => v = zI (zB (zNd (m 32) (m 33) (m 30 6) team (m 30 5 - i0).toNat i0 ≤ m 31 team)) ∧ m1 = m) ?_ 600 (m 30 5 - i0).toNat _ _ (by omega) ⟨i0, 0, rfl, by omega, by omega, by omega, rfl, by omega, by omega⟩
  rintro n v m1 k ⟨i, a, rfl, q0, q1, rfl, rfl, qa, hq⟩ hk
  have hgi := hg i (by omega)
  have hnr := zNd_range (o := m1 32) (p := m1 33) (team := team) hW (m1 30 5 - i0).toNat i0
  have hnr2 := zNd_range (o := m1 32) (p := m1 33) (team := team) hW (m1 30 5 - i).toNat i
  unfold f_X1_hasRoomForAll_5
  dsimp only
  (first
    | (with_reducible apply z_nm; (case he => repeat (with_reducible first | exact zv_l _ | exact zv_r | apply zv_add | apply zv_sub)))
    | (with_reducible apply z_I; (case h => first | with_unfolding_all rfl); (case hy => first | ((simp (disch := omega) only [zU_c, zU_e, zU_k, zF_c, zF_i, zF_o, zW_o, zW_i, zC_c, zC_i, zC_o]); rfl) | rfl))
    | (with_reducible apply z_b_R; (case h => first | with_unfolding_all rfl))
    | (with_reducible apply z_L; (case he => repeat (with_reducible first | exact zv_l _ | exact zv_r | apply zv_add | apply zv_sub)); (case hn => with_reducible first | assumption | exact zl_2 | exact zl_5 | exact zl_6 | exact zl_31 | exact zl_32 | exact zl_33); (case h => omega); (case hy => first | ((simp (disch := omega) only [zU_c, zU_e, zU_k, zF_c, zF_i, zF_o, zW_o, zW_i, zC_c, zC_i, zC_o]); rfl) | rfl)))
  (first
    | (with_reducible apply z_B; all_goals (intro _; try (exfalso; omega)))
    | (with_reducible apply z_E; all_goals intro _)
    | (with_reducible apply z_lt; (case ha => repeat (with_reducible first | exact zv_l _ | exact zv_r | apply zv_add | apply zv_sub)); (case hb => repeat (with_reducible first | exact zv_l _ | exact zv_r | apply zv_add | apply zv_sub)); (case hx => omega); (case hy => omega); all_goals (intro _; try (exfalso; omega)))
    | (with_reducible apply z_le; (case ha => repeat (with_reducible first | exact zv_l _ | exact zv_r | apply zv_add | apply zv_sub)); (case hb => repeat (with_reducible first | exact zv_l _ | exact zv_r | apply zv_add | apply zv_sub)); (case hx => omega); (case hy => omega); all_goals (intro _; try (exfalso; omega)))
    | (with_reducible apply z_eq; (case ha => repeat (with_reducible first | exact zv_l _ | exact zv_r | apply zv_add | apply zv_sub)); (case hb => repeat (with_reducible first | exact zv_l _ | exact zv_r | apply zv_add | apply zv_sub)); (case hx => omega); (case hy => omega); all_goals (intro _; try (exfalso; omega))))
  · have e : (m1 30 5 - i).toNat = 0 := by omega
    rw [e] at hq
    have hq : zNd (m1 32) (m1 33) (m1 30 6) team (m1 30 5 - i0).toNat i0 = a := by
      rw [hq]
      show a + 0 = a
      omega
    repeat' (first
    | (with_reducible apply z_nm; (case he => repeat (with_reducible first | exact zv_l _ | exact zv_r | apply zv_add | apply zv_sub)))
    | (with_reducible apply z_I; (case h => first | with_unfolding_all rfl); (case hy => first | ((simp (disch := omega) only [zU_c, zU_e, zU_k, zF_c, zF_i, zF_o, zW_o, zW_i, zC_c, zC_i, zC_o]); rfl) | rfl))
    | (with_reducible apply z_b_R; (case h => first | with_unfolding_all rfl))
    | (with_reducible apply z_L; (case he => repeat (with_reducible first | exact zv_l _ | exact zv_r | apply zv_add | apply zv_sub)); (case hn => with_reducible first | assumption | exact zl_2 | exact zl_5 | exact zl_6 | exact zl_31 | exact zl_32 | exact zl_33); (case h => omega); (case hy => first | ((simp (disch := omega) only [zU_c, zU_e, zU_k, zF_c, zF_i, zF_o, zW_o, zW_i, zC_c, zC_i, zC_o]); rfl) | rfl)))
    (first
    | (with_reducible apply z_B; all_goals (intro _; try (exfalso; omega)))
    | (with_reducible apply z_E; all_goals intro _)
    | (with_reducible apply z_lt; (case ha => repeat (with_reducible first | exact zv_l _ | exact zv_r | apply zv_add | apply zv_sub)); (case hb => repeat (with_reducible first | exact zv_l _ | exact zv_r | apply zv_add | apply zv_sub)); (case hx => omega); (case hy => omega); all_goals (intro _; try (exfalso; omega)))
    | (with_reducible apply z_le; (case ha => repeat (with_reducible first | exact zv_l _ | exact zv_r | apply zv_add | apply zv_sub)); (case hb => repeat (with_reducible first | exact zv_l _ | exact zv_r | apply zv_add | apply zv_sub)); (case hx => omega); (case hy => omega); all_goals (intro _; try (exfalso; omega)))
    | (with_reducible apply z_eq; (case ha => repeat (with_reducible first | exact zv_l _ | exact zv_r | apply zv_add | apply zv_sub)); (case hb => repeat (with_reducible first | exact zv_l _ | exact zv_r | apply zv_add | apply zv_sub)); (case hx => omega); (case hy => omega); all_goals (intro _; try (exfalso; omega))))
    · exact zB_r0 (by omega)
    · exact zB_r1 (by omega)
  · have hgi := hgi (by omega)
    obtain ⟨q, e⟩ : ∃ q, (m1 30 5 - i).toNat = q + 1 := ⟨(m1 30 5 - i).toNat - 1, by omega⟩
    have e2 : (m1 30 5 - (i + 1)).toNat = q := by omega
    rw [e] at hq
    rw [zNd_s] at hq
    unfold f_X1_hasRoomForAll_36
    repeat' (first | (first
    | (with_reducible apply z_nm; (case he => repeat (with_reducible first | exact zv_l _ | exact zv_r | apply zv_add | apply zv_sub)))
    | (with_reducible apply z_I; (case h => first | with_unfolding_all rfl); (case hy => first | ((simp (disch := omega) only [zU_c, zU_e, zU_k, zF_c, zF_i, zF_o, zW_o, zW_i, zC_c, zC_i, zC_o]); rfl) | rfl))
    | (with_reducible apply z_b_R; (case h => first | with_unfolding_all rfl))
    | (with_reducible apply z_L; (case he => repeat (with_reducible first | exact zv_l _ | exact zv_r | apply zv_add | apply zv_sub)); (case hn => with_reducible first | assumption | exact zl_2 | exact zl_5 | exact zl_6 | exact zl_31 | exact zl_32 | exact zl_33); (case h => omega); (case hy => first | ((simp (disch := omega) only [zU_c, zU_e, zU_k, zF_c, zF_i, zF_o, zW_o, zW_i, zC_c, zC_i, zC_o]); rfl) | rfl))) | (first
    | (with_reducible apply z_B; all_goals (intro _; try (exfalso; omega)))
    | (with_reducible apply z_E; all_goals intro _)
    | (with_reducible apply z_lt; (case ha => repeat (with_reducible first | exact zv_l _ | exact zv_r | apply zv_add | apply zv_sub)); (case hb => repeat (with_reducible first | exact zv_l _ | exact zv_r | apply zv_add | apply zv_sub)); (case hx => omega); (case hy => omega); all_goals (intro _; try (exfalso; omega)))
    | (with_reducible apply z_le; (case ha => repeat (with_reducible first | exact zv_l _ | exact zv_r | apply zv_add | apply zv_sub)); (case hb => repeat (with_reducible first | exact zv_l _ | exact zv_r | apply zv_add | apply zv_sub)); (case hx => omega); (case hy => omega); all_goals (intro _; try (exfalso; omega)))
    | (with_reducible apply z_eq; (case ha => repeat (with_reducible first | exact zv_l _ | exact zv_r | apply zv_add | apply zv_sub)); (case hb => repeat (with_reducible first | exact zv_l _ | exact zv_r | apply zv_add | apply zv_sub)); (case hx => omega); (case hy => omega); all_goals (intro _; try (exfalso; omega)))))
    · rename_i h
      refine hk _ _ _ (by omega) ⟨i + 1, a + m1 30 6, rfl, by omega, by omega, rfl, rfl, by omega, ?_⟩
      rw [if_pos (Or.inl h)] at hq
      rw [e2, hq]
      omega
    · rename_i h
      refine hk _ _ _ (by omega) ⟨i + 1, a + m1 30 6, rfl, by omega, by omega, rfl, rfl, by omega, ?_⟩
      rw [if_pos (Or.inr h)] at hq
      rw [e2, hq]
      omega
    · rename_i h1 h2
      refine hk _ _ _ (by omega) ⟨i + 1, a, rfl, by omega, by omega, rfl, rfl, by omega, ?_⟩
      rw [if_neg (fun q => q.elim h1 h2)] at hq
      rw [e2, hq]
      omega
set_option maxRecDepth 100000 in
set_option maxHeartbeats 1000000 in
theorem s_1hasRoomForAll {m : zMe} {e g : Int32} {team i0 : Int} (e1 : e = zI team) (e2 : g = zI i0) (a1 : zRc m) (r1 : 0 ≤ team ∧ team < 6) (r2 : 0 ≤ i0 ∧ i0 ≤ m 30 5) : f_X1_hasRoomForAll 30 e g (zM m) = some (zI (zB (zNd (m 32) (m 33) (m 30 6) team (m 30 5 - i0).toNat i0 ≤ m 31 team)), zM (m)) := by
  subst e1; subst e2
  refine zOk.eq ?_
  unfold f_X1_hasRoomForAll
  repeat' (first
    | (with_reducible apply z_b_ck; (case h => with_unfolding_all rfl)))
  exact s1_room_l a1 r1 r2
theorem z_1hasRoomForAll {m : zMe} {e g : Int32} {team i0 : Int} (e1 : e = zI team) (e2 : g = zI i0) (a1 : zRc m) (r1 : 0 ≤ team ∧ team < 6) (r2 : 0 ≤ i0 ∧ i0 ≤ m 30 5) {α : Type} {kf : Int32 × Hp → Option (α × Hp)} {Q : α → zMe → Prop} (K : zOk (kf (zI (zB (zNd (m 32) (m 33) (m 30 6) team (m 30 5 - i0).toNat i0 ≤ m 31 team)), zM (m))) Q) : zOk ((f_X1_hasRoomForAll 30 e g (zM m)).bind kf) Q := z_b (s_1hasRoomForAll e1 e2 a1 r1 r2) K
