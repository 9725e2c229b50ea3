/-! Tape: cell 1 (1 size, 2 begin, 3 end, 4 sort), its bytes in cell 2 -/
set_option maxRecDepth 100000 in
set_option maxHeartbeats 1000000 in
theorem s_4clear {m : zMe} (r1 : 0 ≤ m 1 1) : f_X4_clear 1 (zM m) = some ((), zM (zU (zU (zU (zU m 1 1 0) 1 2 0) 1 3 0) 1 4 0)) := by
  refine zOk.eq ?_
  unfold f_X4_clear
  repeat' (first
    | (with_reducible apply z_b_ck; (case h => with_unfolding_all rfl))
    | (with_reducible apply z_PU; (case he => repeat (with_reducible first | exact zv_l _ | exact zv_r)); (case h => with_reducible first | exact zp_1_1 _ | exact zp_1_2 _ | exact zp_1_3 _ | exact zp_1_4 _)))
  exact ⟨_, _, rfl, rfl, rfl⟩
theorem z_4clear {m : zMe} (r1 : 0 ≤ m 1 1) {α : Type} {kf : Unit × Hp → Option (α × Hp)} {Q : α → zMe → Prop} (K : zOk (kf ((), zM (zU (zU (zU (zU m 1 1 0) 1 2 0) 1 3 0) 1 4 0))) Q) : zOk ((f_X4_clear 1 (zM m)).bind kf) Q := z_b (s_4clear r1) K
set_option maxRecDepth 100000 in
set_option maxHeartbeats 1000000 in
theorem s_4isBlank {m : zMe} {e : Int32} {x : Int} (e1 : e = zI x) (r1 : 0 ≤ x ∧ x ≤ 255) : f_X4_isBlank e (zM m) = some (zI (zB (x = 32 ∨ x = 10)), zM (m)) := by
  subst e1
  refine zOk.eq ?_
  unfold f_X4_isBlank
  repeat' (first | (first
    | (with_reducible apply z_nm; (case he => repeat (with_reducible first | exact zv_l _ | exact zv_r)))) | (first
    | (with_reducible apply z_B; all_goals (intro _; try (exfalso; omega)))
    | (with_reducible apply z_E; all_goals intro _)
    | (with_reducible apply z_lt; (case ha => repeat (with_reducible first | exact zv_l _ | exact zv_r)); (case hb => repeat (with_reducible first | exact zv_l _ | exact zv_r)); (case hx => omega); (case hy => omega); all_goals (intro _; try (exfalso; omega)))
    | (with_reducible apply z_le; (case ha => repeat (with_reducible first | exact zv_l _ | exact zv_r)); (case hb => repeat (with_reducible first | exact zv_l _ | exact zv_r)); (case hx => omega); (case hy => omega); all_goals (intro _; try (exfalso; omega)))
    | (with_reducible apply z_eq; (case ha => repeat (with_reducible first | exact zv_l _ | exact zv_r)); (case hb => repeat (with_reducible first | exact zv_l _ | exact zv_r)); (case hx => omega); (case hy => omega); all_goals (intro _; try (exfalso; omega)))))
  all_goals (first | exact zB_r1 (by omega) | exact zB_r0 (by omega))
theorem z_4isBlank {m : zMe} {e : Int32} {x : Int} (e1 : e = zI x) (r1 : 0 ≤ x ∧ x ≤ 255) {α : Type} {kf : Int32 × Hp → Option (α × Hp)} {Q : α → zMe → Prop} (K : zOk (kf (zI (zB (x = 32 ∨ x = 10)), zM (m))) Q) : zOk ((f_X4_isBlank e (zM m)).bind kf) Q := z_b (s_4isBlank e1 r1) K
/-- what begins at a byte: 1 a word, 2 a number, 3 nothing -/
def zCl (x : Int) : Int := if 97 ≤ x ∧ x ≤ 122 then 1 else if 48 ≤ x ∧ x ≤ 57 then 2 else 3
/-- the sort at a place: 0 behind the end -/
def zSoF (f : Int → Int) (sz p : Int) : Int := if 0 ≤ p ∧ p < sz then zCl (f p) else 0
def zSo (m : zMe) (p : Int) : Int := zSoF (m 2) (m 1 1) p
set_option maxRecDepth 100000 in
set_option maxHeartbeats 1000000 in
theorem s_4sortAt {m : zMe} {e : Int32} {p : Int} (e1 : e = zI p) (r1 : -1000 ≤ p ∧ p ≤ 1000) (r2 : 0 ≤ m 1 1 ∧ m 1 1 ≤ 40) (a1 : ∀ j, 0 ≤ j → j < 40 → 0 ≤ m 2 j ∧ m 2 j ≤ 255) : f_X4_sortAt 1 e (zM m) = some (zI (zSo m p), zM (m)) := by
  subst e1
  have hp := a1 p
  refine zOk.eq ?_
  unfold f_X4_sortAt
  repeat' (first
    | (with_reducible apply z_nm; (case he => repeat (with_reducible first | exact zv_l _ | exact zv_r | apply zv_neg)))
    | (with_reducible apply z_b_ck; (case h => with_unfolding_all rfl))
    | (with_reducible apply z_I; (case h => first | with_unfolding_all rfl); (case hy => first | ((simp (disch := omega) only [zU_c, zU_e, zU_k, zF_c, zF_i, zF_o, zW_o, zW_i, zC_c, zC_i, zC_o]); rfl) | rfl))
    | (with_reducible apply z_b_R; (case h => first | with_unfolding_all rfl))
    | (with_reducible apply z_L; (case he => repeat (with_reducible first | exact zv_l _ | exact zv_r | apply zv_neg)); (case hn => with_reducible first | assumption | exact zl_2 | exact zl_40); (case h => omega); (case hy => first | ((simp (disch := omega) only [zU_c, zU_e, zU_k, zF_c, zF_i, zF_o, zW_o, zW_i, zC_c, zC_i, zC_o]); rfl) | rfl)))
  (first
    | (with_reducible apply z_B; all_goals (intro _; try (exfalso; omega)))
    | (with_reducible apply z_E; all_goals intro _)
    | (with_reducible apply z_lt; (case ha => repeat (with_reducible first | exact zv_l _ | exact zv_r | apply zv_neg)); (case hb => repeat (with_reducible first | exact zv_l _ | exact zv_r | apply zv_neg)); (case hx => omega); (case hy => omega); all_goals (intro _; try (exfalso; omega)))
    | (with_reducible apply z_le; (case ha => repeat (with_reducible first | exact zv_l _ | exact zv_r | apply zv_neg)); (case hb => repeat (with_reducible first | exact zv_l _ | exact zv_r | apply zv_neg)); (case hx => omega); (case hy => omega); all_goals (intro _; try (exfalso; omega)))
    | (with_reducible apply z_eq; (case ha => repeat (with_reducible first | exact zv_l _ | exact zv_r | apply zv_neg)); (case hb => repeat (with_reducible first | exact zv_l _ | exact zv_r | apply zv_neg)); (case hx => omega); (case hy => omega); all_goals (intro _; try (exfalso; omega))))
  · unfold zSo zSoF
    rw [if_neg (by omega)]
    exact ⟨_, _, rfl, rfl, rfl⟩
  · repeat' (first
    | (with_reducible apply z_nm; (case he => repeat (with_reducible first | exact zv_l _ | exact zv_r | apply zv_neg)))
    | (with_reducible apply z_b_ck; (case h => with_unfolding_all rfl))
    | (with_reducible apply z_I; (case h => first | with_unfolding_all rfl); (case hy => first | ((simp (disch := omega) only [zU_c, zU_e, zU_k, zF_c, zF_i, zF_o, zW_o, zW_i, zC_c, zC_i, zC_o]); rfl) | rfl))
    | (with_reducible apply z_b_R; (case h => first | with_unfolding_all rfl))
    | (with_reducible apply z_L; (case he => repeat (with_reducible first | exact zv_l _ | exact zv_r | apply zv_neg)); (case hn => with_reducible first | assumption | exact zl_2 | exact zl_40); (case h => omega); (case hy => first | ((simp (disch := omega) only [zU_c, zU_e, zU_k, zF_c, zF_i, zF_o, zW_o, zW_i, zC_c, zC_i, zC_o]); rfl) | rfl)))
    (first
    | (with_reducible apply z_B; all_goals (intro _; try (exfalso; omega)))
    | (with_reducible apply z_E; all_goals intro _)
    | (with_reducible apply z_lt; (case ha => repeat (with_reducible first | exact zv_l _ | exact zv_r | apply zv_neg)); (case hb => repeat (with_reducible first | exact zv_l _ | exact zv_r | apply zv_neg)); (case hx => omega); (case hy => omega); all_goals (intro _; try (exfalso; omega)))
    | (with_reducible apply z_le; (case ha => repeat (with_reducible first | exact zv_l _ | exact zv_r | apply zv_neg)); (case hb => repeat (with_reducible first | exact zv_l _ | exact zv_r | apply zv_neg)); (case hx => omega); (case hy => omega); all_goals (intro _; try (exfalso; omega)))
    | (with_reducible apply z_eq; (case ha => repeat (with_reducible first | exact zv_l _ | exact zv_r | apply zv_neg)); (case hb => repeat (with_reducible first | exact zv_l _ | exact zv_r | apply zv_neg)); (case hx => omega); (case hy => omega); all_goals (intro _; try (exfalso; omega))))
    · have hp := hp (by omega) (by omega)
      unfold zSo zSoF
      rw [if_pos (by omega)]
      unfold f_X4_sortAt_35
      repeat' (first | (first
    | (with_reducible apply z_nm; (case he => repeat (with_reducible first | exact zv_l _ | exact zv_r | apply zv_neg)))
    | (with_reducible apply z_b_ck; (case h => with_unfolding_all rfl))
    | (with_reducible apply z_I; (case h => first | with_unfolding_all rfl); (case hy => first | ((simp (disch := omega) only [zU_c, zU_e, zU_k, zF_c, zF_i, zF_o, zW_o, zW_i, zC_c, zC_i, zC_o]); rfl) | rfl))
    | (with_reducible apply z_b_R; (case h => first | with_unfolding_all rfl))
    | (with_reducible apply z_L; (case he => repeat (with_reducible first | exact zv_l _ | exact zv_r | apply zv_neg)); (case hn => with_reducible first | assumption | exact zl_2 | exact zl_40); (case h => omega); (case hy => first | ((simp (disch := omega) only [zU_c, zU_e, zU_k, zF_c, zF_i, zF_o, zW_o, zW_i, zC_c, zC_i, zC_o]); rfl) | rfl))) | (first
    | (with_reducible apply z_B; all_goals (intro _; try (exfalso; omega)))
    | (with_reducible apply z_E; all_goals intro _)
    | (with_reducible apply z_lt; (case ha => repeat (with_reducible first | exact zv_l _ | exact zv_r | apply zv_neg)); (case hb => repeat (with_reducible first | exact zv_l _ | exact zv_r | apply zv_neg)); (case hx => omega); (case hy => omega); all_goals (intro _; try (exfalso; omega)))
    | (with_reducible apply z_le; (case ha => repeat (with_reducible first | exact zv_l _ | exact zv_r | apply zv_neg)); (case hb => repeat (with_reducible first | exact zv_l _ | exact zv_r | apply zv_neg)); (case hx => omega); (case hy => omega); all_goals (intro _; try (exfalso; omega)))
    | (with_reducible apply z_eq; (case ha => repeat (with_reducible first | exact zv_l _ | exact zv_r | apply zv_neg)); (case hb => repeat (with_reducible first | exact zv_l _ | exact zv_r | apply zv_neg)); (case hx => omega); (case hy => omega); all_goals (intro _; try (exfalso; omega)))))
      all_goals (refine ⟨_, _, rfl, ?_, rfl⟩; unfold zCl; (repeat' split) <;> first | rfl | (exfalso; omega))
    · unfold zSo zSoF
      rw [if_neg (by omega)]
      exact ⟨_, _, rfl, rfl, rfl⟩
theorem z_4sortAt {m : zMe} {e : Int32} {p : Int} (e1 : e = zI p) (r1 : -1000 ≤ p ∧ p ≤ 1000) (r2 : 0 ≤ m 1 1 ∧ m 1 1 ≤ 40) (a1 : ∀ j, 0 ≤ j → j < 40 → 0 ≤ m 2 j ∧ m 2 j ≤ 255) {α : Type} {kf : Int32 × Hp → Option (α × Hp)} {Q : α → zMe → Prop} (K : zOk (kf (zI (zSo m p), zM (m))) Q) : zOk ((f_X4_sortAt 1 e (zM m)).bind kf) Q := z_b (s_4sortAt e1 r1 r2 a1) K
set_option maxRecDepth 100000 in
set_option maxHeartbeats 1000000 in
theorem s_4fault {m : zMe} (r1 : 0 ≤ m 1 2 ∧ m 1 2 ≤ 40) : f_X4_fault 1 (zM m) = some (zI (-100 - m 1 2), zM (m)) := by
  refine zOk.eq ?_
  unfold f_X4_fault
  repeat' (first
    | (with_reducible apply z_b_ck; (case h => with_unfolding_all rfl))
    | (with_reducible apply z_I; (case h => first | with_unfolding_all rfl); (case hy => first | ((simp (disch := omega) only [zU_c, zU_e, zU_k, zF_c, zF_i, zF_o, zW_o, zW_i, zC_c, zC_i, zC_o]); rfl) | rfl)))
  (first | (with_reducible apply z_reti; (case he => repeat (with_reducible first | exact zv_l _ | exact zv_r | apply zv_sub | apply zv_neg))) | with_reducible refine z_ret ?_)
  exact ⟨rfl, rfl⟩
theorem z_4fault {m : zMe} (r1 : 0 ≤ m 1 2 ∧ m 1 2 ≤ 40) {α : Type} {kf : Int32 × Hp → Option (α × Hp)} {Q : α → zMe → Prop} (K : zOk (kf (zI (-100 - m 1 2), zM (m))) Q) : zOk ((f_X4_fault 1 (zM m)).bind kf) Q := z_b (s_4fault r1) K
theorem zCl_range (x : Int) : 1 ≤ zCl x ∧ zCl x ≤ 3 := by
  unfold zCl
  (repeat' split) <;> omega
theorem zSoF_range (f : Int → Int) (sz p : Int) : 0 ≤ zSoF f sz p ∧ zSoF f sz p ≤ 3 := by
  have := zCl_range (f p)
  unfold zSoF
  split <;> omega
/-- behind the blanks -/
def zSkip (f : Int → Int) (sz : Int) : Nat → Int → Int
  | 0, p => p
  | n + 1, p => if p < sz ∧ (f p = 32 ∨ f p = 10) then zSkip f sz n (p + 1) else p
/-- behind what is of this sort -/
def zRun (f : Int → Int) (sz c : Int) : Nat → Int → Int
  | 0, p => p
  | n + 1, p => if p < sz ∧ zCl (f p) = c then zRun f sz c n (p + 1) else p
theorem zSkip_range (f : Int → Int) (sz : Int) (n : Nat) (p : Int) (h : p ≤ sz) : p ≤ zSkip f sz n p ∧ zSkip f sz n p ≤ sz := by
  induction n generalizing p with
  | zero => exact ⟨Int.le_refl _, h⟩
  | succ n ih =>
    unfold zSkip
    split
    · have := ih (p + 1) (by omega)
      omega
    · omega
theorem zRun_range (f : Int → Int) (sz c : Int) (n : Nat) (p : Int) (h : p ≤ sz) : p ≤ zRun f sz c n p ∧ zRun f sz c n p ≤ sz := by
  induction n generalizing p with
  | zero => exact ⟨Int.le_refl _, h⟩
  | succ n ih =>
    unfold zRun
    split
    · have := ih (p + 1) (by omega)
      omega
    · omega
theorem zSkip_congr {f g : Int → Int} {sz : Int} (h : ∀ j, 0 ≤ j → j < sz → f j = g j) (n : Nat) (p : Int) (hp : 0 ≤ p) : zSkip f sz n p = zSkip g sz n p := by
  induction n generalizing p with
  | zero => rfl
  | succ n ih =>
    unfold zSkip
    by_cases hl : p < sz
    · rw [h p hp hl, ih (p + 1) (by omega)]
    · rw [if_neg (fun q => hl q.1), if_neg (fun q => hl q.1)]
theorem zRun_congr {f g : Int → Int} {sz c : Int} (h : ∀ j, 0 ≤ j → j < sz → f j = g j) (n : Nat) (p : Int) (hp : 0 ≤ p) : zRun f sz c n p = zRun g sz c n p := by
  induction n generalizing p with
  | zero => rfl
  | succ n ih =>
    unfold zRun
    by_cases hl : p < sz
    · rw [h p hp hl, ih (p + 1) (by omega)]
    · rw [if_neg (fun q => hl q.1), if_neg (fun q => hl q.1)]
/-- the next token behind a place: where it begins, its sort, where it ends -/
def zTb (f : Int → Int) (sz p : Int) : Int := zSkip f sz 41 p
def zTs (f : Int → Int) (sz p : Int) : Int := zSoF f sz (zTb f sz p)
def zTe (f : Int → Int) (sz p : Int) : Int := if zTs f sz p = 1 ∨ zTs f sz p = 2 then zRun f sz (zTs f sz p) 41 (zTb f sz p) else zTb f sz p
def zSt (m : zMe) (b e s : Int) : zMe := zU (zU (zU m 1 2 b) 1 3 e) 1 4 s
theorem zSt_x (m : zMe) (a b e s x y : Int) : zU (zU (zU (zU m 1 2 b) 1 4 s) 1 3 x) 1 3 y = zSt m b y s := by
  funext c j
  unfold zSt zU
  by_cases hc : c = 1
  · subst hc
    simp only [if_true]
    by_cases h3 : j = 3
    · subst h3
      simp
    · simp [h3]
  · simp [hc]
theorem zSt_y (m : zMe) (b s x : Int) : zU (zU (zU m 1 2 b) 1 4 s) 1 3 x = zSt m b x s := by
  funext c j
  unfold zSt zU
  by_cases hc : c = 1
  · subst hc
    simp only [if_true]
    by_cases h3 : j = 3
    · subst h3
      simp
    · simp [h3]
  · simp [hc]
theorem zU_U (m : zMe) (r : Nat) (k x y : Int) : zU (zU m r k x) r k y = zU m r k y := by
  funext c j
  unfold zU
  by_cases hc : c = r
  · subst hc
    simp only [if_true]
    by_cases h3 : j = k
    · simp [h3]
    · simp [h3]
  · simp [hc]
theorem zSt_3 (m : zMe) (b e s y : Int) : zU (zSt m b e s) 1 3 y = zSt m b y s := by
  rw [← zSt_y, ← zSt_y, zU_U]
theorem zSt_r2 (m : zMe) (b e s : Int) : zSt m b e s 1 2 = b := by simp [zSt, zU]
theorem zSt_r3 (m : zMe) (b e s : Int) : zSt m b e s 1 3 = e := by simp [zSt, zU]
theorem zSt_r4 (m : zMe) (b e s : Int) : zSt m b e s 1 4 = s := by simp [zSt, zU]
theorem zSt_r1 (m : zMe) (b e s : Int) : zSt m b e s 1 1 = m 1 1 := by simp [zSt, zU]
theorem zSt_c {m : zMe} {b e s j : Int} {c : Nat} (h : ¬ c = 1) : zSt m b e s c j = m c j := by simp [zSt, zU, h]
theorem zSo_St (m : zMe) (b e s p : Int) : zSo (zSt m b e s) p = zSo m p := by
  unfold zSo zSoF
  rw [zSt_r1, zSt_c (by omega)]
theorem s4_run {m : zMe} {b s B : Int} (r2 : 0 ≤ m 1 1 ∧ m 1 1 ≤ 40) (hb : 0 ≤ b ∧ b ≤ m 1 1) (hs : 0 ≤ s ∧ s ≤ 3) (a1 : ∀ j, 0 ≤ j → j < 40 → 0 ≤ m 2 j ∧ m 2 j ≤ 255) (h1 : s = 1 ∨ s = 2) (he : B = zRun (m 2) (m 1 1) s 41 b) : zOk (lp f_X4_step_84 600 1 (zM (zSt m b b s))) (fun (_ : Unit) m1 => m1 = zSt m b B s) := by
  refine z_lp (fun n v m1 => ∃ (p : Int) (q : Nat), v = 1 ∧ b ≤ p ∧ p ≤ m 1 1 ∧ m 1 1 - p < q ∧ n = (m 1 1 - p).toNat ∧ m1 = zSt m b p s ∧ B = zRun (m 2) (m 1 1) s q p) (fun _ _ _ m1 => m1 = zSt m b B s) ?_ 600 (m 1 1 - b).toNat _ _ (by omega) ⟨b, 41, rfl, by omega, by omega, by omega, rfl, rfl, he⟩
  rintro n v m1 k ⟨p, q, rfl, g0, g1, g2, rfl, rfl, hB⟩ hk
  have hp := a1 p
  have hso := zSoF_range (m 2) (m 1 1) p
  obtain ⟨q, rfl⟩ : ∃ q', q = q' + 1 := ⟨q - 1, by omega⟩
  unfold zRun at hB
  unfold f_X4_step_84
  dsimp only
  refine z_I (y := p) (by with_unfolding_all rfl) (zSt_r3 _ _ _ _) ?_
  refine z_I (y := m 1 1) (by with_unfolding_all rfl) (zSt_r1 _ _ _ _) ?_
  (first
    | (with_reducible apply z_B; all_goals (intro _; try (exfalso; omega)))
    | (with_reducible apply z_E; all_goals intro _)
    | (with_reducible apply z_lt; (case ha => repeat (with_reducible first | exact zv_l _ | exact zv_r | apply zv_add | apply zv_sub)); (case hb => repeat (with_reducible first | exact zv_l _ | exact zv_r | apply zv_add | apply zv_sub)); (case hx => omega); (case hy => omega); all_goals (intro _; try (exfalso; omega)))
    | (with_reducible apply z_le; (case ha => repeat (with_reducible first | exact zv_l _ | exact zv_r | apply zv_add | apply zv_sub)); (case hb => repeat (with_reducible first | exact zv_l _ | exact zv_r | apply zv_add | apply zv_sub)); (case hx => omega); (case hy => omega); all_goals (intro _; try (exfalso; omega)))
    | (with_reducible apply z_eq; (case ha => repeat (with_reducible first | exact zv_l _ | exact zv_r | apply zv_add | apply zv_sub)); (case hb => repeat (with_reducible first | exact zv_l _ | exact zv_r | apply zv_add | apply zv_sub)); (case hx => omega); (case hy => omega); all_goals (intro _; try (exfalso; omega))))
  · refine z_ret ?_
    rw [hB, if_neg (by omega)]
  · refine z_I (y := p) (by with_unfolding_all rfl) (zSt_r3 _ _ _ _) ?_
    refine z_4sortAt (p := p) rfl (by omega) (by rw [zSt_r1]; exact r2) (fun j h0 h1 => by rw [zSt_c (by omega)]; exact a1 j h0 h1) ?_
    rw [zSo_St]
    refine z_I (y := s) (by with_unfolding_all rfl) (zSt_r4 _ _ _ _) ?_
    have e : zSo m p = zCl (m 2 p) := by
      unfold zSo zSoF
      rw [if_pos (by omega)]
    refine z_eq (x := zSo m p) (y := s) rfl rfl (by unfold zSo; omega) (by omega) (fun h => ?_) (fun h => ?_)
    · refine z_I (y := p) (by with_unfolding_all rfl) (zSt_r3 _ _ _ _) ?_
      (first
    | (with_reducible apply z_nm; (case he => repeat (with_reducible first | exact zv_l _ | exact zv_r | apply zv_add | apply zv_sub)))
    | (with_reducible apply z_I; (case h => first | with_unfolding_all rfl); (case hy => first | ((simp (disch := omega) only [zU_c, zU_e, zU_k, zF_c, zF_i, zF_o, zW_o, zW_i, zC_c, zC_i, zC_o]); rfl) | rfl))
    | (with_reducible apply z_PU; (case he => repeat (with_reducible first | exact zv_l _ | exact zv_r | apply zv_add | apply zv_sub)); (case h => with_reducible first | exact zp_1_3 _))
    | (with_reducible apply z_4sortAt; (case e1 => repeat (with_reducible first | exact zv_l _ | exact zv_r | apply zv_add | apply zv_sub)); (case r1 => first | omega | ((simp (disch := omega) only [zU_c, zU_e, zU_k, zF_c, zF_i, zF_o, zW_o, zW_i, zC_c, zC_i, zC_o]); omega)); (case r2 => first | omega | ((simp (disch := omega) only [zU_c, zU_e, zU_k, zF_c, zF_i, zF_o, zW_o, zW_i, zC_c, zC_i, zC_o]); omega)); (case a1 => assumption)))
      rw [zSt_3]
      refine hk _ _ _ (by omega) ⟨p + 1, q, rfl, by omega, by omega, by omega, rfl, rfl, ?_⟩
      rw [hB, if_pos ⟨by omega, by rw [← e]; exact h⟩]
    · refine z_ret ?_
      rw [hB, if_neg (fun w => h (by rw [e]; exact w.2))]
theorem s4_step47 {m : zMe} {b e0 s0 : Int} (r2 : 0 ≤ m 1 1 ∧ m 1 1 ≤ 40) (hb : 0 ≤ b ∧ b ≤ m 1 1) (a1 : ∀ j, 0 ≤ j → j < 40 → 0 ≤ m 2 j ∧ m 2 j ≤ 255) : zOk (f_X4_step_47 1 (zM (zSt m b e0 s0))) (fun (_ : Unit) m1 => m1 = zSt m b (if zSo m b = 1 ∨ zSo m b = 2 then zRun (m 2) (m 1 1) (zSo m b) 41 b else b) (zSo m b)) := by
  have hso := zSoF_range (m 2) (m 1 1) b
  have hsr : 0 ≤ zSo m b ∧ zSo m b ≤ 3 := hso
  have e4 : ∀ b e s x, zU (zSt m b e s) 1 4 x = zSt m b e x := fun b e s x => by
    unfold zSt
    rw [zU_U]
  unfold f_X4_step_47
  refine z_I (y := b) (by with_unfolding_all rfl) (zSt_r2 _ _ _ _) ?_
  refine z_4sortAt (p := b) rfl (by omega) (by rw [zSt_r1]; exact r2) (fun j h0 h1 => by rw [zSt_c (by omega)]; exact a1 j h0 h1) ?_
  rw [zSo_St]
  (first
    | (with_reducible apply z_nm; (case he => repeat (with_reducible first | exact zv_l _ | exact zv_r)))
    | (with_reducible apply z_I; (case h => first | with_unfolding_all rfl); (case hy => first | ((simp (disch := omega) only [zU_c, zU_e, zU_k, zF_c, zF_i, zF_o, zW_o, zW_i, zC_c, zC_i, zC_o]); rfl) | rfl))
    | (with_reducible apply z_PU; (case he => repeat (with_reducible first | exact zv_l _ | exact zv_r)); (case h => with_reducible first | exact zp_1_3 _ | exact zp_1_4 _))
    | (with_reducible apply z_4sortAt; (case e1 => repeat (with_reducible first | exact zv_l _ | exact zv_r)); (case r1 => first | omega | ((simp (disch := omega) only [zU_c, zU_e, zU_k, zF_c, zF_i, zF_o, zW_o, zW_i, zC_c, zC_i, zC_o]); omega)); (case r2 => first | omega | ((simp (disch := omega) only [zU_c, zU_e, zU_k, zF_c, zF_i, zF_o, zW_o, zW_i, zC_c, zC_i, zC_o]); omega)); (case a1 => assumption)))
  rw [e4]
  refine z_I (y := b) (by with_unfolding_all rfl) (zSt_r2 _ _ _ _) ?_
  (first
    | (with_reducible apply z_nm; (case he => repeat (with_reducible first | exact zv_l _ | exact zv_r)))
    | (with_reducible apply z_I; (case h => first | with_unfolding_all rfl); (case hy => first | ((simp (disch := omega) only [zU_c, zU_e, zU_k, zF_c, zF_i, zF_o, zW_o, zW_i, zC_c, zC_i, zC_o]); rfl) | rfl))
    | (with_reducible apply z_PU; (case he => repeat (with_reducible first | exact zv_l _ | exact zv_r)); (case h => with_reducible first | exact zp_1_3 _ | exact zp_1_4 _))
    | (with_reducible apply z_4sortAt; (case e1 => repeat (with_reducible first | exact zv_l _ | exact zv_r)); (case r1 => first | omega | ((simp (disch := omega) only [zU_c, zU_e, zU_k, zF_c, zF_i, zF_o, zW_o, zW_i, zC_c, zC_i, zC_o]); omega)); (case r2 => first | omega | ((simp (disch := omega) only [zU_c, zU_e, zU_k, zF_c, zF_i, zF_o, zW_o, zW_i, zC_c, zC_i, zC_o]); omega)); (case a1 => assumption)))
  rw [zSt_3]
  refine z_I (y := zSo m b) (by with_unfolding_all rfl) (zSt_r4 _ _ _ _) ?_
  refine z_eq (x := zSo m b) (y := 1) rfl rfl (by omega) (by omega) (fun h => ?_) (fun h => ?_)
  · rw [if_pos (Or.inl h)]
    exact s4_run r2 hb hsr a1 (Or.inl h) rfl
  · refine z_I (y := zSo m b) (by with_unfolding_all rfl) (zSt_r4 _ _ _ _) ?_
    refine z_eq (x := zSo m b) (y := 2) rfl rfl (by omega) (by omega) (fun h2 => ?_) (fun h2 => ?_)
    · rw [if_pos (Or.inr h2)]
      exact s4_run r2 hb hsr a1 (Or.inr h2) rfl
    · refine z_ret ?_
      rw [if_neg (fun w => w.elim h h2)]
