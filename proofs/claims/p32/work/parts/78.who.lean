/-! who can win; points, reach; sure -/
noncomputable def zDc (p : Prop) : Bool := @decide p (Classical.propDecidable p)
theorem zDc_t {p : Prop} (h : p) : zDc p = true := @decide_eq_true p (Classical.propDecidable p) h
theorem zDc_f {p : Prop} (h : ¬ p) : ¬ zDc p = true := fun q => h (@of_decide_eq_true p (Classical.propDecidable p) q)
theorem zDc_iff {p q : Prop} (h : p ↔ q) : zDc p = zDc q := by rw [propext h]
noncomputable def zWcw (m : zMe) (r : Nat) : Nat := zBn (m r 0).toNat (fun u => zDc (zCw m r (u : Int)))
set_option maxRecDepth 100000 in
set_option maxHeartbeats 1000000 in
theorem s_6whoCanWin {m : zMe} {r : Nat} (a1 : zG r) (a2 : zWf m r) : zOk (f_X6_whoCanWin 0 r (zM m)) (fun v m1 => v = zI (zWcw m r : Nat) ∧ zFr 27 m m1) := by
  have hl : r = 3 ∨ r = 11 ∨ r = 19 := a1
  have hT := a2.1.1
  unfold f_X6_whoCanWin
  repeat' (first
    | (with_reducible apply z_nm; (case he => repeat (with_reducible first | exact zv_l _ | exact zv_r | apply zv_add | apply zv_sub | apply zv_or | apply zv_shl | apply zv_and)))
    | (with_reducible apply z_b_ck; (case h => with_unfolding_all rfl))
    | (with_reducible apply z_I; (case h => first | exact zg_I0 (by assumption) | with_unfolding_all rfl); (case hy => first | ((simp (disch := omega) only [zU_c, zU_e, zU_k, zF_c, zF_i, zF_o, zW_o, zW_i, zC_c, zC_i, zC_o]); rfl) | rfl))
    | (with_reducible apply z_6canWin; (case a1 => assumption); (case e1 => repeat (with_reducible first | exact zv_l _ | exact zv_r | apply zv_add | apply zv_sub | apply zv_or | apply zv_shl | apply zv_and)); (case r1 => first | omega | ((simp (disch := omega) only [zU_c, zU_e, zU_k, zF_c, zF_i, zF_o, zW_o, zW_i, zC_c, zC_i, zC_o]); omega)); (case a2 => assumption); intro _ _ _))
  refine z_lp (fun n v m1 => ∃ i : Nat, v = (0, r, zI (zBn i (fun u => zDc (zCw m r (u : Int))) : Nat), zI (i : Int)) ∧ (i : Int) ≤ m r 0 ∧ n = (m r 0 - i).toNat ∧ zFr 27 m m1) (fun _ _ v m1 => v = zI (zWcw m r : Nat) ∧ zFr 27 m m1) ?_ 600 (m r 0).toNat _ m (by omega) ⟨0, rfl, by omega, by omega, zFr_r _ _⟩
  rintro n v m1 k ⟨i, rfl, h1, rfl, hF⟩ hk
  have hS : zSame m m1 r := zFr_S hF (by omega)
  have e0 : m1 r 0 = m r 0 := hS r (by omega) (by omega) 0
  unfold f_X6_whoCanWin_4
  dsimp only
  (first
    | (with_reducible apply z_nm; (case he => repeat (with_reducible first | exact zv_l _ | exact zv_r | apply zv_add | apply zv_sub | apply zv_or | apply zv_shl | apply zv_and)))
    | (with_reducible apply z_b_ck; (case h => with_unfolding_all rfl))
    | (with_reducible apply z_I; (case h => first | exact zg_I0 (by assumption) | with_unfolding_all rfl); (case hy => first | ((simp (disch := omega) only [zU_c, zU_e, zU_k, zF_c, zF_i, zF_o, zW_o, zW_i, zC_c, zC_i, zC_o]); rfl) | rfl))
    | (with_reducible apply z_6canWin; (case a1 => assumption); (case e1 => repeat (with_reducible first | exact zv_l _ | exact zv_r | apply zv_add | apply zv_sub | apply zv_or | apply zv_shl | apply zv_and)); (case r1 => first | omega | ((simp (disch := omega) only [zU_c, zU_e, zU_k, zF_c, zF_i, zF_o, zW_o, zW_i, zC_c, zC_i, zC_o]); omega)); (case a2 => assumption); intro _ _ _))
  (first
    | (with_reducible apply z_B; all_goals (intro _; try (exfalso; omega)))
    | (with_reducible apply z_E; all_goals intro _)
    | (with_reducible apply z_lt; (case ha => repeat (with_reducible first | exact zv_l _ | exact zv_r | apply zv_add | apply zv_sub | apply zv_or | apply zv_shl | apply zv_and)); (case hb => repeat (with_reducible first | exact zv_l _ | exact zv_r | apply zv_add | apply zv_sub | apply zv_or | apply zv_shl | apply zv_and)); (case hx => omega); (case hy => omega); all_goals (intro _; try (exfalso; omega)))
    | (with_reducible apply z_le; (case ha => repeat (with_reducible first | exact zv_l _ | exact zv_r | apply zv_add | apply zv_sub | apply zv_or | apply zv_shl | apply zv_and)); (case hb => repeat (with_reducible first | exact zv_l _ | exact zv_r | apply zv_add | apply zv_sub | apply zv_or | apply zv_shl | apply zv_and)); (case hx => omega); (case hy => omega); all_goals (intro _; try (exfalso; omega)))
    | (with_reducible apply z_eq; (case ha => repeat (with_reducible first | exact zv_l _ | exact zv_r | apply zv_add | apply zv_sub | apply zv_or | apply zv_shl | apply zv_and)); (case hb => repeat (with_reducible first | exact zv_l _ | exact zv_r | apply zv_add | apply zv_sub | apply zv_or | apply zv_shl | apply zv_and)); (case hx => omega); (case hy => omega); all_goals (intro _; try (exfalso; omega))))
  · (first | (with_reducible apply z_reti; (case he => repeat (with_reducible first | exact zv_l _ | exact zv_r | apply zv_add | apply zv_sub | apply zv_or | apply zv_shl | apply zv_and))) | with_reducible refine z_ret ?_)
    have : (m r 0).toNat = i := by omega
    unfold zWcw
    rw [this]
    exact ⟨rfl, hF⟩
  · refine z_6canWin a1 rfl (by omega) (zWf_S hS a2) (fun v m2 hv => ?_)
    obtain ⟨rfl, hF2⟩ := hv
    rw [zE_iff (zCw_S hS)]
    refine z_E (fun hq => ?_) (fun hq => ?_)
    · repeat' (first
    | (with_reducible apply z_nm; (case he => repeat (with_reducible first | exact zv_l _ | exact zv_r | apply zv_add | apply zv_sub | apply zv_or | apply zv_shl | apply zv_and)))
    | (with_reducible apply z_b_ck; (case h => with_unfolding_all rfl))
    | (with_reducible apply z_I; (case h => first | exact zg_I0 (by assumption) | with_unfolding_all rfl); (case hy => first | ((simp (disch := omega) only [zU_c, zU_e, zU_k, zF_c, zF_i, zF_o, zW_o, zW_i, zC_c, zC_i, zC_o]); rfl) | rfl))
    | (with_reducible apply z_6canWin; (case a1 => assumption); (case e1 => repeat (with_reducible first | exact zv_l _ | exact zv_r | apply zv_add | apply zv_sub | apply zv_or | apply zv_shl | apply zv_and)); (case r1 => first | omega | ((simp (disch := omega) only [zU_c, zU_e, zU_k, zF_c, zF_i, zF_o, zW_o, zW_i, zC_c, zC_i, zC_o]); omega)); (case a2 => assumption); intro _ _ _))
      refine hk _ _ _ (by omega) ⟨i + 1, ?_, by omega, rfl, zFr_t hF hF2 (by omega)⟩
      rw [zBn_f (zDc_f hq)]
      rfl
    · repeat' (first
    | (with_reducible apply z_nm; (case he => repeat (with_reducible first | exact zv_l _ | exact zv_r | apply zv_add | apply zv_sub | apply zv_or | apply zv_shl | apply zv_and)))
    | (with_reducible apply z_b_ck; (case h => with_unfolding_all rfl))
    | (with_reducible apply z_I; (case h => first | exact zg_I0 (by assumption) | with_unfolding_all rfl); (case hy => first | ((simp (disch := omega) only [zU_c, zU_e, zU_k, zF_c, zF_i, zF_o, zW_o, zW_i, zC_c, zC_i, zC_o]); rfl) | rfl))
    | (with_reducible apply z_6canWin; (case a1 => assumption); (case e1 => repeat (with_reducible first | exact zv_l _ | exact zv_r | apply zv_add | apply zv_sub | apply zv_or | apply zv_shl | apply zv_and)); (case r1 => first | omega | ((simp (disch := omega) only [zU_c, zU_e, zU_k, zF_c, zF_i, zF_o, zW_o, zW_i, zC_c, zC_i, zC_o]); omega)); (case a2 => assumption); intro _ _ _))
      refine hk _ _ _ (by omega) ⟨i + 1, ?_, by omega, rfl, zFr_t hF hF2 (by omega)⟩
      rw [zOr_bit (by omega) (zBn_lt _ _), zBn_t (zDc_t hq)]
      rfl
theorem z_6whoCanWin {m : zMe} {r : Nat} (a1 : zG r) (a2 : zWf m r) {α : Type} {kf : Int32 × Hp → Option (α × Hp)} {Q : α → zMe → Prop} (K : ∀ (v : Int32) (m1 : zMe), (fun v m1 => v = zI (zWcw m r : Nat) ∧ zFr 27 m m1) v m1 → zOk (kf (v, zM m1)) Q) : zOk ((f_X6_whoCanWin 0 r (zM m)).bind kf) Q := z_call (s_6whoCanWin a1 a2) K
theorem zWcw_S {m m1 : zMe} {r : Nat} (h : zSame m m1 r) : zWcw m1 r = zWcw m r := by
  unfold zWcw
  rw [h r (by omega) (by omega)]
  exact zBn_congr (fun k _ => zDc_iff (zCw_S h))
theorem zSame_F {m : zMe} {q r : Nat} {s n : Int} {g : Int → Int} (h : r + 7 < q ∨ q < r) : zSame m (zF m q s n g) r := fun c h1 h2 j => zF_c (by omega)
theorem zWf_g {m : zMe} {r : Nat} (h : zWf m r) : ∀ k, 0 ≤ k → k < m r 1 → (-1 ≤ m (r + 7) k ∧ m (r + 7) k ≤ 2) ∧ (0 ≤ m (r + 4) k ∧ m (r + 4) k < 6) ∧ (0 ≤ m (r + 5) k ∧ m (r + 5) k < 6) ∧ ¬ m (r + 4) k = m (r + 5) k := fun k q0 q1 => by
  have := h.2.2.1 k q0 q1
  have := h.1.1
  omega
theorem zWf_g2 {m : zMe} {r : Nat} (h : zWf m r) : ∀ k, 0 ≤ k → k < m r 1 → (-1 ≤ m (r + 7) k ∧ m (r + 7) k ≤ 2) ∧ (0 ≤ m (r + 4) k ∧ m (r + 4) k < 6) ∧ (0 ≤ m (r + 5) k ∧ m (r + 5) k < 6) := fun k q0 q1 => by
  have := zWf_g h k q0 q1
  omega
set_option maxRecDepth 100000 in
set_option maxHeartbeats 1000000 in
theorem s_6pointsOf {m : zMe} {r : Nat} {e : Int32} {t : Int} (a1 : zG r) (e1 : e = zI t) (r1 : 0 ≤ t ∧ t < 6) (a2 : zWf m r) : f_X6_pointsOf 0 r e (zM m) = some (zI (zPt m r t), zM (zF m 40 0 6 (zPt m r))) := by
  subst e1
  have hl : r = 3 ∨ r = 11 ∨ r = 19 := a1
  refine zOk.eq ?_
  unfold f_X6_pointsOf
  (first
    | (with_reducible apply z_b_ck; (case h => with_unfolding_all rfl))
    | (with_reducible apply z_b_R; (case h => first | with_unfolding_all rfl))
    | (with_reducible apply z_L; (case he => repeat (with_reducible first | exact zv_l _ | exact zv_r)); (case hn => with_reducible first | assumption | exact zl_2 | exact zl_6 | exact zl_40); (case h => omega); (case hy => first | ((simp (disch := omega) only [zU_c, zU_e, zU_k, zF_c, zF_i, zF_o, zW_o, zW_i, zC_c, zC_i, zC_o]); rfl) | rfl))
    | (with_reducible apply z_0pointsInto; (case a1 => assumption); (case a2 => assumption); (case r7 => first | omega | ((simp (disch := omega) only [zU_c, zU_e, zU_k, zF_c, zF_i, zF_o, zW_o, zW_i, zC_c, zC_i, zC_o]); omega)); (case r3 => first | omega | ((simp (disch := omega) only [zU_c, zU_e, zU_k, zF_c, zF_i, zF_o, zW_o, zW_i, zC_c, zC_i, zC_o]); omega)); (case r1 => first | omega | ((simp (disch := omega) only [zU_c, zU_e, zU_k, zF_c, zF_i, zF_o, zW_o, zW_i, zC_c, zC_i, zC_o]); omega)); (case r2 => first | omega | ((simp (disch := omega) only [zU_c, zU_e, zU_k, zF_c, zF_i, zF_o, zW_o, zW_i, zC_c, zC_i, zC_o]); omega)); (case a3 => assumption)))
  (first
    | (with_reducible apply z_b_ck; (case h => with_unfolding_all rfl))
    | (with_reducible apply z_b_R; (case h => first | with_unfolding_all rfl))
    | (with_reducible apply z_L; (case he => repeat (with_reducible first | exact zv_l _ | exact zv_r)); (case hn => with_reducible first | assumption | exact zl_2 | exact zl_6 | exact zl_40); (case h => omega); (case hy => first | ((simp (disch := omega) only [zU_c, zU_e, zU_k, zF_c, zF_i, zF_o, zW_o, zW_i, zC_c, zC_i, zC_o]); rfl) | rfl))
    | (with_reducible apply z_0pointsInto; (case a1 => assumption); (case a2 => assumption); (case r7 => first | omega | ((simp (disch := omega) only [zU_c, zU_e, zU_k, zF_c, zF_i, zF_o, zW_o, zW_i, zC_c, zC_i, zC_o]); omega)); (case r3 => first | omega | ((simp (disch := omega) only [zU_c, zU_e, zU_k, zF_c, zF_i, zF_o, zW_o, zW_i, zC_c, zC_i, zC_o]); omega)); (case r1 => first | omega | ((simp (disch := omega) only [zU_c, zU_e, zU_k, zF_c, zF_i, zF_o, zW_o, zW_i, zC_c, zC_i, zC_o]); omega)); (case r2 => first | omega | ((simp (disch := omega) only [zU_c, zU_e, zU_k, zF_c, zF_i, zF_o, zW_o, zW_i, zC_c, zC_i, zC_o]); omega)); (case a3 => assumption)))
  refine z_0pointsInto a1 zl_40 (by omega) a2.1.1 a2.1.2.1 a2.1.2.2 (zWf_g a2) ?_
  (first
    | (with_reducible apply z_b_ck; (case h => with_unfolding_all rfl))
    | (with_reducible apply z_b_R; (case h => first | with_unfolding_all rfl))
    | (with_reducible apply z_L; (case he => repeat (with_reducible first | exact zv_l _ | exact zv_r)); (case hn => with_reducible first | assumption | exact zl_2 | exact zl_6 | exact zl_40); (case h => omega); (case hy => first | ((simp (disch := omega) only [zU_c, zU_e, zU_k, zF_c, zF_i, zF_o, zW_o, zW_i, zC_c, zC_i, zC_o]); rfl) | rfl))
    | (with_reducible apply z_0pointsInto; (case a1 => assumption); (case a2 => assumption); (case r7 => first | omega | ((simp (disch := omega) only [zU_c, zU_e, zU_k, zF_c, zF_i, zF_o, zW_o, zW_i, zC_c, zC_i, zC_o]); omega)); (case r3 => first | omega | ((simp (disch := omega) only [zU_c, zU_e, zU_k, zF_c, zF_i, zF_o, zW_o, zW_i, zC_c, zC_i, zC_o]); omega)); (case r1 => first | omega | ((simp (disch := omega) only [zU_c, zU_e, zU_k, zF_c, zF_i, zF_o, zW_o, zW_i, zC_c, zC_i, zC_o]); omega)); (case r2 => first | omega | ((simp (disch := omega) only [zU_c, zU_e, zU_k, zF_c, zF_i, zF_o, zW_o, zW_i, zC_c, zC_i, zC_o]); omega)); (case a3 => assumption)))
  refine z_L (y := zPt m r t) rfl zl_40 (by omega) (by rw [zF_i (by omega), Int.sub_zero]) ?_
  exact ⟨_, _, rfl, rfl, rfl⟩
theorem z_6pointsOf {m : zMe} {r : Nat} {e : Int32} {t : Int} (a1 : zG r) (e1 : e = zI t) (r1 : 0 ≤ t ∧ t < 6) (a2 : zWf m r) {α : Type} {kf : Int32 × Hp → Option (α × Hp)} {Q : α → zMe → Prop} (K : zOk (kf (zI (zPt m r t), zM (zF m 40 0 6 (zPt m r)))) Q) : zOk ((f_X6_pointsOf 0 r e (zM m)).bind kf) Q := z_b (s_6pointsOf a1 e1 r1 a2) K
set_option maxRecDepth 100000 in
set_option maxHeartbeats 1000000 in
theorem s_6reachOf {m : zMe} {r : Nat} {e : Int32} {t : Int} (a1 : zG r) (e1 : e = zI t) (r1 : 0 ≤ t ∧ t < 6) (a2 : zWf m r) : f_X6_reachOf 0 r e (zM m) = some (zI (zRe m r t), zM (zF m 40 0 6 (zPt m r))) := by
  subst e1
  have hl : r = 3 ∨ r = 11 ∨ r = 19 := a1
  have hN := a2.1.2.1
  have hS : zSame m (zF m 40 0 6 (zPt m r)) r := zSame_F (by omega)
  have hW2 := zWf_S hS a2
  refine zOk.eq ?_
  unfold f_X6_reachOf
  (first
    | (with_reducible apply z_b_ck; (case h => with_unfolding_all rfl))
    | (with_reducible apply z_0winBrings; (case a1 => assumption); (case r1 => first | omega | ((simp (disch := omega) only [zU_c, zU_e, zU_k, zF_c, zF_i, zF_o, zW_o, zW_i, zC_c, zC_i, zC_o]); omega)))
    | (with_reducible apply z_0leftOf; (case a1 => assumption); (case e1 => repeat (with_reducible first | exact zv_l _ | exact zv_r | apply zv_add | apply zv_mul)); (case r2 => first | omega | ((simp (disch := omega) only [zU_c, zU_e, zU_k, zF_c, zF_i, zF_o, zW_o, zW_i, zC_c, zC_i, zC_o]); omega)); (case r1 => first | omega | ((simp (disch := omega) only [zU_c, zU_e, zU_k, zF_c, zF_i, zF_o, zW_o, zW_i, zC_c, zC_i, zC_o]); omega)); (case a2 => assumption))
    | (with_reducible apply z_6pointsOf; (case a1 => assumption); (case e1 => repeat (with_reducible first | exact zv_l _ | exact zv_r | apply zv_add | apply zv_mul)); (case r1 => first | omega | ((simp (disch := omega) only [zU_c, zU_e, zU_k, zF_c, zF_i, zF_o, zW_o, zW_i, zC_c, zC_i, zC_o]); omega)); (case a2 => assumption)))
  refine z_6pointsOf a1 rfl r1 a2 ?_
  refine z_0winBrings a1 hW2.1.2.2 ?_
  refine z_0leftOf a1 rfl (by omega) hW2.1.2.1 (zWf_g2 hW2) ?_
  rw [zOwn_S hS]
  refine z_6bitCount rfl (zOwn_lt hN) ?_
  refine ⟨_, _, rfl, ?_, rfl⟩
  rw [zv_mul rfl rfl, zv_add rfl rfl, hS r (by omega) (by omega)]
  rfl
theorem z_6reachOf {m : zMe} {r : Nat} {e : Int32} {t : Int} (a1 : zG r) (e1 : e = zI t) (r1 : 0 ≤ t ∧ t < 6) (a2 : zWf m r) {α : Type} {kf : Int32 × Hp → Option (α × Hp)} {Q : α → zMe → Prop} (K : zOk (kf (zI (zRe m r t), zM (zF m 40 0 6 (zPt m r)))) Q) : zOk ((f_X6_reachOf 0 r e (zM m)).bind kf) Q := z_b (s_6reachOf a1 e1 r1 a2) K
/-- nobody else can have more -/
def zSu (m : zMe) (r : Nat) (t : Int) : Prop := ∀ u, 0 ≤ u → u < m r 0 → ¬ u = t → zRe m r u ≤ zPt m r t
set_option maxRecDepth 100000 in
set_option maxHeartbeats 1000000 in
theorem s_6isSure {m : zMe} {r : Nat} {e : Int32} {t : Int} (a1 : zG r) (e1 : e = zI t) (r1 : 0 ≤ t ∧ t < m r 0) (a2 : zWf m r) : zOk (f_X6_isSure 0 r e (zM m)) (fun v m1 => v = zI (zE (zSu m r t)) ∧ zFr 27 m m1) := by
  subst e1
  have hl : r = 3 ∨ r = 11 ∨ r = 19 := a1
  have hT := a2.1.1
  have hpt := zPt_range a2 r1.1
  unfold f_X6_isSure
  (first
    | (with_reducible apply z_nm; (case he => repeat (with_reducible first | exact zv_l _ | exact zv_r | apply zv_add | apply zv_sub)))
    | (with_reducible apply z_b_ck; (case h => with_unfolding_all rfl))
    | (with_reducible apply z_I; (case h => first | exact zg_I0 (by assumption) | with_unfolding_all rfl); (case hy => first | ((simp (disch := omega) only [zU_c, zU_e, zU_k, zF_c, zF_i, zF_o, zW_o, zW_i, zC_c, zC_i, zC_o]); rfl) | rfl))
    | (with_reducible apply z_6pointsOf; (case a1 => assumption); (case e1 => repeat (with_reducible first | exact zv_l _ | exact zv_r | apply zv_add | apply zv_sub)); (case r1 => first | omega | ((simp (disch := omega) only [zU_c, zU_e, zU_k, zF_c, zF_i, zF_o, zW_o, zW_i, zC_c, zC_i, zC_o]); omega)); (case a2 => assumption))
    | (with_reducible apply z_6reachOf; (case a1 => assumption); (case e1 => repeat (with_reducible first | exact zv_l _ | exact zv_r | apply zv_add | apply zv_sub)); (case r1 => first | omega | ((simp (disch := omega) only [zU_c, zU_e, zU_k, zF_c, zF_i, zF_o, zW_o, zW_i, zC_c, zC_i, zC_o]); omega)); (case a2 => assumption)))
  refine z_6pointsOf a1 rfl (by omega) a2 ?_
  refine z_lp (fun n v m1 => ∃ i : Int, v = (0, r, zI t, zI (zPt m r t), zI i) ∧ 0 ≤ i ∧ i ≤ m r 0 ∧ n = (m r 0 - i).toNat ∧ zFr 27 m m1 ∧ ∀ u, 0 ≤ u → u < i → ¬ u = t → zRe m r u ≤ zPt m r t) (fun _ _ v m1 => v = zI (zE (zSu m r t)) ∧ zFr 27 m m1) ?_ 600 (m r 0).toNat _ _ (by omega) ⟨0, rfl, by omega, by omega, by omega, zFr_F (zFr_r _ _) (by omega), fun u u0 u1 => by exfalso; omega⟩
  rintro n v m1 k ⟨i, rfl, h0, h1, rfl, hF, hu⟩ hk
  have hS : zSame m m1 r := zFr_S hF (by omega)
  have e0 : m1 r 0 = m r 0 := hS r (by omega) (by omega) 0
  unfold f_X6_isSure_10
  dsimp only
  (first
    | (with_reducible apply z_nm; (case he => repeat (with_reducible first | exact zv_l _ | exact zv_r | apply zv_add | apply zv_sub)))
    | (with_reducible apply z_b_ck; (case h => with_unfolding_all rfl))
    | (with_reducible apply z_I; (case h => first | exact zg_I0 (by assumption) | with_unfolding_all rfl); (case hy => first | ((simp (disch := omega) only [zU_c, zU_e, zU_k, zF_c, zF_i, zF_o, zW_o, zW_i, zC_c, zC_i, zC_o]); rfl) | rfl))
    | (with_reducible apply z_6pointsOf; (case a1 => assumption); (case e1 => repeat (with_reducible first | exact zv_l _ | exact zv_r | apply zv_add | apply zv_sub)); (case r1 => first | omega | ((simp (disch := omega) only [zU_c, zU_e, zU_k, zF_c, zF_i, zF_o, zW_o, zW_i, zC_c, zC_i, zC_o]); omega)); (case a2 => assumption))
    | (with_reducible apply z_6reachOf; (case a1 => assumption); (case e1 => repeat (with_reducible first | exact zv_l _ | exact zv_r | apply zv_add | apply zv_sub)); (case r1 => first | omega | ((simp (disch := omega) only [zU_c, zU_e, zU_k, zF_c, zF_i, zF_o, zW_o, zW_i, zC_c, zC_i, zC_o]); omega)); (case a2 => assumption)))
  (first
    | (with_reducible apply z_B; all_goals (intro _; try (exfalso; omega)))
    | (with_reducible apply z_E; all_goals intro _)
    | (with_reducible apply z_lt; (case ha => repeat (with_reducible first | exact zv_l _ | exact zv_r | apply zv_add | apply zv_sub)); (case hb => repeat (with_reducible first | exact zv_l _ | exact zv_r | apply zv_add | apply zv_sub)); (case hx => omega); (case hy => omega); all_goals (intro _; try (exfalso; omega)))
    | (with_reducible apply z_le; (case ha => repeat (with_reducible first | exact zv_l _ | exact zv_r | apply zv_add | apply zv_sub)); (case hb => repeat (with_reducible first | exact zv_l _ | exact zv_r | apply zv_add | apply zv_sub)); (case hx => omega); (case hy => omega); all_goals (intro _; try (exfalso; omega)))
    | (with_reducible apply z_eq; (case ha => repeat (with_reducible first | exact zv_l _ | exact zv_r | apply zv_add | apply zv_sub)); (case hb => repeat (with_reducible first | exact zv_l _ | exact zv_r | apply zv_add | apply zv_sub)); (case hx => omega); (case hy => omega); all_goals (intro _; try (exfalso; omega))))
  · refine ⟨_, _, rfl, ?_, hF⟩
    rw [zE_p (p := zSu m r t) (fun u u0 u1 u2 => hu u u0 (by omega) u2)]
    rfl
  · (first
    | (with_reducible apply z_B; all_goals (intro _; try (exfalso; omega)))
    | (with_reducible apply z_E; all_goals intro _)
    | (with_reducible apply z_lt; (case ha => repeat (with_reducible first | exact zv_l _ | exact zv_r | apply zv_add | apply zv_sub)); (case hb => repeat (with_reducible first | exact zv_l _ | exact zv_r | apply zv_add | apply zv_sub)); (case hx => omega); (case hy => omega); all_goals (intro _; try (exfalso; omega)))
    | (with_reducible apply z_le; (case ha => repeat (with_reducible first | exact zv_l _ | exact zv_r | apply zv_add | apply zv_sub)); (case hb => repeat (with_reducible first | exact zv_l _ | exact zv_r | apply zv_add | apply zv_sub)); (case hx => omega); (case hy => omega); all_goals (intro _; try (exfalso; omega)))
    | (with_reducible apply z_eq; (case ha => repeat (with_reducible first | exact zv_l _ | exact zv_r | apply zv_add | apply zv_sub)); (case hb => repeat (with_reducible first | exact zv_l _ | exact zv_r | apply zv_add | apply zv_sub)); (case hx => omega); (case hy => omega); all_goals (intro _; try (exfalso; omega))))
    · repeat' (first
    | (with_reducible apply z_nm; (case he => repeat (with_reducible first | exact zv_l _ | exact zv_r | apply zv_add | apply zv_sub)))
    | (with_reducible apply z_b_ck; (case h => with_unfolding_all rfl))
    | (with_reducible apply z_I; (case h => first | exact zg_I0 (by assumption) | with_unfolding_all rfl); (case hy => first | ((simp (disch := omega) only [zU_c, zU_e, zU_k, zF_c, zF_i, zF_o, zW_o, zW_i, zC_c, zC_i, zC_o]); rfl) | rfl))
    | (with_reducible apply z_6pointsOf; (case a1 => assumption); (case e1 => repeat (with_reducible first | exact zv_l _ | exact zv_r | apply zv_add | apply zv_sub)); (case r1 => first | omega | ((simp (disch := omega) only [zU_c, zU_e, zU_k, zF_c, zF_i, zF_o, zW_o, zW_i, zC_c, zC_i, zC_o]); omega)); (case a2 => assumption))
    | (with_reducible apply z_6reachOf; (case a1 => assumption); (case e1 => repeat (with_reducible first | exact zv_l _ | exact zv_r | apply zv_add | apply zv_sub)); (case r1 => first | omega | ((simp (disch := omega) only [zU_c, zU_e, zU_k, zF_c, zF_i, zF_o, zW_o, zW_i, zC_c, zC_i, zC_o]); omega)); (case a2 => assumption)))
      refine hk _ _ _ (by omega) ⟨i + 1, rfl, by omega, by omega, rfl, hF, fun u u0 u1 u2 => hu u u0 (by omega) u2⟩
    · refine z_6reachOf a1 rfl (by omega) (zWf_S hS a2) ?_
      rw [zRe_S hS]
      have hre := zRe_range a2 h0
      have hF2 : zFr 27 m (zF m1 40 0 6 (zPt m1 r)) := zFr_F hF (by omega)
      refine z_le (x := zRe m r i) (y := zPt m r t) rfl rfl (by omega) (by omega) (fun h => ?_) (fun h => ?_)
      · repeat' (first
    | (with_reducible apply z_nm; (case he => repeat (with_reducible first | exact zv_l _ | exact zv_r | apply zv_add | apply zv_sub)))
    | (with_reducible apply z_b_ck; (case h => with_unfolding_all rfl))
    | (with_reducible apply z_I; (case h => first | exact zg_I0 (by assumption) | with_unfolding_all rfl); (case hy => first | ((simp (disch := omega) only [zU_c, zU_e, zU_k, zF_c, zF_i, zF_o, zW_o, zW_i, zC_c, zC_i, zC_o]); rfl) | rfl))
    | (with_reducible apply z_6pointsOf; (case a1 => assumption); (case e1 => repeat (with_reducible first | exact zv_l _ | exact zv_r | apply zv_add | apply zv_sub)); (case r1 => first | omega | ((simp (disch := omega) only [zU_c, zU_e, zU_k, zF_c, zF_i, zF_o, zW_o, zW_i, zC_c, zC_i, zC_o]); omega)); (case a2 => assumption))
    | (with_reducible apply z_6reachOf; (case a1 => assumption); (case e1 => repeat (with_reducible first | exact zv_l _ | exact zv_r | apply zv_add | apply zv_sub)); (case r1 => first | omega | ((simp (disch := omega) only [zU_c, zU_e, zU_k, zF_c, zF_i, zF_o, zW_o, zW_i, zC_c, zC_i, zC_o]); omega)); (case a2 => assumption)))
        refine hk _ _ _ (by omega) ⟨i + 1, rfl, by omega, by omega, rfl, hF2, fun u u0 u1 u2 => ?_⟩
        by_cases hq : u = i
        · rw [hq]
          exact h
        · exact hu u u0 (by omega) u2
      · refine ⟨_, _, rfl, ?_, hF2⟩
        rename_i hit
        rw [zE_n (p := zSu m r t) (fun q => h (q i h0 (by omega) hit))]
        rfl
theorem z_6isSure {m : zMe} {r : Nat} {e : Int32} {t : Int} (a1 : zG r) (e1 : e = zI t) (r1 : 0 ≤ t ∧ t < m r 0) (a2 : zWf m r) {α : Type} {kf : Int32 × Hp → Option (α × Hp)} {Q : α → zMe → Prop} (K : ∀ (v : Int32) (m1 : zMe), (fun v m1 => v = zI (zE (zSu m r t)) ∧ zFr 27 m m1) v m1 → zOk (kf (v, zM m1)) Q) : zOk ((f_X6_isSure 0 r e (zM m)).bind kf) Q := z_call (s_6isSure a1 e1 r1 a2) K
theorem zSu_S {m m1 : zMe} {r : Nat} {t : Int} (h : zSame m m1 r) : zSu m1 r t ↔ zSu m r t := by
  unfold zSu
  rw [h r (by omega) (by omega), zPt_S h]
  simp only [zRe_S h]
theorem z_N {m : zMe} {c n : Nat} {α : Type} {f : Int32 → Option (α × Hp)} {Q : α → zMe → Prop} (hn : zLen c = n) (hp : n ≠ 0) (K : zOk (f (zI (n : Int))) Q) : zOk ((aN (zM m) c).bind f) Q := by
  refine z_b ?_ K
  subst hn
  unfold aN
  rw [zcell hp]
  exact congrArg some (zI_ofNat _).symm
