/-! Group: what games bring, points -/
/-- what a game with this result brings to t -/
def zGn (K o p res t : Int) : Int := (if t = o then (if res = 1 then K + 1 else if res = 0 then (if K = 0 then 0 else 1) else 0) else 0) + (if t = p then (if res = 2 then K + 1 else if res = 0 then (if K = 0 then 0 else 1) else 0) else 0)
def zGm (m : zMe) (r : Nat) (k res t : Int) : Int := zGn (m r 2) (m (r + 4) k) (m (r + 5) k) res t
/-- a row, each of it and so much more -/
def zAw (m : zMe) (q : Nat) (g : Int → Int) : zMe := fun c j => if c = q then m c j + g j else m c j
theorem zAw_c {m : zMe} {q c : Nat} {g : Int → Int} {j : Int} (h : ¬ c = q) : zAw m q g c j = m c j := if_neg h
theorem zAw_q {m : zMe} {q : Nat} {g : Int → Int} {j : Int} : zAw m q g q j = m q j + g j := if_pos rfl
theorem zAw_1 {m : zMe} {q : Nat} {x y : Int} {g : Int → Int} (hx : g x = y) (ho : ∀ j, ¬ j = x → g j = 0) : zU m q x (m q x + y) = zAw m q g := by
  funext c j
  unfold zU zAw
  by_cases hc : c = q
  · subst hc
    simp only [if_true]
    by_cases hj : j = x
    · subst hj
      rw [if_pos rfl, hx]
    · rw [if_neg hj, ho j hj]
      omega
  · rw [if_neg hc, if_neg hc]
theorem zAw_2 {m : zMe} {q : Nat} {x x' y y' : Int} {g : Int → Int} (hn : ¬ x' = x) (hx : g x = y) (hx' : g x' = y') (ho : ∀ j, ¬ j = x → ¬ j = x' → g j = 0) : zU (zU m q x (m q x + y)) q x' (m q x' + y') = zAw m q g := by
  funext c j
  unfold zU zAw
  by_cases hc : c = q
  · subst hc
    simp only [if_true]
    by_cases hj : j = x'
    · subst hj
      rw [if_pos rfl, hx']
    · rw [if_neg hj]
      by_cases hj2 : j = x
      · subst hj2
        rw [if_pos rfl, hx]
      · rw [if_neg hj2, ho j hj2 hj]
        omega
  · simp only [if_neg hc]
set_option maxRecDepth 100000 in
set_option maxHeartbeats 1000000 in
theorem s_0award {m : zMe} {r q : Nat} {e g f : Int32} {k res x : Int} (a1 : zG r) (a2 : zLen q = 6) (r7 : ¬ (r ≤ q ∧ q ≤ r + 7)) (e1 : e = zI k) (e2 : g = zI res) (e3 : f = zI x) (r1 : 0 ≤ k ∧ k < 9) (r2 : 0 ≤ res ∧ res ≤ 2) (r3 : 0 ≤ m (r + 4) k ∧ m (r + 4) k < 6) (r4 : 0 ≤ m (r + 5) k ∧ m (r + 5) k < 6) (r5 : ¬ m (r + 4) k = m (r + 5) k) (r6 : 0 ≤ m r 2 ∧ m r 2 ≤ 2) : f_X0_award r q e g f (zM m) = some ((), zM (zAw m q (fun t => zGm m r k res t * x))) := by
  subst e1; subst e2; subst e3
  refine zOk.eq ?_
  unfold f_X0_award f_X0_award_72
  repeat' (first | (first
    | with_reducible refine z_b (zg_ck (by assumption)) ?_
    | (with_reducible apply z_b_ck; (case h => with_unfolding_all rfl))
    | (with_reducible apply z_I; (case h => first | exact zg_I2 (by assumption) | with_unfolding_all rfl); (case hy => first | ((simp (disch := omega) only [zU_c, zU_e, zU_k, zF_c, zF_i, zF_o, zW_o, zW_i, zC_c, zC_i, zC_o]); rfl) | rfl))
    | (with_reducible apply z_b_R; (case h => first | exact zg_R6 (by assumption) | exact zg_R7 (by assumption) | with_unfolding_all rfl))
    | (with_reducible apply z_L; (case he => repeat (with_reducible first | exact zv_l _ | exact zv_r | apply zv_add | apply zv_mul)); (case hn => with_reducible first | assumption | exact zg_L6 (by assumption) | exact zg_L7 (by assumption) | exact zl_2 | exact zl_4 | exact zl_5 | exact zl_6 | exact zl_7 | exact zl_9); (case h => omega); (case hy => first | ((simp (disch := omega) only [zU_c, zU_e, zU_k, zF_c, zF_i, zF_o, zW_o, zW_i, zC_c, zC_i, zC_o]); rfl) | rfl))
    | (with_reducible apply z_S; (case he => repeat (with_reducible first | exact zv_l _ | exact zv_r | apply zv_add | apply zv_mul)); (case hg => repeat (with_reducible first | exact zv_l _ | exact zv_r | apply zv_add | apply zv_mul)); (case hn => with_reducible first | assumption | exact zg_L6 (by assumption) | exact zg_L7 (by assumption) | exact zl_2 | exact zl_4 | exact zl_5 | exact zl_6 | exact zl_7 | exact zl_9); (case h => omega))
    | (with_reducible apply z_T0; (case h => omega))
    | (with_reducible apply z_T1; (case h => omega))) | (first
    | (with_reducible apply z_B; all_goals (intro _; try (exfalso; omega)))
    | (with_reducible apply z_E; all_goals intro _)
    | (with_reducible apply z_lt; (case ha => repeat (with_reducible first | exact zv_l _ | exact zv_r | apply zv_add | apply zv_mul)); (case hb => repeat (with_reducible first | exact zv_l _ | exact zv_r | apply zv_add | apply zv_mul)); (case hx => omega); (case hy => omega); all_goals (intro _; try (exfalso; omega)))
    | (with_reducible apply z_le; (case ha => repeat (with_reducible first | exact zv_l _ | exact zv_r | apply zv_add | apply zv_mul)); (case hb => repeat (with_reducible first | exact zv_l _ | exact zv_r | apply zv_add | apply zv_mul)); (case hx => omega); (case hy => omega); all_goals (intro _; try (exfalso; omega)))
    | (with_reducible apply z_eq; (case ha => repeat (with_reducible first | exact zv_l _ | exact zv_r | apply zv_add | apply zv_mul)); (case hb => repeat (with_reducible first | exact zv_l _ | exact zv_r | apply zv_add | apply zv_mul)); (case hx => omega); (case hy => omega); all_goals (intro _; try (exfalso; omega)))))
  · have : res = 0 := by assumption
    subst this
    refine z_ret ⟨rfl, ?_⟩
    refine zAw_2 (by omega) ?_ ?_ (fun j h1 h2 => ?_)
    · unfold zGm zGn
      rw [if_pos rfl, if_neg r5]
      simp
    · unfold zGm zGn
      rw [if_neg (fun h => r5 h.symm), if_pos rfl]
      simp
    · unfold zGm zGn
      rw [if_neg h1, if_neg h2]
      simp
  · have : res = 1 := by assumption
    subst this
    refine z_ret ⟨rfl, ?_⟩
    refine zAw_1 ?_ (fun j h1 => ?_)
    · unfold zGm zGn
      rw [if_pos rfl, if_neg r5]
      simp
    · unfold zGm zGn
      rw [if_neg h1]
      simp
  · have : res = 2 := by omega
    subst this
    refine z_ret ⟨rfl, ?_⟩
    refine zAw_1 ?_ (fun j h1 => ?_)
    · unfold zGm zGn
      rw [if_neg (fun h => r5 h.symm), if_pos rfl]
      simp
    · unfold zGm zGn
      rw [if_neg h1]
      simp
theorem z_0award {m : zMe} {r q : Nat} {e g f : Int32} {k res x : Int} (a1 : zG r) (a2 : zLen q = 6) (r7 : ¬ (r ≤ q ∧ q ≤ r + 7)) (e1 : e = zI k) (e2 : g = zI res) (e3 : f = zI x) (r1 : 0 ≤ k ∧ k < 9) (r2 : 0 ≤ res ∧ res ≤ 2) (r3 : 0 ≤ m (r + 4) k ∧ m (r + 4) k < 6) (r4 : 0 ≤ m (r + 5) k ∧ m (r + 5) k < 6) (r5 : ¬ m (r + 4) k = m (r + 5) k) (r6 : 0 ≤ m r 2 ∧ m r 2 ≤ 2) {α : Type} {kf : Unit × Hp → Option (α × Hp)} {Q : α → zMe → Prop} (K : zOk (kf ((), zM (zAw m q (fun t => zGm m r k res t * x)))) Q) : zOk ((f_X0_award r q e g f (zM m)).bind kf) Q := z_b (s_0award a1 a2 r7 e1 e2 e3 r1 r2 r3 r4 r5 r6) K
def zSm : Nat → (Nat → Int) → Int
  | 0, _ => 0
  | n + 1, f => zSm n f + f n
/-- points of t by the first n games -/
def zPi (m : zMe) (r : Nat) (n : Nat) (t : Int) : Int := (if t < m r 0 then m (r + 1) t else 0) + zSm n (fun k => if m (r + 7) (k : Int) = -1 then 0 else zGm m r k (m (r + 7) (k : Int)) t)
def zPt (m : zMe) (r : Nat) (t : Int) : Int := zPi m r (m r 1).toNat t
theorem zGm_out {m : zMe} {r : Nat} {k res t : Int} (h1 : ¬ t = m (r + 4) k) (h2 : ¬ t = m (r + 5) k) : zGm m r k res t = 0 := by
  unfold zGm zGn
  rw [if_neg h1, if_neg h2]
  rfl
theorem zPi_s {m : zMe} {r q i : Nat} (hq : ¬ (r ≤ q ∧ q ≤ r + 7)) (hl : ¬ m (r + 7) (i : Int) = -1) (h4 : 0 ≤ m (r + 4) (i : Int) ∧ m (r + 4) (i : Int) < 6) (h5 : 0 ≤ m (r + 5) (i : Int) ∧ m (r + 5) (i : Int) < 6) : zAw (zF m q 0 6 (zPi m r i)) q (fun t => zGm (zF m q 0 6 (zPi m r i)) r (i : Int) (m (r + 7) (i : Int)) t * 1) = zF m q 0 6 (zPi m r (i + 1)) := by
  funext c j
  by_cases hc : c = q
  · subst hc
    rw [zAw_q]
    have e : zGm (zF m c 0 6 (zPi m r i)) r (i : Int) (m (r + 7) (i : Int)) j = zGm m r i (m (r + 7) (i : Int)) j := by
      unfold zGm
      rw [zF_c (by omega), zF_c (by omega), zF_c (by omega)]
    rw [e]
    by_cases hj : 0 ≤ j ∧ j < 0 + 6
    · rw [zF_i hj, zF_i hj]
      unfold zPi
      show _ = _ + (zSm i _ + _)
      dsimp only
      rw [if_neg hl, Int.sub_zero, Int.mul_one]
      omega
    · rw [zF_o hj, zF_o hj, zGm_out (by omega) (by omega)]
      omega
  · rw [zAw_c hc, zF_c hc, zF_c hc]
theorem zPi_l {m : zMe} {r i : Nat} (hl : m (r + 7) (i : Int) = -1) : zPi m r (i + 1) = zPi m r i := by
  funext t
  unfold zPi
  show _ + (zSm i _ + _) = _
  dsimp only
  rw [if_pos hl]
  omega
theorem s0_pts2 {m : zMe} {r q : Nat} (a1 : zG r) (a2 : zLen q = 6) (hq : ¬ (r ≤ q ∧ q ≤ r + 7)) (hN : 0 ≤ m r 1 ∧ m r 1 ≤ 9) (hK : 0 ≤ m r 2 ∧ m r 2 ≤ 2) (hr : ∀ k, 0 ≤ k → k < m r 1 → (-1 ≤ m (r + 7) k ∧ m (r + 7) k ≤ 2) ∧ (0 ≤ m (r + 4) k ∧ m (r + 4) k < 6) ∧ (0 ≤ m (r + 5) k ∧ m (r + 5) k < 6) ∧ ¬ m (r + 4) k = m (r + 5) k) : zOk (lp f_X0_pointsInto_37 600 (r, q, zI 0) (zM (zF m q 0 6 (zPi m r 0)))) (fun v m1 => v = () ∧ m1 = zF m q 0 6 (zPt m r)) := by
  refine z_lp (fun n v m1 => ∃ i : Nat, v = (r, q, zI (i : Int)) ∧ (i : Int) ≤ m r 1 ∧ n = (m r 1 - i).toNat ∧ m1 = zF m q 0 6 (zPi m r i)) (fun _ _ v m1 => v = () ∧ m1 = zF m q 0 6 (zPt m r)) ?_ 600 (m r 1).toNat _ _ (by omega) ⟨0, rfl, by omega, by omega, rfl⟩
  rintro n v m1 k ⟨i, rfl, h1, rfl, rfl⟩ hk
  have hi := hr i (by omega)
  unfold f_X0_pointsInto_37
  dsimp only
  (first
    | (with_reducible apply z_nm; (case he => repeat (with_reducible first | exact zv_l _ | exact zv_r | apply zv_add | apply zv_sub | apply zv_neg)))
    | (with_reducible apply z_I; (case h => first | exact zg_I1 (by assumption) | with_unfolding_all rfl); (case hy => first | ((simp (disch := omega) only [zU_c, zU_e, zU_k, zF_c, zF_i, zF_o, zW_o, zW_i, zC_c, zC_i, zC_o]); rfl) | rfl))
    | (with_reducible apply z_b_R; (case h => first | exact zg_R9 (by assumption) | with_unfolding_all rfl))
    | (with_reducible apply z_L; (case he => repeat (with_reducible first | exact zv_l _ | exact zv_r | apply zv_add | apply zv_sub | apply zv_neg)); (case hn => with_reducible first | assumption | exact zg_L9 (by assumption) | exact zl_2 | exact zl_4 | exact zl_5 | exact zl_6 | exact zl_7 | exact zl_9); (case h => omega); (case hy => first | ((simp (disch := omega) only [zU_c, zU_e, zU_k, zF_c, zF_i, zF_o, zW_o, zW_i, zC_c, zC_i, zC_o]); rfl) | rfl))
    | (with_reducible apply z_0isLeft; (case a1 => assumption); (case e1 => repeat (with_reducible first | exact zv_l _ | exact zv_r | apply zv_add | apply zv_sub | apply zv_neg)); (case r1 => first | omega | ((simp (disch := omega) only [zU_c, zU_e, zU_k, zF_c, zF_i, zF_o, zW_o, zW_i, zC_c, zC_i, zC_o]); omega)); (case r2 => first | omega | ((simp (disch := omega) only [zU_c, zU_e, zU_k, zF_c, zF_i, zF_o, zW_o, zW_i, zC_c, zC_i, zC_o]); omega)))
    | (with_reducible apply z_0award; (case a1 => assumption); (case a2 => assumption); (case r7 => first | omega | ((simp (disch := omega) only [zU_c, zU_e, zU_k, zF_c, zF_i, zF_o, zW_o, zW_i, zC_c, zC_i, zC_o]); omega)); (case e1 => repeat (with_reducible first | exact zv_l _ | exact zv_r | apply zv_add | apply zv_sub | apply zv_neg)); (case e2 => repeat (with_reducible first | exact zv_l _ | exact zv_r | apply zv_add | apply zv_sub | apply zv_neg)); (case e3 => repeat (with_reducible first | exact zv_l _ | exact zv_r | apply zv_add | apply zv_sub | apply zv_neg)); (case r1 => first | omega | ((simp (disch := omega) only [zU_c, zU_e, zU_k, zF_c, zF_i, zF_o, zW_o, zW_i, zC_c, zC_i, zC_o]); omega)); (case r2 => first | omega | ((simp (disch := omega) only [zU_c, zU_e, zU_k, zF_c, zF_i, zF_o, zW_o, zW_i, zC_c, zC_i, zC_o]); omega)); (case r3 => first | omega | ((simp (disch := omega) only [zU_c, zU_e, zU_k, zF_c, zF_i, zF_o, zW_o, zW_i, zC_c, zC_i, zC_o]); omega)); (case r4 => first | omega | ((simp (disch := omega) only [zU_c, zU_e, zU_k, zF_c, zF_i, zF_o, zW_o, zW_i, zC_c, zC_i, zC_o]); omega)); (case r5 => first | omega | ((simp (disch := omega) only [zU_c, zU_e, zU_k, zF_c, zF_i, zF_o, zW_o, zW_i, zC_c, zC_i, zC_o]); omega)); (case r6 => first | omega | ((simp (disch := omega) only [zU_c, zU_e, zU_k, zF_c, zF_i, zF_o, zW_o, zW_i, zC_c, zC_i, zC_o]); omega))))
  (first
    | (with_reducible apply z_B; all_goals (intro _; try (exfalso; omega)))
    | (with_reducible apply z_E; all_goals intro _)
    | (with_reducible apply z_lt; (case ha => repeat (with_reducible first | exact zv_l _ | exact zv_r | apply zv_add | apply zv_sub | apply zv_neg)); (case hb => repeat (with_reducible first | exact zv_l _ | exact zv_r | apply zv_add | apply zv_sub | apply zv_neg)); (case hx => omega); (case hy => omega); all_goals (intro _; try (exfalso; omega)))
    | (with_reducible apply z_le; (case ha => repeat (with_reducible first | exact zv_l _ | exact zv_r | apply zv_add | apply zv_sub | apply zv_neg)); (case hb => repeat (with_reducible first | exact zv_l _ | exact zv_r | apply zv_add | apply zv_sub | apply zv_neg)); (case hx => omega); (case hy => omega); all_goals (intro _; try (exfalso; omega)))
    | (with_reducible apply z_eq; (case ha => repeat (with_reducible first | exact zv_l _ | exact zv_r | apply zv_add | apply zv_sub | apply zv_neg)); (case hb => repeat (with_reducible first | exact zv_l _ | exact zv_r | apply zv_add | apply zv_sub | apply zv_neg)); (case hx => omega); (case hy => omega); all_goals (intro _; try (exfalso; omega))))
  · refine z_ret ⟨rfl, ?_⟩
    have : (m r 1).toNat = i := by omega
    unfold zPt
    rw [this]
  · obtain ⟨g1, g2, g3, g4⟩ := hi (by omega)
    (first
    | (with_reducible apply z_nm; (case he => repeat (with_reducible first | exact zv_l _ | exact zv_r | apply zv_add | apply zv_sub | apply zv_neg)))
    | (with_reducible apply z_I; (case h => first | exact zg_I1 (by assumption) | with_unfolding_all rfl); (case hy => first | ((simp (disch := omega) only [zU_c, zU_e, zU_k, zF_c, zF_i, zF_o, zW_o, zW_i, zC_c, zC_i, zC_o]); rfl) | rfl))
    | (with_reducible apply z_b_R; (case h => first | exact zg_R9 (by assumption) | with_unfolding_all rfl))
    | (with_reducible apply z_L; (case he => repeat (with_reducible first | exact zv_l _ | exact zv_r | apply zv_add | apply zv_sub | apply zv_neg)); (case hn => with_reducible first | assumption | exact zg_L9 (by assumption) | exact zl_2 | exact zl_4 | exact zl_5 | exact zl_6 | exact zl_7 | exact zl_9); (case h => omega); (case hy => first | ((simp (disch := omega) only [zU_c, zU_e, zU_k, zF_c, zF_i, zF_o, zW_o, zW_i, zC_c, zC_i, zC_o]); rfl) | rfl))
    | (with_reducible apply z_0isLeft; (case a1 => assumption); (case e1 => repeat (with_reducible first | exact zv_l _ | exact zv_r | apply zv_add | apply zv_sub | apply zv_neg)); (case r1 => first | omega | ((simp (disch := omega) only [zU_c, zU_e, zU_k, zF_c, zF_i, zF_o, zW_o, zW_i, zC_c, zC_i, zC_o]); omega)); (case r2 => first | omega | ((simp (disch := omega) only [zU_c, zU_e, zU_k, zF_c, zF_i, zF_o, zW_o, zW_i, zC_c, zC_i, zC_o]); omega)))
    | (with_reducible apply z_0award; (case a1 => assumption); (case a2 => assumption); (case r7 => first | omega | ((simp (disch := omega) only [zU_c, zU_e, zU_k, zF_c, zF_i, zF_o, zW_o, zW_i, zC_c, zC_i, zC_o]); omega)); (case e1 => repeat (with_reducible first | exact zv_l _ | exact zv_r | apply zv_add | apply zv_sub | apply zv_neg)); (case e2 => repeat (with_reducible first | exact zv_l _ | exact zv_r | apply zv_add | apply zv_sub | apply zv_neg)); (case e3 => repeat (with_reducible first | exact zv_l _ | exact zv_r | apply zv_add | apply zv_sub | apply zv_neg)); (case r1 => first | omega | ((simp (disch := omega) only [zU_c, zU_e, zU_k, zF_c, zF_i, zF_o, zW_o, zW_i, zC_c, zC_i, zC_o]); omega)); (case r2 => first | omega | ((simp (disch := omega) only [zU_c, zU_e, zU_k, zF_c, zF_i, zF_o, zW_o, zW_i, zC_c, zC_i, zC_o]); omega)); (case r3 => first | omega | ((simp (disch := omega) only [zU_c, zU_e, zU_k, zF_c, zF_i, zF_o, zW_o, zW_i, zC_c, zC_i, zC_o]); omega)); (case r4 => first | omega | ((simp (disch := omega) only [zU_c, zU_e, zU_k, zF_c, zF_i, zF_o, zW_o, zW_i, zC_c, zC_i, zC_o]); omega)); (case r5 => first | omega | ((simp (disch := omega) only [zU_c, zU_e, zU_k, zF_c, zF_i, zF_o, zW_o, zW_i, zC_c, zC_i, zC_o]); omega)); (case r6 => first | omega | ((simp (disch := omega) only [zU_c, zU_e, zU_k, zF_c, zF_i, zF_o, zW_o, zW_i, zC_c, zC_i, zC_o]); omega))))
    (first
    | (with_reducible apply z_B; all_goals (intro _; try (exfalso; omega)))
    | (with_reducible apply z_E; all_goals intro _)
    | (with_reducible apply z_lt; (case ha => repeat (with_reducible first | exact zv_l _ | exact zv_r | apply zv_add | apply zv_sub | apply zv_neg)); (case hb => repeat (with_reducible first | exact zv_l _ | exact zv_r | apply zv_add | apply zv_sub | apply zv_neg)); (case hx => omega); (case hy => omega); all_goals (intro _; try (exfalso; omega)))
    | (with_reducible apply z_le; (case ha => repeat (with_reducible first | exact zv_l _ | exact zv_r | apply zv_add | apply zv_sub | apply zv_neg)); (case hb => repeat (with_reducible first | exact zv_l _ | exact zv_r | apply zv_add | apply zv_sub | apply zv_neg)); (case hx => omega); (case hy => omega); all_goals (intro _; try (exfalso; omega)))
    | (with_reducible apply z_eq; (case ha => repeat (with_reducible first | exact zv_l _ | exact zv_r | apply zv_add | apply zv_sub | apply zv_neg)); (case hb => repeat (with_reducible first | exact zv_l _ | exact zv_r | apply zv_add | apply zv_sub | apply zv_neg)); (case hx => omega); (case hy => omega); all_goals (intro _; try (exfalso; omega))))
    · rename_i hq7
      rw [zF_c (by omega)] at hq7
      repeat' (first
    | (with_reducible apply z_nm; (case he => repeat (with_reducible first | exact zv_l _ | exact zv_r | apply zv_add | apply zv_sub | apply zv_neg)))
    | (with_reducible apply z_I; (case h => first | exact zg_I1 (by assumption) | with_unfolding_all rfl); (case hy => first | ((simp (disch := omega) only [zU_c, zU_e, zU_k, zF_c, zF_i, zF_o, zW_o, zW_i, zC_c, zC_i, zC_o]); rfl) | rfl))
    | (with_reducible apply z_b_R; (case h => first | exact zg_R9 (by assumption) | with_unfolding_all rfl))
    | (with_reducible apply z_L; (case he => repeat (with_reducible first | exact zv_l _ | exact zv_r | apply zv_add | apply zv_sub | apply zv_neg)); (case hn => with_reducible first | assumption | exact zg_L9 (by assumption) | exact zl_2 | exact zl_4 | exact zl_5 | exact zl_6 | exact zl_7 | exact zl_9); (case h => omega); (case hy => first | ((simp (disch := omega) only [zU_c, zU_e, zU_k, zF_c, zF_i, zF_o, zW_o, zW_i, zC_c, zC_i, zC_o]); rfl) | rfl))
    | (with_reducible apply z_0isLeft; (case a1 => assumption); (case e1 => repeat (with_reducible first | exact zv_l _ | exact zv_r | apply zv_add | apply zv_sub | apply zv_neg)); (case r1 => first | omega | ((simp (disch := omega) only [zU_c, zU_e, zU_k, zF_c, zF_i, zF_o, zW_o, zW_i, zC_c, zC_i, zC_o]); omega)); (case r2 => first | omega | ((simp (disch := omega) only [zU_c, zU_e, zU_k, zF_c, zF_i, zF_o, zW_o, zW_i, zC_c, zC_i, zC_o]); omega)))
    | (with_reducible apply z_0award; (case a1 => assumption); (case a2 => assumption); (case r7 => first | omega | ((simp (disch := omega) only [zU_c, zU_e, zU_k, zF_c, zF_i, zF_o, zW_o, zW_i, zC_c, zC_i, zC_o]); omega)); (case e1 => repeat (with_reducible first | exact zv_l _ | exact zv_r | apply zv_add | apply zv_sub | apply zv_neg)); (case e2 => repeat (with_reducible first | exact zv_l _ | exact zv_r | apply zv_add | apply zv_sub | apply zv_neg)); (case e3 => repeat (with_reducible first | exact zv_l _ | exact zv_r | apply zv_add | apply zv_sub | apply zv_neg)); (case r1 => first | omega | ((simp (disch := omega) only [zU_c, zU_e, zU_k, zF_c, zF_i, zF_o, zW_o, zW_i, zC_c, zC_i, zC_o]); omega)); (case r2 => first | omega | ((simp (disch := omega) only [zU_c, zU_e, zU_k, zF_c, zF_i, zF_o, zW_o, zW_i, zC_c, zC_i, zC_o]); omega)); (case r3 => first | omega | ((simp (disch := omega) only [zU_c, zU_e, zU_k, zF_c, zF_i, zF_o, zW_o, zW_i, zC_c, zC_i, zC_o]); omega)); (case r4 => first | omega | ((simp (disch := omega) only [zU_c, zU_e, zU_k, zF_c, zF_i, zF_o, zW_o, zW_i, zC_c, zC_i, zC_o]); omega)); (case r5 => first | omega | ((simp (disch := omega) only [zU_c, zU_e, zU_k, zF_c, zF_i, zF_o, zW_o, zW_i, zC_c, zC_i, zC_o]); omega)); (case r6 => first | omega | ((simp (disch := omega) only [zU_c, zU_e, zU_k, zF_c, zF_i, zF_o, zW_o, zW_i, zC_c, zC_i, zC_o]); omega))))
      rw [zPi_s hq hq7 g2 g3]
      exact hk _ _ _ (by omega) ⟨i + 1, rfl, by omega, rfl, rfl⟩
    · rename_i hq7
      rw [zF_c (by omega)] at hq7
      repeat' (first
    | (with_reducible apply z_nm; (case he => repeat (with_reducible first | exact zv_l _ | exact zv_r | apply zv_add | apply zv_sub | apply zv_neg)))
    | (with_reducible apply z_I; (case h => first | exact zg_I1 (by assumption) | with_unfolding_all rfl); (case hy => first | ((simp (disch := omega) only [zU_c, zU_e, zU_k, zF_c, zF_i, zF_o, zW_o, zW_i, zC_c, zC_i, zC_o]); rfl) | rfl))
    | (with_reducible apply z_b_R; (case h => first | exact zg_R9 (by assumption) | with_unfolding_all rfl))
    | (with_reducible apply z_L; (case he => repeat (with_reducible first | exact zv_l _ | exact zv_r | apply zv_add | apply zv_sub | apply zv_neg)); (case hn => with_reducible first | assumption | exact zg_L9 (by assumption) | exact zl_2 | exact zl_4 | exact zl_5 | exact zl_6 | exact zl_7 | exact zl_9); (case h => omega); (case hy => first | ((simp (disch := omega) only [zU_c, zU_e, zU_k, zF_c, zF_i, zF_o, zW_o, zW_i, zC_c, zC_i, zC_o]); rfl) | rfl))
    | (with_reducible apply z_0isLeft; (case a1 => assumption); (case e1 => repeat (with_reducible first | exact zv_l _ | exact zv_r | apply zv_add | apply zv_sub | apply zv_neg)); (case r1 => first | omega | ((simp (disch := omega) only [zU_c, zU_e, zU_k, zF_c, zF_i, zF_o, zW_o, zW_i, zC_c, zC_i, zC_o]); omega)); (case r2 => first | omega | ((simp (disch := omega) only [zU_c, zU_e, zU_k, zF_c, zF_i, zF_o, zW_o, zW_i, zC_c, zC_i, zC_o]); omega)))
    | (with_reducible apply z_0award; (case a1 => assumption); (case a2 => assumption); (case r7 => first | omega | ((simp (disch := omega) only [zU_c, zU_e, zU_k, zF_c, zF_i, zF_o, zW_o, zW_i, zC_c, zC_i, zC_o]); omega)); (case e1 => repeat (with_reducible first | exact zv_l _ | exact zv_r | apply zv_add | apply zv_sub | apply zv_neg)); (case e2 => repeat (with_reducible first | exact zv_l _ | exact zv_r | apply zv_add | apply zv_sub | apply zv_neg)); (case e3 => repeat (with_reducible first | exact zv_l _ | exact zv_r | apply zv_add | apply zv_sub | apply zv_neg)); (case r1 => first | omega | ((simp (disch := omega) only [zU_c, zU_e, zU_k, zF_c, zF_i, zF_o, zW_o, zW_i, zC_c, zC_i, zC_o]); omega)); (case r2 => first | omega | ((simp (disch := omega) only [zU_c, zU_e, zU_k, zF_c, zF_i, zF_o, zW_o, zW_i, zC_c, zC_i, zC_o]); omega)); (case r3 => first | omega | ((simp (disch := omega) only [zU_c, zU_e, zU_k, zF_c, zF_i, zF_o, zW_o, zW_i, zC_c, zC_i, zC_o]); omega)); (case r4 => first | omega | ((simp (disch := omega) only [zU_c, zU_e, zU_k, zF_c, zF_i, zF_o, zW_o, zW_i, zC_c, zC_i, zC_o]); omega)); (case r5 => first | omega | ((simp (disch := omega) only [zU_c, zU_e, zU_k, zF_c, zF_i, zF_o, zW_o, zW_i, zC_c, zC_i, zC_o]); omega)); (case r6 => first | omega | ((simp (disch := omega) only [zU_c, zU_e, zU_k, zF_c, zF_i, zF_o, zW_o, zW_i, zC_c, zC_i, zC_o]); omega))))
      refine hk _ _ _ (by omega) ⟨i + 1, rfl, by omega, rfl, ?_⟩
      rw [zPi_l hq7]
set_option maxRecDepth 100000 in
set_option maxHeartbeats 1000000 in
theorem s_0pointsInto {m : zMe} {r q : Nat} (a1 : zG r) (a2 : zLen q = 6) (r7 : ¬ (r ≤ q ∧ q ≤ r + 7)) (r3 : 0 ≤ m r 0 ∧ m r 0 ≤ 6) (r1 : 0 ≤ m r 1 ∧ m r 1 ≤ 9) (r2 : 0 ≤ m r 2 ∧ m r 2 ≤ 2) (a3 : ∀ k, 0 ≤ k → k < m r 1 → (-1 ≤ m (r + 7) k ∧ m (r + 7) k ≤ 2) ∧ (0 ≤ m (r + 4) k ∧ m (r + 4) k < 6) ∧ (0 ≤ m (r + 5) k ∧ m (r + 5) k < 6) ∧ ¬ m (r + 4) k = m (r + 5) k) : f_X0_pointsInto r q (zM m) = some ((), zM (zF m q 0 6 (zPt m r))) := by
  refine zOk.eq ?_
  unfold f_X0_pointsInto
  repeat' (first
    | (with_reducible apply z_nm; (case he => repeat (with_reducible first | exact zv_l _ | exact zv_r | apply zv_add | apply zv_sub | apply zv_neg)))
    | with_reducible refine z_b (zg_ck (by assumption)) ?_
    | (with_reducible apply z_b_ck; (case h => with_unfolding_all rfl))
    | (with_reducible apply z_I; (case h => first | exact zg_I0 (by assumption) | with_unfolding_all rfl); (case hy => first | ((simp (disch := omega) only [zU_c, zU_e, zU_k, zF_c, zF_i, zF_o, zW_o, zW_i, zC_c, zC_i, zC_o]); rfl) | rfl))
    | (with_reducible apply z_b_R; (case h => first | exact zg_R3 (by assumption) | with_unfolding_all rfl))
    | (with_reducible apply z_L; (case he => repeat (with_reducible first | exact zv_l _ | exact zv_r | apply zv_add | apply zv_sub | apply zv_neg)); (case hn => with_reducible first | assumption | exact zg_L3 (by assumption) | exact zl_2 | exact zl_4 | exact zl_5 | exact zl_6 | exact zl_7 | exact zl_9); (case h => omega); (case hy => first | ((simp (disch := omega) only [zU_c, zU_e, zU_k, zF_c, zF_i, zF_o, zW_o, zW_i, zC_c, zC_i, zC_o]); rfl) | rfl))
    | (with_reducible apply z_S; (case he => repeat (with_reducible first | exact zv_l _ | exact zv_r | apply zv_add | apply zv_sub | apply zv_neg)); (case hg => repeat (with_reducible first | exact zv_l _ | exact zv_r | apply zv_add | apply zv_sub | apply zv_neg)); (case hn => with_reducible first | assumption | exact zg_L3 (by assumption) | exact zl_2 | exact zl_4 | exact zl_5 | exact zl_6 | exact zl_7 | exact zl_9); (case h => omega)))
  refine z_lp (fun n v m1 => ∃ i : Int, v = (r, q, zI i) ∧ 0 ≤ i ∧ i ≤ 6 ∧ n = (6 - i).toNat ∧ m1 = zF m q 0 i (zPi m r 0)) (fun _ _ v m1 => v = () ∧ m1 = zF m q 0 6 (zPt m r)) ?_ 600 6 _ _ (by omega) ⟨0, rfl, by omega, by omega, by omega, (zF_0 _ _ _ _).symm⟩
  rintro n v m1 k ⟨i, rfl, h0, h1, rfl, rfl⟩ hk
  unfold f_X0_pointsInto_2
  dsimp only
  (first
    | (with_reducible apply z_B; all_goals (intro _; try (exfalso; omega)))
    | (with_reducible apply z_E; all_goals intro _)
    | (with_reducible apply z_lt; (case ha => repeat (with_reducible first | exact zv_l _ | exact zv_r | apply zv_add | apply zv_sub | apply zv_neg)); (case hb => repeat (with_reducible first | exact zv_l _ | exact zv_r | apply zv_add | apply zv_sub | apply zv_neg)); (case hx => omega); (case hy => omega); all_goals (intro _; try (exfalso; omega)))
    | (with_reducible apply z_le; (case ha => repeat (with_reducible first | exact zv_l _ | exact zv_r | apply zv_add | apply zv_sub | apply zv_neg)); (case hb => repeat (with_reducible first | exact zv_l _ | exact zv_r | apply zv_add | apply zv_sub | apply zv_neg)); (case hx => omega); (case hy => omega); all_goals (intro _; try (exfalso; omega)))
    | (with_reducible apply z_eq; (case ha => repeat (with_reducible first | exact zv_l _ | exact zv_r | apply zv_add | apply zv_sub | apply zv_neg)); (case hb => repeat (with_reducible first | exact zv_l _ | exact zv_r | apply zv_add | apply zv_sub | apply zv_neg)); (case hx => omega); (case hy => omega); all_goals (intro _; try (exfalso; omega))))
  · have : i = 6 := by omega
    subst this
    exact s0_pts2 a1 a2 r7 r1 r2 a3
  · unfold f_X0_pointsInto_28
    repeat' (first | (first
    | (with_reducible apply z_nm; (case he => repeat (with_reducible first | exact zv_l _ | exact zv_r | apply zv_add | apply zv_sub | apply zv_neg)))
    | with_reducible refine z_b (zg_ck (by assumption)) ?_
    | (with_reducible apply z_b_ck; (case h => with_unfolding_all rfl))
    | (with_reducible apply z_I; (case h => first | exact zg_I0 (by assumption) | with_unfolding_all rfl); (case hy => first | ((simp (disch := omega) only [zU_c, zU_e, zU_k, zF_c, zF_i, zF_o, zW_o, zW_i, zC_c, zC_i, zC_o]); rfl) | rfl))
    | (with_reducible apply z_b_R; (case h => first | exact zg_R3 (by assumption) | with_unfolding_all rfl))
    | (with_reducible apply z_L; (case he => repeat (with_reducible first | exact zv_l _ | exact zv_r | apply zv_add | apply zv_sub | apply zv_neg)); (case hn => with_reducible first | assumption | exact zg_L3 (by assumption) | exact zl_2 | exact zl_4 | exact zl_5 | exact zl_6 | exact zl_7 | exact zl_9); (case h => omega); (case hy => first | ((simp (disch := omega) only [zU_c, zU_e, zU_k, zF_c, zF_i, zF_o, zW_o, zW_i, zC_c, zC_i, zC_o]); rfl) | rfl))
    | (with_reducible apply z_S; (case he => repeat (with_reducible first | exact zv_l _ | exact zv_r | apply zv_add | apply zv_sub | apply zv_neg)); (case hg => repeat (with_reducible first | exact zv_l _ | exact zv_r | apply zv_add | apply zv_sub | apply zv_neg)); (case hn => with_reducible first | assumption | exact zg_L3 (by assumption) | exact zl_2 | exact zl_4 | exact zl_5 | exact zl_6 | exact zl_7 | exact zl_9); (case h => omega))) | (first
    | (with_reducible apply z_B; all_goals (intro _; try (exfalso; omega)))
    | (with_reducible apply z_E; all_goals intro _)
    | (with_reducible apply z_lt; (case ha => repeat (with_reducible first | exact zv_l _ | exact zv_r | apply zv_add | apply zv_sub | apply zv_neg)); (case hb => repeat (with_reducible first | exact zv_l _ | exact zv_r | apply zv_add | apply zv_sub | apply zv_neg)); (case hx => omega); (case hy => omega); all_goals (intro _; try (exfalso; omega)))
    | (with_reducible apply z_le; (case ha => repeat (with_reducible first | exact zv_l _ | exact zv_r | apply zv_add | apply zv_sub | apply zv_neg)); (case hb => repeat (with_reducible first | exact zv_l _ | exact zv_r | apply zv_add | apply zv_sub | apply zv_neg)); (case hx => omega); (case hy => omega); all_goals (intro _; try (exfalso; omega)))
    | (with_reducible apply z_eq; (case ha => repeat (with_reducible first | exact zv_l _ | exact zv_r | apply zv_add | apply zv_sub | apply zv_neg)); (case hb => repeat (with_reducible first | exact zv_l _ | exact zv_r | apply zv_add | apply zv_sub | apply zv_neg)); (case hx => omega); (case hy => omega); all_goals (intro _; try (exfalso; omega)))))
    · rename_i hq7
      refine hk _ _ _ (by omega) ⟨i + 1, rfl, by omega, by omega, rfl, zF_s h0 (by omega) ?_⟩
      unfold zPi
      rw [if_neg (by omega)]
      rfl
    · refine hk _ _ _ (by omega) ⟨i + 1, rfl, by omega, by omega, rfl, zF_s h0 (by omega) ?_⟩
      unfold zPi
      rw [if_pos (by omega)]
      show _ = _ + 0
      omega
theorem z_0pointsInto {m : zMe} {r q : Nat} (a1 : zG r) (a2 : zLen q = 6) (r7 : ¬ (r ≤ q ∧ q ≤ r + 7)) (r3 : 0 ≤ m r 0 ∧ m r 0 ≤ 6) (r1 : 0 ≤ m r 1 ∧ m r 1 ≤ 9) (r2 : 0 ≤ m r 2 ∧ m r 2 ≤ 2) (a3 : ∀ k, 0 ≤ k → k < m r 1 → (-1 ≤ m (r + 7) k ∧ m (r + 7) k ≤ 2) ∧ (0 ≤ m (r + 4) k ∧ m (r + 4) k < 6) ∧ (0 ≤ m (r + 5) k ∧ m (r + 5) k < 6) ∧ ¬ m (r + 4) k = m (r + 5) k) {α : Type} {kf : Unit × Hp → Option (α × Hp)} {Q : α → zMe → Prop} (K : zOk (kf ((), zM (zF m q 0 6 (zPt m r)))) Q) : zOk ((f_X0_pointsInto r q (zM m)).bind kf) Q := z_b (s_0pointsInto a1 a2 r7 r3 r1 r2 a3) K
