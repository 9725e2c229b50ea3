/-! feed, sheet -/
def zArg (a b c d e : Int) : Int → Int := fun j => if j = 0 then a else if j = 1 then b else if j = 2 then c else if j = 3 then d else e
set_option maxRecDepth 100000 in
set_option maxHeartbeats 1000000 in
theorem s_4add {m : zMe} {e : Int32} {x : Int} (e1 : e = zI x) (r1 : 0 ≤ m 1 1 ∧ m 1 1 < 40) : f_X4_add 1 e (zM m) = some ((), zM (zU (zU m 2 (m 1 1) x) 1 1 (m 1 1 + 1))) := by
  subst e1
  refine zOk.eq ?_
  unfold f_X4_add
  repeat' (first
    | (with_reducible apply z_nm; (case he => repeat (with_reducible first | exact zv_l _ | exact zv_r | apply zv_add)))
    | (with_reducible apply z_b_ck; (case h => with_unfolding_all rfl))
    | (with_reducible apply z_I; (case h => first | with_unfolding_all rfl); (case hy => first | ((simp (disch := omega) only [zU_c, zU_e, zU_k, zF_c, zF_i, zF_o, zW_o, zW_i, zC_c, zC_i, zC_o]); rfl) | rfl))
    | (with_reducible apply z_b_R; (case h => first | with_unfolding_all rfl))
    | (with_reducible apply z_PU; (case he => repeat (with_reducible first | exact zv_l _ | exact zv_r | apply zv_add)); (case h => with_reducible first | exact zp_1_1 _))
    | (with_reducible apply z_S; (case he => repeat (with_reducible first | exact zv_l _ | exact zv_r | apply zv_add)); (case hg => repeat (with_reducible first | exact zv_l _ | exact zv_r | apply zv_add)); (case hn => with_reducible first | assumption | exact zl_2 | exact zl_40); (case h => omega)))
  refine z_lt (x := m 1 1) (y := 40) rfl rfl (by omega) (by omega) (fun _ => ?_) (fun h => absurd r1.2 h)
  repeat' (first
    | (with_reducible apply z_nm; (case he => repeat (with_reducible first | exact zv_l _ | exact zv_r | apply zv_add)))
    | (with_reducible apply z_b_ck; (case h => with_unfolding_all rfl))
    | (with_reducible apply z_I; (case h => first | with_unfolding_all rfl); (case hy => first | ((simp (disch := omega) only [zU_c, zU_e, zU_k, zF_c, zF_i, zF_o, zW_o, zW_i, zC_c, zC_i, zC_o]); rfl) | rfl))
    | (with_reducible apply z_b_R; (case h => first | with_unfolding_all rfl))
    | (with_reducible apply z_PU; (case he => repeat (with_reducible first | exact zv_l _ | exact zv_r | apply zv_add)); (case h => with_reducible first | exact zp_1_1 _))
    | (with_reducible apply z_S; (case he => repeat (with_reducible first | exact zv_l _ | exact zv_r | apply zv_add)); (case hg => repeat (with_reducible first | exact zv_l _ | exact zv_r | apply zv_add)); (case hn => with_reducible first | assumption | exact zl_2 | exact zl_40); (case h => omega)))
  exact ⟨_, _, rfl, rfl, rfl⟩
theorem z_4add {m : zMe} {e : Int32} {x : Int} (e1 : e = zI x) (r1 : 0 ≤ m 1 1 ∧ m 1 1 < 40) {α : Type} {kf : Unit × Hp → Option (α × Hp)} {Q : α → zMe → Prop} (K : zOk (kf ((), zM (zU (zU m 2 (m 1 1) x) 1 1 (m 1 1 + 1)))) Q) : zOk ((f_X4_add 1 e (zM m)).bind kf) Q := z_b (s_4add e1 r1) K
theorem zF_1 {m : zMe} {s s' x y : Int} {g : Int → Int} (i i' : Int) (h : 0 ≤ i) (hi : i' = i + 1) (hs : s' = s + i) (hx : x = g i) : zU (zU (zU (zF m 2 s i g) 1 1 s') 2 s' x) 1 1 y = zU (zF m 2 s i' g) 1 1 y := by
  subst hi
  rw [← zF_s h hs hx]
  funext c j
  unfold zU
  by_cases h1 : c = 1
  · subst h1
    by_cases h2 : j = 1
    · simp [h2]
    · simp [h2]
  · simp [h1]
theorem zF_1' {m : zMe} {s x y : Int} {g : Int → Int} (hx : x = g 0) : zU (zU m 2 s x) 1 1 y = zU (zF m 2 s 1 g) 1 1 y := by
  rw [show (1 : Int) = 0 + 1 from rfl, ← zF_s (k := s) (y := x) (by omega) (by omega) hx, zF_0]
def zFd (n a b c d e : Int) : Prop := (1 ≤ n ∧ n ≤ 5) ∧ (0 ≤ a ∧ a ≤ 255) ∧ (0 ≤ b ∧ b ≤ 255) ∧ (0 ≤ c ∧ c ≤ 255) ∧ (0 ≤ d ∧ d ≤ 255) ∧ (0 ≤ e ∧ e ≤ 255)
set_option maxRecDepth 100000 in
set_option maxHeartbeats 1000000 in
theorem s6_feed {m : zMe} {n a b c d e : Int} (h : zFd n a b c d e) (r1 : 0 ≤ m 1 1 ∧ m 1 1 + n ≤ 40) : f_X6_feed 0 (zI n) (zI a) (zI b) (zI c) (zI d) (zI e) (zM m) = some (zI (m 1 1 + n), zM (zU (zF m 2 (m 1 1) n (zArg a b c d e)) 1 1 (m 1 1 + n))) := by
  obtain ⟨hn, ha, hb, hc, hd, he⟩ := h
  have h5 : n = 1 ∨ n = 2 ∨ n = 3 ∨ n = 4 ∨ n = 5 := by omega
  refine zOk.eq ?_
  rcases h5 with rfl | rfl | rfl | rfl | rfl
  all_goals unfold f_X6_feed f_X6_feed_92 f_X6_feed_106 f_X6_feed_120 f_X6_feed_134
  all_goals repeat' (first | (first
    | (with_reducible apply z_nm; (case he => repeat (with_reducible first | exact zv_l _ | exact zv_r | apply zv_add | apply zv_neg)))
    | (with_reducible apply z_b_ck; (case h => with_unfolding_all rfl))
    | (with_reducible apply z_I; (case h => first | with_unfolding_all rfl); (case hy => first | ((simp (disch := omega) only [zU_c, zU_e, zU_k, zF_c, zF_i, zF_o, zW_o, zW_i, zC_c, zC_i, zC_o]); rfl) | rfl))
    | (with_reducible apply z_b_R; (case h => first | with_unfolding_all rfl))
    | (with_reducible apply z_6isByte; (case e1 => repeat (with_reducible first | exact zv_l _ | exact zv_r | apply zv_add | apply zv_neg)); (case r1 => first | omega | ((simp (disch := omega) only [zU_c, zU_e, zU_k, zF_c, zF_i, zF_o, zW_o, zW_i, zC_c, zC_i, zC_o]); omega)))
    | (with_reducible apply z_4add; (case e1 => repeat (with_reducible first | exact zv_l _ | exact zv_r | apply zv_add | apply zv_neg)); (case r1 => first | omega | ((simp (disch := omega) only [zU_c, zU_e, zU_k, zF_c, zF_i, zF_o, zW_o, zW_i, zC_c, zC_i, zC_o]); omega)))) | (first
    | (with_reducible apply z_B; all_goals (intro _; try (exfalso; omega)))
    | (with_reducible apply z_E; all_goals intro _)
    | (with_reducible apply z_lt; (case ha => repeat (with_reducible first | exact zv_l _ | exact zv_r | apply zv_add | apply zv_neg)); (case hb => repeat (with_reducible first | exact zv_l _ | exact zv_r | apply zv_add | apply zv_neg)); (case hx => omega); (case hy => omega); all_goals (intro _; try (exfalso; omega)))
    | (with_reducible apply z_le; (case ha => repeat (with_reducible first | exact zv_l _ | exact zv_r | apply zv_add | apply zv_neg)); (case hb => repeat (with_reducible first | exact zv_l _ | exact zv_r | apply zv_add | apply zv_neg)); (case hx => omega); (case hy => omega); all_goals (intro _; try (exfalso; omega)))
    | (with_reducible apply z_eq; (case ha => repeat (with_reducible first | exact zv_l _ | exact zv_r | apply zv_add | apply zv_neg)); (case hb => repeat (with_reducible first | exact zv_l _ | exact zv_r | apply zv_add | apply zv_neg)); (case hx => omega); (case hy => omega); all_goals (intro _; try (exfalso; omega)))))
  all_goals (first | (with_reducible apply z_reti; (case he => repeat (with_reducible first | exact zv_l _ | exact zv_r | apply zv_add | apply zv_neg))) | with_reducible refine z_ret ?_)
  all_goals refine ⟨?_, ?_⟩
  all_goals (try simp only [zU_e, Int.add_assoc, Int.reduceAdd])
  · exact zF_1' rfl
  · rw [zF_1' (x := a) (g := zArg a b c d e) rfl, zF_1 (x := b) (g := zArg a b c d e) 1 2 (by omega) rfl rfl rfl]
  · rw [zF_1' (x := a) (g := zArg a b c d e) rfl, zF_1 (x := b) (g := zArg a b c d e) 1 2 (by omega) rfl rfl rfl, zF_1 (x := c) (g := zArg a b c d e) 2 3 (by omega) rfl rfl rfl]
  · rw [zF_1' (x := a) (g := zArg a b c d e) rfl, zF_1 (x := b) (g := zArg a b c d e) 1 2 (by omega) rfl rfl rfl, zF_1 (x := c) (g := zArg a b c d e) 2 3 (by omega) rfl rfl rfl, zF_1 (x := d) (g := zArg a b c d e) 3 4 (by omega) rfl rfl rfl]
  · rw [zF_1' (x := a) (g := zArg a b c d e) rfl, zF_1 (x := b) (g := zArg a b c d e) 1 2 (by omega) rfl rfl rfl, zF_1 (x := c) (g := zArg a b c d e) 2 3 (by omega) rfl rfl rfl, zF_1 (x := d) (g := zArg a b c d e) 3 4 (by omega) rfl rfl rfl, zF_1 (x := e) (g := zArg a b c d e) 4 5 (by omega) rfl rfl rfl]
theorem s7_feed_l {m : zMe} {n a b c d e : Int} (hn : 1 ≤ n ∧ n ≤ 5) (r1 : 0 ≤ m 50 11 ∧ m 50 11 + n ≤ 40) : zOk (lp f_X7_feed_70 600 (50, zI n, zI a, zI b, zI c, zI d, zI e, zI 0) (zM m)) (fun v m' => v = zI (m 50 11 + n) ∧ m' = zU (zF m 56 (m 50 11) n (zArg a b c d e)) 50 11 (m 50 11 + n)) := by
  refine z_lp (fun k v m1 => ∃ i : Int, v = (50, zI n, zI a, zI b, zI c, zI d, zI e, zI i) ∧ 0 ≤ i ∧ i ≤ n ∧ k = (n - i).toNat ∧ m1 = zU (zF m 56 (m 50 11) i (zArg a b c d e)) 50 11 (m 50 11 + i)) (fun _ _ v m' => v = zI (m 50 11 + n) ∧ m' = zU (zF m 56 (m 50 11) n (zArg a b c d e)) 50 11 (m 50 11 + n)) ?_ 600 n.toNat _ m (by omega) ⟨0, rfl, by omega, by omega, by omega, ?_⟩
  · rintro k v m1 kk ⟨i, rfl, h0, h1, rfl, rfl⟩ hk
    have g0 : i = 0 → a = zArg a b c d e i := by rintro rfl; rfl
    have g1 : i = 1 → b = zArg a b c d e i := by rintro rfl; rfl
    have g2 : i = 2 → c = zArg a b c d e i := by rintro rfl; rfl
    have g3 : i = 3 → d = zArg a b c d e i := by rintro rfl; rfl
    have g4 : ¬ i = 0 → ¬ i = 1 → ¬ i = 2 → ¬ i = 3 → e = zArg a b c d e i := fun q0 q1 q2 q3 => by
      unfold zArg
      rw [if_neg q0, if_neg q1, if_neg q2, if_neg q3]
    have gm : ∀ x, x = zArg a b c d e i → zU (zU (zU (zF m 56 (m 50 11) i (zArg a b c d e)) 50 11 (m 50 11 + i)) 56 (m 50 11 + i) x) 50 11 (m 50 11 + i + 1) = zU (zF m 56 (m 50 11) (i + 1) (zArg a b c d e)) 50 11 (m 50 11 + (i + 1)) := fun x hx => by
      rw [← zF_s (k := m 50 11 + i) (y := x) h0 rfl hx, Int.add_assoc]
      funext c j
      unfold zU
      by_cases h1 : c = 50
      · subst h1
        by_cases h2 : j = 11
        · simp [h2]
        · simp [h2]
      · simp [h1]
    have hq : ∀ x, x = zArg a b c d e i → i < n → zOk (kk (50, zI n, zI a, zI b, zI c, zI d, zI e, zI (i + 1)) (zM (zU (zU (zU (zF m 56 (m 50 11) i (zArg a b c d e)) 50 11 (m 50 11 + i)) 56 (m 50 11 + i) x) 50 11 (m 50 11 + i + 1)))) (fun v m' => v = zI (m 50 11 + n) ∧ m' = zU (zF m 56 (m 50 11) n (zArg a b c d e)) 50 11 (m 50 11 + n)) := fun x hx hl => hk _ _ _ (by omega) ⟨i + 1, rfl, by omega, by omega, rfl, gm x hx⟩
    unfold f_X7_feed_70
    dsimp only
    unfold f_X7_feed_127
    repeat' (first | (first
    | (with_reducible apply z_nm; (case he => repeat (with_reducible first | exact zv_l _ | exact zv_r | apply zv_add | apply zv_sub)))
    | (with_reducible apply z_I; (case h => first | with_unfolding_all rfl); (case hy => first | ((simp (disch := omega) only [zU_c, zU_e, zU_k, zF_c, zF_i, zF_o, zW_o, zW_i, zC_c, zC_i, zC_o]); rfl) | rfl))
    | (with_reducible apply z_b_R; (case h => first | with_unfolding_all rfl))
    | (with_reducible apply z_PU; (case he => repeat (with_reducible first | exact zv_l _ | exact zv_r | apply zv_add | apply zv_sub)); (case h => with_reducible first | exact zp_50_11 _))
    | (with_reducible apply z_S; (case he => repeat (with_reducible first | exact zv_l _ | exact zv_r | apply zv_add | apply zv_sub)); (case hg => repeat (with_reducible first | exact zv_l _ | exact zv_r | apply zv_add | apply zv_sub)); (case hn => with_reducible first | assumption | exact zl_2 | exact zl_5 | exact zl_40 | exact zl_56); (case h => omega))) | (first
    | (with_reducible apply z_B; all_goals (intro _; try (exfalso; omega)))
    | (with_reducible apply z_E; all_goals intro _)
    | (with_reducible apply z_lt; (case ha => repeat (with_reducible first | exact zv_l _ | exact zv_r | apply zv_add | apply zv_sub)); (case hb => repeat (with_reducible first | exact zv_l _ | exact zv_r | apply zv_add | apply zv_sub)); (case hx => omega); (case hy => omega); all_goals (intro _; try (exfalso; omega)))
    | (with_reducible apply z_le; (case ha => repeat (with_reducible first | exact zv_l _ | exact zv_r | apply zv_add | apply zv_sub)); (case hb => repeat (with_reducible first | exact zv_l _ | exact zv_r | apply zv_add | apply zv_sub)); (case hx => omega); (case hy => omega); all_goals (intro _; try (exfalso; omega)))
    | (with_reducible apply z_eq; (case ha => repeat (with_reducible first | exact zv_l _ | exact zv_r | apply zv_add | apply zv_sub)); (case hb => repeat (with_reducible first | exact zv_l _ | exact zv_r | apply zv_add | apply zv_sub)); (case hx => omega); (case hy => omega); all_goals (intro _; try (exfalso; omega)))))
    · (first | (with_reducible apply z_reti; (case he => repeat (with_reducible first | exact zv_l _ | exact zv_r | apply zv_add | apply zv_sub))) | with_reducible refine z_ret ?_)
      have : i = n := by omega
      subst this
      exact ⟨rfl, rfl⟩
    · exact hq _ (g0 (by omega)) (by omega)
    · exact hq _ (g1 (by omega)) (by omega)
    · exact hq _ (g2 (by omega)) (by omega)
    · exact hq _ (g3 (by omega)) (by omega)
    · exact hq _ (g4 (by omega) (by omega) (by omega) (by omega)) (by omega)
  · rw [zF_0]
    funext c j
    unfold zU
    by_cases h1 : c = 50
    · subst h1
      by_cases h2 : j = 11
      · simp [h2]
      · simp [h2]
    · simp [h1]

theorem s7_feed {m : zMe} {n a b c d e : Int} (h : zFd n a b c d e) (r1 : 0 ≤ m 50 11 ∧ m 50 11 + n ≤ 40) : f_X7_feed 50 (zI n) (zI a) (zI b) (zI c) (zI d) (zI e) (zM m) = some (zI (m 50 11 + n), zM (zU (zF m 56 (m 50 11) n (zArg a b c d e)) 50 11 (m 50 11 + n))) := by
  obtain ⟨hn, ha, hb, hc, hd, he⟩ := h
  refine zOk.eq ?_
  unfold f_X7_feed
  repeat' (first | (first
    | (with_reducible apply z_nm; (case he => repeat (with_reducible first | exact zv_l _ | exact zv_r | apply zv_add | apply zv_neg)))
    | (with_reducible apply z_b_ck; (case h => with_unfolding_all rfl))
    | (with_reducible apply z_I; (case h => first | with_unfolding_all rfl); (case hy => first | ((simp (disch := omega) only [zU_c, zU_e, zU_k, zF_c, zF_i, zF_o, zW_o, zW_i, zC_c, zC_i, zC_o]); rfl) | rfl))
    | (with_reducible apply z_in; (case hA => first | with_reducible exact zj_l _ (by decide) | with_reducible exact zj_m1 | (with_reducible apply zj_e; repeat (with_reducible first | exact zv_l _ | exact zv_r | apply zv_add | apply zv_neg))); (case hL => first | with_reducible exact zj_l _ (by decide) | with_reducible exact zj_m1 | (with_reducible apply zj_e; repeat (with_reducible first | exact zv_l _ | exact zv_r | apply zv_add | apply zv_neg))); (case hH => first | with_reducible exact zj_l _ (by decide) | with_reducible exact zj_m1 | (with_reducible apply zj_e; repeat (with_reducible first | exact zv_l _ | exact zv_r | apply zv_add | apply zv_neg))); (case rx => omega); (case rl => omega); (case rh => omega))
    | (with_reducible apply z_7isByte; (case e1 => repeat (with_reducible first | exact zv_l _ | exact zv_r | apply zv_add | apply zv_neg)); (case r1 => first | omega | ((simp (disch := omega) only [zU_c, zU_e, zU_k, zF_c, zF_i, zF_o, zW_o, zW_i, zC_c, zC_i, zC_o]); omega)))) | (first
    | (with_reducible apply z_B; all_goals (intro _; try (exfalso; omega)))
    | (with_reducible apply z_E; all_goals intro _)
    | (with_reducible apply z_lt; (case ha => repeat (with_reducible first | exact zv_l _ | exact zv_r | apply zv_add | apply zv_neg)); (case hb => repeat (with_reducible first | exact zv_l _ | exact zv_r | apply zv_add | apply zv_neg)); (case hx => omega); (case hy => omega); all_goals (intro _; try (exfalso; omega)))
    | (with_reducible apply z_le; (case ha => repeat (with_reducible first | exact zv_l _ | exact zv_r | apply zv_add | apply zv_neg)); (case hb => repeat (with_reducible first | exact zv_l _ | exact zv_r | apply zv_add | apply zv_neg)); (case hx => omega); (case hy => omega); all_goals (intro _; try (exfalso; omega)))
    | (with_reducible apply z_eq; (case ha => repeat (with_reducible first | exact zv_l _ | exact zv_r | apply zv_add | apply zv_neg)); (case hb => repeat (with_reducible first | exact zv_l _ | exact zv_r | apply zv_add | apply zv_neg)); (case hx => omega); (case hy => omega); all_goals (intro _; try (exfalso; omega)))))
  exact s7_feed_l hn r1
/-- sheet, where it is done -/
theorem s6_sheet {m : zMe} {a b n : Int} (ha : 0 ≤ a ∧ a < 4) (hb : b = -1 ∨ b = 0 ∨ b = 1) (hn : b = -1 ∨ (0 ≤ n ∧ n ≤ 40)) (rn : -2147483648 ≤ n ∧ n < 2147483648) : f_X6_sheet 0 (zI a) (zI b) (zI n) (zM m) = some (zI 1, zM (zF (zU (zU m (zSh a) 1 b) (zSh a) 2 (if b = -1 then 0 else n)) (zSh a + 1) 0 40 (fun _ => 0))) := by
  have hS := zS_Sh ha
  refine zOk.eq ?_
  unfold f_X6_sheet
  repeat' (first | (first
    | (with_reducible apply z_nm; (case he => repeat (with_reducible first | exact zv_l _ | exact zv_r | apply zv_add | apply zv_neg)))
    | (with_reducible apply z_b_ck; (case h => with_unfolding_all rfl))
    | (with_reducible apply z_b_R; (case h => first | with_unfolding_all rfl))
    | (with_reducible apply z_Q; (case he => repeat (with_reducible first | exact zv_l _ | exact zv_r | apply zv_add | apply zv_neg)); (case h => omega))
    | (with_reducible apply z_6isSheet; (case e1 => repeat (with_reducible first | exact zv_l _ | exact zv_r | apply zv_add | apply zv_neg)); (case r1 => first | omega | ((simp (disch := omega) only [zU_c, zU_e, zU_k, zF_c, zF_i, zF_o, zW_o, zW_i, zC_c, zC_i, zC_o]); omega)))
    | (with_reducible apply z_6isSort; (case e1 => repeat (with_reducible first | exact zv_l _ | exact zv_r | apply zv_add | apply zv_neg)); (case r1 => first | omega | ((simp (disch := omega) only [zU_c, zU_e, zU_k, zF_c, zF_i, zF_o, zW_o, zW_i, zC_c, zC_i, zC_o]); omega)))
    | (with_reducible apply z_2become; (case a1 => assumption); (case e1 => repeat (with_reducible first | exact zv_l _ | exact zv_r | apply zv_add | apply zv_neg)); (case e2 => repeat (with_reducible first | exact zv_l _ | exact zv_r | apply zv_add | apply zv_neg)))) | (first
    | (with_reducible apply z_B; all_goals (intro _; try (exfalso; omega)))
    | (with_reducible apply z_E; all_goals intro _)
    | (with_reducible apply z_lt; (case ha => repeat (with_reducible first | exact zv_l _ | exact zv_r | apply zv_add | apply zv_neg)); (case hb => repeat (with_reducible first | exact zv_l _ | exact zv_r | apply zv_add | apply zv_neg)); (case hx => omega); (case hy => omega); all_goals (intro _; try (exfalso; omega)))
    | (with_reducible apply z_le; (case ha => repeat (with_reducible first | exact zv_l _ | exact zv_r | apply zv_add | apply zv_neg)); (case hb => repeat (with_reducible first | exact zv_l _ | exact zv_r | apply zv_add | apply zv_neg)); (case hx => omega); (case hy => omega); all_goals (intro _; try (exfalso; omega)))
    | (with_reducible apply z_eq; (case ha => repeat (with_reducible first | exact zv_l _ | exact zv_r | apply zv_add | apply zv_neg)); (case hb => repeat (with_reducible first | exact zv_l _ | exact zv_r | apply zv_add | apply zv_neg)); (case hx => omega); (case hy => omega); all_goals (intro _; try (exfalso; omega)))))
  · rw [if_pos (by omega)]
    refine ⟨_, _, rfl, rfl, ?_⟩
    rename_i h
    rw [h]
  · rw [if_neg (by omega)]
    exact ⟨_, _, rfl, rfl, rfl⟩
theorem s7_sheet_l {m : zMe} {a : Int} (ha : 0 ≤ a ∧ a < 4) : zOk (lp f_X7_sheet_71 600 (50, zI a, zI 0) (zM m)) (fun v m' => v = zI 1 ∧ m' = zF m 61 (40 * a) 40 (fun _ => 0)) := by
  refine z_lp (fun k v m1 => ∃ i : Int, v = (50, zI a, zI i) ∧ 0 ≤ i ∧ i ≤ 40 ∧ k = (40 - i).toNat ∧ m1 = zF m 61 (40 * a) i (fun _ => 0)) (fun _ _ v m' => v = zI 1 ∧ m' = zF m 61 (40 * a) 40 (fun _ => 0)) ?_ 600 40 _ m (by omega) ⟨0, rfl, by omega, by omega, by omega, (zF_0 _ _ _ _).symm⟩
  rintro k v m1 kk ⟨i, rfl, h0, h1, rfl, rfl⟩ hk
  unfold f_X7_sheet_71
  dsimp only
  repeat' (first | (first
    | (with_reducible apply z_nm; (case he => repeat (with_reducible first | exact zv_l _ | exact zv_r | apply zv_add | apply zv_sub | apply zv_mul)))
    | (with_reducible apply z_b_R; (case h => first | with_unfolding_all rfl))
    | (with_reducible apply z_S; (case he => repeat (with_reducible first | exact zv_l _ | exact zv_r | apply zv_add | apply zv_sub | apply zv_mul)); (case hg => repeat (with_reducible first | exact zv_l _ | exact zv_r | apply zv_add | apply zv_sub | apply zv_mul)); (case hn => with_reducible first | assumption | exact zl_4 | exact zl_40 | exact zl_61); (case h => omega))) | (first
    | (with_reducible apply z_B; all_goals (intro _; try (exfalso; omega)))
    | (with_reducible apply z_E; all_goals intro _)
    | (with_reducible apply z_lt; (case ha => repeat (with_reducible first | exact zv_l _ | exact zv_r | apply zv_add | apply zv_sub | apply zv_mul)); (case hb => repeat (with_reducible first | exact zv_l _ | exact zv_r | apply zv_add | apply zv_sub | apply zv_mul)); (case hx => omega); (case hy => omega); all_goals (intro _; try (exfalso; omega)))
    | (with_reducible apply z_le; (case ha => repeat (with_reducible first | exact zv_l _ | exact zv_r | apply zv_add | apply zv_sub | apply zv_mul)); (case hb => repeat (with_reducible first | exact zv_l _ | exact zv_r | apply zv_add | apply zv_sub | apply zv_mul)); (case hx => omega); (case hy => omega); all_goals (intro _; try (exfalso; omega)))
    | (with_reducible apply z_eq; (case ha => repeat (with_reducible first | exact zv_l _ | exact zv_r | apply zv_add | apply zv_sub | apply zv_mul)); (case hb => repeat (with_reducible first | exact zv_l _ | exact zv_r | apply zv_add | apply zv_sub | apply zv_mul)); (case hx => omega); (case hy => omega); all_goals (intro _; try (exfalso; omega)))))
  · (first | (with_reducible apply z_reti; (case he => repeat (with_reducible first | exact zv_l _ | exact zv_r | apply zv_add | apply zv_sub | apply zv_mul))) | with_reducible refine z_ret ?_)
    have : i = 40 := by omega
    subst this
    exact ⟨rfl, rfl⟩
  · exact hk _ _ _ (by omega) ⟨i + 1, rfl, by omega, by omega, rfl, zF_s h0 (by omega) rfl⟩
theorem s7_sheet {m : zMe} {a b n : Int} (ha : 0 ≤ a ∧ a < 4) (hb : b = -1 ∨ b = 0 ∨ b = 1) (hn : b = -1 ∨ (0 ≤ n ∧ n ≤ 40)) (rn : -2147483648 ≤ n ∧ n < 2147483648) : f_X7_sheet 50 (zI a) (zI b) (zI n) (zM m) = some (zI 1, zM (zF (zU (zU m 59 a b) 60 a (if b = -1 then 0 else n)) 61 (40 * a) 40 (fun _ => 0))) := by
  refine zOk.eq ?_
  unfold f_X7_sheet f_X7_sheet_33 f_X7_sheet_45 f_X7_sheet_67
  repeat' (first | (first
    | (with_reducible apply z_nm; (case he => repeat (with_reducible first | exact zv_l _ | exact zv_r | apply zv_mul | apply zv_neg)))
    | (with_reducible apply z_b_ck; (case h => with_unfolding_all rfl))
    | (with_reducible apply z_b_R; (case h => first | with_unfolding_all rfl))
    | (with_reducible apply z_S; (case he => repeat (with_reducible first | exact zv_l _ | exact zv_r | apply zv_mul | apply zv_neg)); (case hg => repeat (with_reducible first | exact zv_l _ | exact zv_r | apply zv_mul | apply zv_neg)); (case hn => with_reducible first | assumption | exact zl_4 | exact zl_40 | exact zl_59 | exact zl_60 | exact zl_61); (case h => omega))
    | (with_reducible apply z_in; (case hA => first | with_reducible exact zj_l _ (by decide) | with_reducible exact zj_m1 | (with_reducible apply zj_e; repeat (with_reducible first | exact zv_l _ | exact zv_r | apply zv_mul | apply zv_neg))); (case hL => first | with_reducible exact zj_l _ (by decide) | with_reducible exact zj_m1 | (with_reducible apply zj_e; repeat (with_reducible first | exact zv_l _ | exact zv_r | apply zv_mul | apply zv_neg))); (case hH => first | with_reducible exact zj_l _ (by decide) | with_reducible exact zj_m1 | (with_reducible apply zj_e; repeat (with_reducible first | exact zv_l _ | exact zv_r | apply zv_mul | apply zv_neg))); (case rx => omega); (case rl => omega); (case rh => omega))
    | (with_reducible apply z_7isSheet; (case e1 => repeat (with_reducible first | exact zv_l _ | exact zv_r | apply zv_mul | apply zv_neg)); (case r1 => first | omega | ((simp (disch := omega) only [zU_c, zU_e, zU_k, zF_c, zF_i, zF_o, zW_o, zW_i, zC_c, zC_i, zC_o]); omega)))) | (first
    | (with_reducible apply z_B; all_goals (intro _; try (exfalso; omega)))
    | (with_reducible apply z_E; all_goals intro _)
    | (with_reducible apply z_lt; (case ha => repeat (with_reducible first | exact zv_l _ | exact zv_r | apply zv_mul | apply zv_neg)); (case hb => repeat (with_reducible first | exact zv_l _ | exact zv_r | apply zv_mul | apply zv_neg)); (case hx => omega); (case hy => omega); all_goals (intro _; try (exfalso; omega)))
    | (with_reducible apply z_le; (case ha => repeat (with_reducible first | exact zv_l _ | exact zv_r | apply zv_mul | apply zv_neg)); (case hb => repeat (with_reducible first | exact zv_l _ | exact zv_r | apply zv_mul | apply zv_neg)); (case hx => omega); (case hy => omega); all_goals (intro _; try (exfalso; omega)))
    | (with_reducible apply z_eq; (case ha => repeat (with_reducible first | exact zv_l _ | exact zv_r | apply zv_mul | apply zv_neg)); (case hb => repeat (with_reducible first | exact zv_l _ | exact zv_r | apply zv_mul | apply zv_neg)); (case hx => omega); (case hy => omega); all_goals (intro _; try (exfalso; omega)))))
  · rw [if_pos (by omega)]
    exact s7_sheet_l ha
  · rw [if_neg (by omega)]
    exact s7_sheet_l ha
