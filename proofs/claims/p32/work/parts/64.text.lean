/-! StillInIt: texts -/
/-- what holds of a group at base r, of the tape -/
def zWf (m : zMe) (r : Nat) : Prop := ((0 ≤ m r 0 ∧ m r 0 ≤ 6) ∧ (0 ≤ m r 1 ∧ m r 1 ≤ 9) ∧ (0 ≤ m r 2 ∧ m r 2 ≤ 2)) ∧ (∀ t, 0 ≤ t → t < m r 0 → (0 ≤ m (r + 1) t ∧ m (r + 1) t ≤ 9) ∧ (1 ≤ m (r + 2) t ∧ m (r + 2) t ≤ 6)) ∧ (∀ k, 0 ≤ k → k < m r 1 → (-1 ≤ m (r + 7) k ∧ m (r + 7) k ≤ 2) ∧ (0 ≤ m (r + 4) k ∧ m (r + 4) k < m r 0) ∧ (0 ≤ m (r + 5) k ∧ m (r + 5) k < m r 0) ∧ (¬ m (r + 4) k = m (r + 5) k) ∧ (1 ≤ m (r + 6) k ∧ m (r + 6) k ≤ 30)) ∧ ∀ j, 0 ≤ j → j < 36 → 0 ≤ m (r + 3) j ∧ m (r + 3) j ≤ 255
def zTp (m : zMe) : Prop := (0 ≤ m 1 1 ∧ m 1 1 ≤ 40) ∧ (0 ≤ m 1 2 ∧ m 1 2 ≤ m 1 3 ∧ m 1 3 ≤ m 1 1) ∧ (0 ≤ m 1 4 ∧ m 1 4 ≤ 3) ∧ ∀ j, 0 ≤ j → j < 40 → 0 ≤ m 2 j ∧ m 2 j ≤ 255
theorem zTp_St {m : zMe} {b e s : Int} (h : zTp m) (h1 : 0 ≤ b ∧ b ≤ e ∧ e ≤ m 1 1) (h2 : 0 ≤ s ∧ s ≤ 3) : zTp (zSt m b e s) := by
  obtain ⟨g1, -, -, g4⟩ := h
  refine ⟨by rw [zSt_r1]; exact g1, by rw [zSt_r1, zSt_r2, zSt_r3]; exact h1, by rw [zSt_r4]; exact h2, fun j h0 h1 => ?_⟩
  rw [zSt_c (by omega)]
  exact g4 j h0 h1
theorem zTp_Tok {m : zMe} (h : zTp m) : zTp (zTok m) := by
  have hr := zTok_range (m := m) h.1 ⟨by have := h.2.1; omega, h.2.1.2.2⟩
  rw [zTok_r1] at hr
  have e : zTok m = zSt m (zTok m 1 2) (zTok m 1 3) (zTok m 1 4) := by
    rw [zTok_r2, zTok_r3, zTok_r4]
    rfl
  rw [e]
  exact zTp_St h hr.1 hr.2
theorem zWf_St {m : zMe} {b e s : Int} {r : Nat} (hr : zG r) (h : zWf m r) : zWf (zSt m b e s) r := by
  have e : ∀ c, c = r ∨ c = r + 1 ∨ c = r + 2 ∨ c = r + 3 ∨ c = r + 4 ∨ c = r + 5 ∨ c = r + 6 ∨ c = r + 7 → ∀ j, zSt m b e s c j = m c j := fun c hc j => zSt_c (by rcases hr with rfl | rfl | rfl <;> omega)
  unfold zWf at h ⊢
  simp only [e r (by omega), e (r + 1) (by omega), e (r + 2) (by omega), e (r + 3) (by omega), e (r + 4) (by omega), e (r + 5) (by omega), e (r + 6) (by omega), e (r + 7) (by omega)]
  exact h
theorem zWf_Tok {m : zMe} {r : Nat} (hr : zG r) (h : zWf m r) : zWf (zTok m) r := zWf_St hr h
/-- the team of the next token, if it is a name and not that of another -/
noncomputable def zRd (m : zMe) (a : Int) : Int := @ite Int (zNa (m 2) (zTok m 1 4) (zTok m 1 2) (zTok m 1 3) ∧ ¬ zWho m 3 (zTok m 1 2) (zTok m 1 3) = a) (Classical.propDecidable _) (zWho m 3 (zTok m 1 2) (zTok m 1 3)) (-1)
theorem zWho_St {m : zMe} {b e s : Int} {x y : Int} : zWho (zSt m b e s) 3 x y = zWho m 3 x y := by
  have e : ∀ c, ¬ c = 1 → ∀ j, zSt m b e s c j = m c j := fun c hc j => zSt_c hc
  unfold zWho zNm
  simp only [e 3 (by omega), e (3 + 2) (by omega), e (3 + 3) (by omega), e 2 (by omega)]
set_option maxRecDepth 100000 in
set_option maxHeartbeats 1000000 in
theorem s_6readTeam {m : zMe} {e : Int32} {a : Int} (e1 : e = zI a) (r1 : -1 ≤ a ∧ a < 6) (a1 : zTp m) (a2 : zWf m 3) : f_X6_readTeam 0 e (zM m) = some (zI (zRd m a), zM (zTok m)) := by
  subst e1
  have hT := zTp_Tok a1
  have hr := hT.2.1
  have h1 := hT.1
  have hW : zWf (zTok m) 3 := zWf_Tok (Or.inl rfl) a2
  refine zOk.eq ?_
  unfold f_X6_readTeam
  (first
    | (with_reducible apply z_nm; (case he => repeat (with_reducible first | exact zv_l _ | exact zv_r | apply zv_neg)))
    | (with_reducible apply z_b_ck; (case h => with_unfolding_all rfl))
    | (with_reducible apply z_I; (case h => first | with_unfolding_all rfl); (case hy => first | ((simp (disch := omega) only [zU_c, zU_e, zU_k, zF_c, zF_i, zF_o, zW_o, zW_i, zC_c, zC_i, zC_o]); rfl) | rfl))
    | (with_reducible apply z_b_R; (case h => first | with_unfolding_all rfl))
    | (with_reducible apply z_0whose; (case a1 => assumption); (case e5 => repeat (with_reducible first | exact zv_l _ | exact zv_r | apply zv_neg)); (case e6 => repeat (with_reducible first | exact zv_l _ | exact zv_r | apply zv_neg)); (case r1 => first | omega | ((simp (disch := omega) only [zU_c, zU_e, zU_k, zF_c, zF_i, zF_o, zW_o, zW_i, zC_c, zC_i, zC_o]); omega)); (case r2 => first | omega | ((simp (disch := omega) only [zU_c, zU_e, zU_k, zF_c, zF_i, zF_o, zW_o, zW_i, zC_c, zC_i, zC_o]); omega)); (case r3 => first | omega | ((simp (disch := omega) only [zU_c, zU_e, zU_k, zF_c, zF_i, zF_o, zW_o, zW_i, zC_c, zC_i, zC_o]); omega)); (case a4 => assumption); (case a2 => assumption); (case a3 => assumption))
    | (with_reducible apply z_4step; (case r1 => first | omega | ((simp (disch := omega) only [zU_c, zU_e, zU_k, zF_c, zF_i, zF_o, zW_o, zW_i, zC_c, zC_i, zC_o]); omega)); (case r2 => first | omega | ((simp (disch := omega) only [zU_c, zU_e, zU_k, zF_c, zF_i, zF_o, zW_o, zW_i, zC_c, zC_i, zC_o]); omega)); (case a1 => assumption))
    | (with_reducible apply z_4isName; (case r2 => first | omega | ((simp (disch := omega) only [zU_c, zU_e, zU_k, zF_c, zF_i, zF_o, zW_o, zW_i, zC_c, zC_i, zC_o]); omega)); (case r3 => first | omega | ((simp (disch := omega) only [zU_c, zU_e, zU_k, zF_c, zF_i, zF_o, zW_o, zW_i, zC_c, zC_i, zC_o]); omega)); (case a1 => assumption)))
  (first
    | (with_reducible apply z_nm; (case he => repeat (with_reducible first | exact zv_l _ | exact zv_r | apply zv_neg)))
    | (with_reducible apply z_b_ck; (case h => with_unfolding_all rfl))
    | (with_reducible apply z_I; (case h => first | with_unfolding_all rfl); (case hy => first | ((simp (disch := omega) only [zU_c, zU_e, zU_k, zF_c, zF_i, zF_o, zW_o, zW_i, zC_c, zC_i, zC_o]); rfl) | rfl))
    | (with_reducible apply z_b_R; (case h => first | with_unfolding_all rfl))
    | (with_reducible apply z_0whose; (case a1 => assumption); (case e5 => repeat (with_reducible first | exact zv_l _ | exact zv_r | apply zv_neg)); (case e6 => repeat (with_reducible first | exact zv_l _ | exact zv_r | apply zv_neg)); (case r1 => first | omega | ((simp (disch := omega) only [zU_c, zU_e, zU_k, zF_c, zF_i, zF_o, zW_o, zW_i, zC_c, zC_i, zC_o]); omega)); (case r2 => first | omega | ((simp (disch := omega) only [zU_c, zU_e, zU_k, zF_c, zF_i, zF_o, zW_o, zW_i, zC_c, zC_i, zC_o]); omega)); (case r3 => first | omega | ((simp (disch := omega) only [zU_c, zU_e, zU_k, zF_c, zF_i, zF_o, zW_o, zW_i, zC_c, zC_i, zC_o]); omega)); (case a4 => assumption); (case a2 => assumption); (case a3 => assumption))
    | (with_reducible apply z_4step; (case r1 => first | omega | ((simp (disch := omega) only [zU_c, zU_e, zU_k, zF_c, zF_i, zF_o, zW_o, zW_i, zC_c, zC_i, zC_o]); omega)); (case r2 => first | omega | ((simp (disch := omega) only [zU_c, zU_e, zU_k, zF_c, zF_i, zF_o, zW_o, zW_i, zC_c, zC_i, zC_o]); omega)); (case a1 => assumption))
    | (with_reducible apply z_4isName; (case r2 => first | omega | ((simp (disch := omega) only [zU_c, zU_e, zU_k, zF_c, zF_i, zF_o, zW_o, zW_i, zC_c, zC_i, zC_o]); omega)); (case r3 => first | omega | ((simp (disch := omega) only [zU_c, zU_e, zU_k, zF_c, zF_i, zF_o, zW_o, zW_i, zC_c, zC_i, zC_o]); omega)); (case a1 => assumption)))
  refine z_4step a1.1 ⟨by have := a1.2.1; omega, a1.2.1.2.2⟩ a1.2.2.2 ?_
  (first
    | (with_reducible apply z_nm; (case he => repeat (with_reducible first | exact zv_l _ | exact zv_r | apply zv_neg)))
    | (with_reducible apply z_b_ck; (case h => with_unfolding_all rfl))
    | (with_reducible apply z_I; (case h => first | with_unfolding_all rfl); (case hy => first | ((simp (disch := omega) only [zU_c, zU_e, zU_k, zF_c, zF_i, zF_o, zW_o, zW_i, zC_c, zC_i, zC_o]); rfl) | rfl))
    | (with_reducible apply z_b_R; (case h => first | with_unfolding_all rfl))
    | (with_reducible apply z_0whose; (case a1 => assumption); (case e5 => repeat (with_reducible first | exact zv_l _ | exact zv_r | apply zv_neg)); (case e6 => repeat (with_reducible first | exact zv_l _ | exact zv_r | apply zv_neg)); (case r1 => first | omega | ((simp (disch := omega) only [zU_c, zU_e, zU_k, zF_c, zF_i, zF_o, zW_o, zW_i, zC_c, zC_i, zC_o]); omega)); (case r2 => first | omega | ((simp (disch := omega) only [zU_c, zU_e, zU_k, zF_c, zF_i, zF_o, zW_o, zW_i, zC_c, zC_i, zC_o]); omega)); (case r3 => first | omega | ((simp (disch := omega) only [zU_c, zU_e, zU_k, zF_c, zF_i, zF_o, zW_o, zW_i, zC_c, zC_i, zC_o]); omega)); (case a4 => assumption); (case a2 => assumption); (case a3 => assumption))
    | (with_reducible apply z_4step; (case r1 => first | omega | ((simp (disch := omega) only [zU_c, zU_e, zU_k, zF_c, zF_i, zF_o, zW_o, zW_i, zC_c, zC_i, zC_o]); omega)); (case r2 => first | omega | ((simp (disch := omega) only [zU_c, zU_e, zU_k, zF_c, zF_i, zF_o, zW_o, zW_i, zC_c, zC_i, zC_o]); omega)); (case a1 => assumption))
    | (with_reducible apply z_4isName; (case r2 => first | omega | ((simp (disch := omega) only [zU_c, zU_e, zU_k, zF_c, zF_i, zF_o, zW_o, zW_i, zC_c, zC_i, zC_o]); omega)); (case r3 => first | omega | ((simp (disch := omega) only [zU_c, zU_e, zU_k, zF_c, zF_i, zF_o, zW_o, zW_i, zC_c, zC_i, zC_o]); omega)); (case a1 => assumption)))
  refine z_4isName ⟨by omega, by omega, by omega⟩ hT.2.2.1 hT.2.2.2 ?_
  have hwr := zFst_range (m 3 0).toNat (fun t => zNm m 3 (t : Int) (zTok m 1 2) (zTok m 1 3))
  have h6 := a2.1.1
  have hwr : -1 ≤ zWho m 3 (zTok m 1 2) (zTok m 1 3) ∧ zWho m 3 (zTok m 1 2) (zTok m 1 3) < 6 := by
    unfold zWho
    omega
  have ha : zTok m 2 = m 2 := by
    funext j
    exact zTok_c (by omega)
  rw [ha]
  (first
    | (with_reducible apply z_B; all_goals (intro _; try (exfalso; omega)))
    | (with_reducible apply z_E; all_goals intro _)
    | (with_reducible apply z_lt; (case ha => repeat (with_reducible first | exact zv_l _ | exact zv_r | apply zv_neg)); (case hb => repeat (with_reducible first | exact zv_l _ | exact zv_r | apply zv_neg)); (case hx => omega); (case hy => omega); all_goals (intro _; try (exfalso; omega)))
    | (with_reducible apply z_le; (case ha => repeat (with_reducible first | exact zv_l _ | exact zv_r | apply zv_neg)); (case hb => repeat (with_reducible first | exact zv_l _ | exact zv_r | apply zv_neg)); (case hx => omega); (case hy => omega); all_goals (intro _; try (exfalso; omega)))
    | (with_reducible apply z_eq; (case ha => repeat (with_reducible first | exact zv_l _ | exact zv_r | apply zv_neg)); (case hb => repeat (with_reducible first | exact zv_l _ | exact zv_r | apply zv_neg)); (case hx => omega); (case hy => omega); all_goals (intro _; try (exfalso; omega))))
  · rename_i h
    refine ⟨_, _, rfl, ?_, rfl⟩
    unfold zRd
    rw [@if_neg _ (Classical.propDecidable _) (fun q => h q.1)]
    rfl
  · rename_i h
    repeat' (first
    | (with_reducible apply z_nm; (case he => repeat (with_reducible first | exact zv_l _ | exact zv_r | apply zv_neg)))
    | (with_reducible apply z_b_ck; (case h => with_unfolding_all rfl))
    | (with_reducible apply z_I; (case h => first | with_unfolding_all rfl); (case hy => first | ((simp (disch := omega) only [zU_c, zU_e, zU_k, zF_c, zF_i, zF_o, zW_o, zW_i, zC_c, zC_i, zC_o]); rfl) | rfl))
    | (with_reducible apply z_b_R; (case h => first | with_unfolding_all rfl))
    | (with_reducible apply z_0whose; (case a1 => assumption); (case e5 => repeat (with_reducible first | exact zv_l _ | exact zv_r | apply zv_neg)); (case e6 => repeat (with_reducible first | exact zv_l _ | exact zv_r | apply zv_neg)); (case r1 => first | omega | ((simp (disch := omega) only [zU_c, zU_e, zU_k, zF_c, zF_i, zF_o, zW_o, zW_i, zC_c, zC_i, zC_o]); omega)); (case r2 => first | omega | ((simp (disch := omega) only [zU_c, zU_e, zU_k, zF_c, zF_i, zF_o, zW_o, zW_i, zC_c, zC_i, zC_o]); omega)); (case r3 => first | omega | ((simp (disch := omega) only [zU_c, zU_e, zU_k, zF_c, zF_i, zF_o, zW_o, zW_i, zC_c, zC_i, zC_o]); omega)); (case a4 => assumption); (case a2 => assumption); (case a3 => assumption))
    | (with_reducible apply z_4step; (case r1 => first | omega | ((simp (disch := omega) only [zU_c, zU_e, zU_k, zF_c, zF_i, zF_o, zW_o, zW_i, zC_c, zC_i, zC_o]); omega)); (case r2 => first | omega | ((simp (disch := omega) only [zU_c, zU_e, zU_k, zF_c, zF_i, zF_o, zW_o, zW_i, zC_c, zC_i, zC_o]); omega)); (case a1 => assumption))
    | (with_reducible apply z_4isName; (case r2 => first | omega | ((simp (disch := omega) only [zU_c, zU_e, zU_k, zF_c, zF_i, zF_o, zW_o, zW_i, zC_c, zC_i, zC_o]); omega)); (case r3 => first | omega | ((simp (disch := omega) only [zU_c, zU_e, zU_k, zF_c, zF_i, zF_o, zW_o, zW_i, zC_c, zC_i, zC_o]); omega)); (case a1 => assumption)))
    refine z_0whose (Or.inl rfl) rfl rfl hW.1.1 (by omega) (by omega) (fun t h0 h1 => by have := (hW.2.1 t h0 h1).2; omega) hW.2.2.2 hT.2.2.2 ?_
    have e2 : zWho (zTok m) 3 (zTok m 1 2) (zTok m 1 3) = zWho m 3 (zTok m 1 2) (zTok m 1 3) := zWho_St
    rw [e2]
    refine z_eq (x := zWho m 3 (zTok m 1 2) (zTok m 1 3)) (y := a) rfl rfl (by omega) (by omega) (fun q => ?_) (fun q => ?_)
    · refine ⟨_, _, rfl, ?_, rfl⟩
      unfold zRd
      rw [@if_neg _ (Classical.propDecidable _) (fun w => w.2 q)]
      rfl
    · refine ⟨_, _, rfl, ?_, rfl⟩
      unfold zRd
      rw [@if_pos _ (Classical.propDecidable _) ⟨h, q⟩]
theorem z_6readTeam {m : zMe} {e : Int32} {a : Int} (e1 : e = zI a) (r1 : -1 ≤ a ∧ a < 6) (a1 : zTp m) (a2 : zWf m 3) {α : Type} {kf : Int32 × Hp → Option (α × Hp)} {Q : α → zMe → Prop} (K : zOk (kf (zI (zRd m a), zM (zTok m))) Q) : zOk ((f_X6_readTeam 0 e (zM m)).bind kf) Q := z_b (s_6readTeam e1 r1 a1 a2) K
theorem zRd_r {m : zMe} {a : Int} (h : zWf m 3) : -1 ≤ zRd m a ∧ zRd m a < m 3 0 := by
  have hwr := zFst_range (m 3 0).toNat (fun t => zNm m 3 (t : Int) (zTok m 1 2) (zTok m 1 3))
  have h6 := h.1.1
  have hwr : -1 ≤ zWho m 3 (zTok m 1 2) (zTok m 1 3) ∧ zWho m 3 (zTok m 1 2) (zTok m 1 3) < m 3 0 ∨ zWho m 3 (zTok m 1 2) (zTok m 1 3) = -1 := by
    unfold zWho
    omega
  unfold zRd
  by_cases hp : zNa (m 2) (zTok m 1 4) (zTok m 1 2) (zTok m 1 3) ∧ ¬ zWho m 3 (zTok m 1 2) (zTok m 1 3) = a
  · rw [@if_pos _ (Classical.propDecidable _) hp]
    omega
  · rw [@if_neg _ (Classical.propDecidable _) hp]
    omega
