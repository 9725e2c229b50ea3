/-! the class's text, whole -/
theorem s6_is {m : zMe} {x : Nat} (hx : x < 5) (hT : zTp m) (h3 : m 1 3 = 0) {α : Type} {f : Int32 × Hp → Option (α × Hp)} {Q : α → zMe → Prop} (K : zOk (f (zI (zE (zTky m x)), zM (zSn m 0))) Q) : zOk ((f_X4_is 1 (1010 + x) (zM (zSn m 0))).bind f) Q := by
  have h1 := zTp_n hT h3 0
  have e2 : zSn m 0 1 2 = zBg m 0 := zSt_r2 _ _ _ _
  have e3 : zSn m 0 1 3 = zEn m 1 := zSt_r3 _ _ _ _
  have e4 : zSn m 0 1 4 = zKd m 0 := zSt_r4 _ _ _ _
  refine z_4is hx ⟨h1.2.1.1, h1.2.1.2.1, by have := h1.2.1; have := h1.1; omega⟩ h1.2.2.1 h1.2.2.2 ?_
  rw [zSn_c (c := 2) (by omega), e4, e2, e3]
  exact K
theorem zOk_pair {o : Option (Int32 × Hp)} {Q : Int32 → zMe → Prop} (h : zOk o Q) : zOk (o.bind fun q => some (q.1, q.2)) Q := by
  obtain ⟨v, m, rfl, hq⟩ := h
  exact ⟨v, m, rfl, hq⟩
set_option maxRecDepth 100000 in
set_option maxHeartbeats 400000 in
theorem s6_doText {m : zMe} (hT : zTp m) (h3 : m 1 3 = 0) (hW : zWf m 3) : zOk (f_X6_doText 0 (zM m)) (fun v m1 => zTq m (zTxt m) v m1) := by
  unfold f_X6_doText
  (first
    | (with_reducible apply z_b_ck; (case h => with_unfolding_all rfl))
    | (with_reducible apply z_b_R; (case h => first | with_unfolding_all rfl))
    | (with_reducible apply z_4fault; (case r1 => first | omega | ((simp (disch := omega) only [zU_c, zU_e, zU_k, zF_c, zF_i, zF_o, zW_o, zW_i, zC_c, zC_i, zC_o]); omega)))
    | (with_reducible apply z_4step; (case r1 => first | omega | ((simp (disch := omega) only [zU_c, zU_e, zU_k, zF_c, zF_i, zF_o, zW_o, zW_i, zC_c, zC_i, zC_o]); omega)); (case r2 => first | omega | ((simp (disch := omega) only [zU_c, zU_e, zU_k, zF_c, zF_i, zF_o, zW_o, zW_i, zC_c, zC_i, zC_o]); omega)); (case a1 => assumption))
    | (with_reducible apply z_4is; (case r1 => first | omega | ((simp (disch := omega) only [zU_c, zU_e, zU_k, zF_c, zF_i, zF_o, zW_o, zW_i, zC_c, zC_i, zC_o]); omega)); (case r2 => first | omega | ((simp (disch := omega) only [zU_c, zU_e, zU_k, zF_c, zF_i, zF_o, zW_o, zW_i, zC_c, zC_i, zC_o]); omega)); (case r3 => first | omega | ((simp (disch := omega) only [zU_c, zU_e, zU_k, zF_c, zF_i, zF_o, zW_o, zW_i, zC_c, zC_i, zC_o]); omega)); (case a1 => assumption)))
  (first
    | (with_reducible apply z_b_ck; (case h => with_unfolding_all rfl))
    | (with_reducible apply z_b_R; (case h => first | with_unfolding_all rfl))
    | (with_reducible apply z_4fault; (case r1 => first | omega | ((simp (disch := omega) only [zU_c, zU_e, zU_k, zF_c, zF_i, zF_o, zW_o, zW_i, zC_c, zC_i, zC_o]); omega)))
    | (with_reducible apply z_4step; (case r1 => first | omega | ((simp (disch := omega) only [zU_c, zU_e, zU_k, zF_c, zF_i, zF_o, zW_o, zW_i, zC_c, zC_i, zC_o]); omega)); (case r2 => first | omega | ((simp (disch := omega) only [zU_c, zU_e, zU_k, zF_c, zF_i, zF_o, zW_o, zW_i, zC_c, zC_i, zC_o]); omega)); (case a1 => assumption))
    | (with_reducible apply z_4is; (case r1 => first | omega | ((simp (disch := omega) only [zU_c, zU_e, zU_k, zF_c, zF_i, zF_o, zW_o, zW_i, zC_c, zC_i, zC_o]); omega)); (case r2 => first | omega | ((simp (disch := omega) only [zU_c, zU_e, zU_k, zF_c, zF_i, zF_o, zW_o, zW_i, zC_c, zC_i, zC_o]); omega)); (case r3 => first | omega | ((simp (disch := omega) only [zU_c, zU_e, zU_k, zF_c, zF_i, zF_o, zW_o, zW_i, zC_c, zC_i, zC_o]); omega)); (case a1 => assumption)))
  refine z_4step hT.1 ⟨by omega, by have := hT.1; omega⟩ hT.2.2.2 ?_
  rw [zTok_0 h3]
  (first
    | (with_reducible apply z_b_ck; (case h => with_unfolding_all rfl))
    | (with_reducible apply z_b_R; (case h => first | with_unfolding_all rfl))
    | (with_reducible apply z_4fault; (case r1 => first | omega | ((simp (disch := omega) only [zU_c, zU_e, zU_k, zF_c, zF_i, zF_o, zW_o, zW_i, zC_c, zC_i, zC_o]); omega)))
    | (with_reducible apply z_4step; (case r1 => first | omega | ((simp (disch := omega) only [zU_c, zU_e, zU_k, zF_c, zF_i, zF_o, zW_o, zW_i, zC_c, zC_i, zC_o]); omega)); (case r2 => first | omega | ((simp (disch := omega) only [zU_c, zU_e, zU_k, zF_c, zF_i, zF_o, zW_o, zW_i, zC_c, zC_i, zC_o]); omega)); (case a1 => assumption))
    | (with_reducible apply z_4is; (case r1 => first | omega | ((simp (disch := omega) only [zU_c, zU_e, zU_k, zF_c, zF_i, zF_o, zW_o, zW_i, zC_c, zC_i, zC_o]); omega)); (case r2 => first | omega | ((simp (disch := omega) only [zU_c, zU_e, zU_k, zF_c, zF_i, zF_o, zW_o, zW_i, zC_c, zC_i, zC_o]); omega)); (case r3 => first | omega | ((simp (disch := omega) only [zU_c, zU_e, zU_k, zF_c, zF_i, zF_o, zW_o, zW_i, zC_c, zC_i, zC_o]); omega)); (case a1 => assumption)))
  refine s6_is (x := 0) (by omega) hT h3 ?_
  refine z_E (fun q0 => ?_) (fun q0 => ?_)
  · (first
    | (with_reducible apply z_b_ck; (case h => with_unfolding_all rfl))
    | (with_reducible apply z_b_R; (case h => first | with_unfolding_all rfl))
    | (with_reducible apply z_4fault; (case r1 => first | omega | ((simp (disch := omega) only [zU_c, zU_e, zU_k, zF_c, zF_i, zF_o, zW_o, zW_i, zC_c, zC_i, zC_o]); omega)))
    | (with_reducible apply z_4step; (case r1 => first | omega | ((simp (disch := omega) only [zU_c, zU_e, zU_k, zF_c, zF_i, zF_o, zW_o, zW_i, zC_c, zC_i, zC_o]); omega)); (case r2 => first | omega | ((simp (disch := omega) only [zU_c, zU_e, zU_k, zF_c, zF_i, zF_o, zW_o, zW_i, zC_c, zC_i, zC_o]); omega)); (case a1 => assumption))
    | (with_reducible apply z_4is; (case r1 => first | omega | ((simp (disch := omega) only [zU_c, zU_e, zU_k, zF_c, zF_i, zF_o, zW_o, zW_i, zC_c, zC_i, zC_o]); omega)); (case r2 => first | omega | ((simp (disch := omega) only [zU_c, zU_e, zU_k, zF_c, zF_i, zF_o, zW_o, zW_i, zC_c, zC_i, zC_o]); omega)); (case r3 => first | omega | ((simp (disch := omega) only [zU_c, zU_e, zU_k, zF_c, zF_i, zF_o, zW_o, zW_i, zC_c, zC_i, zC_o]); omega)); (case a1 => assumption)))
    refine s6_is (x := 1) (by omega) hT h3 ?_
    refine z_E (fun q1 => ?_) (fun q1 => ?_)
    · (first
    | (with_reducible apply z_b_ck; (case h => with_unfolding_all rfl))
    | (with_reducible apply z_b_R; (case h => first | with_unfolding_all rfl))
    | (with_reducible apply z_4fault; (case r1 => first | omega | ((simp (disch := omega) only [zU_c, zU_e, zU_k, zF_c, zF_i, zF_o, zW_o, zW_i, zC_c, zC_i, zC_o]); omega)))
    | (with_reducible apply z_4step; (case r1 => first | omega | ((simp (disch := omega) only [zU_c, zU_e, zU_k, zF_c, zF_i, zF_o, zW_o, zW_i, zC_c, zC_i, zC_o]); omega)); (case r2 => first | omega | ((simp (disch := omega) only [zU_c, zU_e, zU_k, zF_c, zF_i, zF_o, zW_o, zW_i, zC_c, zC_i, zC_o]); omega)); (case a1 => assumption))
    | (with_reducible apply z_4is; (case r1 => first | omega | ((simp (disch := omega) only [zU_c, zU_e, zU_k, zF_c, zF_i, zF_o, zW_o, zW_i, zC_c, zC_i, zC_o]); omega)); (case r2 => first | omega | ((simp (disch := omega) only [zU_c, zU_e, zU_k, zF_c, zF_i, zF_o, zW_o, zW_i, zC_c, zC_i, zC_o]); omega)); (case r3 => first | omega | ((simp (disch := omega) only [zU_c, zU_e, zU_k, zF_c, zF_i, zF_o, zW_o, zW_i, zC_c, zC_i, zC_o]); omega)); (case a1 => assumption)))
      refine s6_is (x := 2) (by omega) hT h3 ?_
      refine z_E (fun q2 => ?_) (fun q2 => ?_)
      · (first
    | (with_reducible apply z_b_ck; (case h => with_unfolding_all rfl))
    | (with_reducible apply z_b_R; (case h => first | with_unfolding_all rfl))
    | (with_reducible apply z_4fault; (case r1 => first | omega | ((simp (disch := omega) only [zU_c, zU_e, zU_k, zF_c, zF_i, zF_o, zW_o, zW_i, zC_c, zC_i, zC_o]); omega)))
    | (with_reducible apply z_4step; (case r1 => first | omega | ((simp (disch := omega) only [zU_c, zU_e, zU_k, zF_c, zF_i, zF_o, zW_o, zW_i, zC_c, zC_i, zC_o]); omega)); (case r2 => first | omega | ((simp (disch := omega) only [zU_c, zU_e, zU_k, zF_c, zF_i, zF_o, zW_o, zW_i, zC_c, zC_i, zC_o]); omega)); (case a1 => assumption))
    | (with_reducible apply z_4is; (case r1 => first | omega | ((simp (disch := omega) only [zU_c, zU_e, zU_k, zF_c, zF_i, zF_o, zW_o, zW_i, zC_c, zC_i, zC_o]); omega)); (case r2 => first | omega | ((simp (disch := omega) only [zU_c, zU_e, zU_k, zF_c, zF_i, zF_o, zW_o, zW_i, zC_c, zC_i, zC_o]); omega)); (case r3 => first | omega | ((simp (disch := omega) only [zU_c, zU_e, zU_k, zF_c, zF_i, zF_o, zW_o, zW_i, zC_c, zC_i, zC_o]); omega)); (case a1 => assumption)))
        refine s6_is (x := 3) (by omega) hT h3 ?_
        refine z_E (fun q3 => ?_) (fun q3 => ?_)
        · (first
    | (with_reducible apply z_b_ck; (case h => with_unfolding_all rfl))
    | (with_reducible apply z_b_R; (case h => first | with_unfolding_all rfl))
    | (with_reducible apply z_4fault; (case r1 => first | omega | ((simp (disch := omega) only [zU_c, zU_e, zU_k, zF_c, zF_i, zF_o, zW_o, zW_i, zC_c, zC_i, zC_o]); omega)))
    | (with_reducible apply z_4step; (case r1 => first | omega | ((simp (disch := omega) only [zU_c, zU_e, zU_k, zF_c, zF_i, zF_o, zW_o, zW_i, zC_c, zC_i, zC_o]); omega)); (case r2 => first | omega | ((simp (disch := omega) only [zU_c, zU_e, zU_k, zF_c, zF_i, zF_o, zW_o, zW_i, zC_c, zC_i, zC_o]); omega)); (case a1 => assumption))
    | (with_reducible apply z_4is; (case r1 => first | omega | ((simp (disch := omega) only [zU_c, zU_e, zU_k, zF_c, zF_i, zF_o, zW_o, zW_i, zC_c, zC_i, zC_o]); omega)); (case r2 => first | omega | ((simp (disch := omega) only [zU_c, zU_e, zU_k, zF_c, zF_i, zF_o, zW_o, zW_i, zC_c, zC_i, zC_o]); omega)); (case r3 => first | omega | ((simp (disch := omega) only [zU_c, zU_e, zU_k, zF_c, zF_i, zF_o, zW_o, zW_i, zC_c, zC_i, zC_o]); omega)); (case a1 => assumption)))
          refine s6_is (x := 4) (by omega) hT h3 ?_
          refine z_E (fun q4 => ?_) (fun q4 => ?_)
          · (first
    | (with_reducible apply z_b_ck; (case h => with_unfolding_all rfl))
    | (with_reducible apply z_b_R; (case h => first | with_unfolding_all rfl))
    | (with_reducible apply z_4fault; (case r1 => first | omega | ((simp (disch := omega) only [zU_c, zU_e, zU_k, zF_c, zF_i, zF_o, zW_o, zW_i, zC_c, zC_i, zC_o]); omega)))
    | (with_reducible apply z_4step; (case r1 => first | omega | ((simp (disch := omega) only [zU_c, zU_e, zU_k, zF_c, zF_i, zF_o, zW_o, zW_i, zC_c, zC_i, zC_o]); omega)); (case r2 => first | omega | ((simp (disch := omega) only [zU_c, zU_e, zU_k, zF_c, zF_i, zF_o, zW_o, zW_i, zC_c, zC_i, zC_o]); omega)); (case a1 => assumption))
    | (with_reducible apply z_4is; (case r1 => first | omega | ((simp (disch := omega) only [zU_c, zU_e, zU_k, zF_c, zF_i, zF_o, zW_o, zW_i, zC_c, zC_i, zC_o]); omega)); (case r2 => first | omega | ((simp (disch := omega) only [zU_c, zU_e, zU_k, zF_c, zF_i, zF_o, zW_o, zW_i, zC_c, zC_i, zC_o]); omega)); (case r3 => first | omega | ((simp (disch := omega) only [zU_c, zU_e, zU_k, zF_c, zF_i, zF_o, zW_o, zW_i, zC_c, zC_i, zC_o]); omega)); (case a1 => assumption)))
            have hO : zTxt m = zFa m 0 := by
              unfold zTxt
              rw [zIf_n q0, zIf_n q1, zIf_n q2, zIf_n q3, zIf_n q4]
            rw [hO]
            exact s6_fault hT h3 (fun q => rfl)
          · have hO : zTxt m = zOp1 m 0 := by
              unfold zTxt
              rw [zIf_n q0, zIf_n q1, zIf_n q2, zIf_n q3, zIf_p q4]
            rw [hO]
            exact zOk_pair (s6_doPlay (w := 0) (Or.inl rfl) hT h3 hW)
        · have hO : zTxt m = zOp1 m 1 := by
            unfold zTxt
            rw [zIf_n q0, zIf_n q1, zIf_n q2, zIf_p q3]
          rw [hO]
          exact zOk_pair (s6_doPlay (w := 1) (Or.inr rfl) hT h3 hW)
      · have hO : zTxt m = zOg m := by
          unfold zTxt
          rw [zIf_n q0, zIf_n q1, zIf_p q2]
        rw [hO]
        exact zOk_pair (s6_doGame hT h3 hW)
    · have hO : zTxt m = zOs m := by
        unfold zTxt
        rw [zIf_n q0, zIf_p q1]
      rw [hO]
      exact zOk_pair (s6_doStart hT h3 hW)
  · have hO : zTxt m = zOt m := by
      unfold zTxt
      rw [zIf_p q0]
    rw [hO]
    exact zOk_pair (s6_doTeam hT h3 hW)
set_option maxRecDepth 100000 in
set_option maxHeartbeats 1000000 in
theorem s_6text {m : zMe} (a1 : zTp m) (a2 : zWf m 3) (r1 : m 1 3 = 0) : zOk (f_X6_text 0 (zM m)) (fun v m1 => v = zI (zAns m (zTxt m)) ∧ (m1 1 1 = 0 ∧ m1 1 2 = 0 ∧ m1 1 3 = 0 ∧ m1 1 4 = 0) ∧ ∀ c, ¬ c = 1 → m1 c = zOpc m (zTxt m) c) := by
  unfold f_X6_text
  (first
    | (with_reducible apply z_b_ck; (case h => with_unfolding_all rfl))
    | (with_reducible apply z_b_R; (case h => first | with_unfolding_all rfl))
    | (with_reducible apply z_4clear; (case r1 => first | omega | ((simp (disch := omega) only [zU_c, zU_e, zU_k, zF_c, zF_i, zF_o, zW_o, zW_i, zC_c, zC_i, zC_o]); omega))))
  refine z_call (s6_doText a1 r1 a2) (fun v m1 hq => ?_)
  obtain ⟨rfl, e1, hc⟩ := hq
  (first
    | (with_reducible apply z_b_ck; (case h => with_unfolding_all rfl))
    | (with_reducible apply z_b_R; (case h => first | with_unfolding_all rfl))
    | (with_reducible apply z_4clear; (case r1 => first | omega | ((simp (disch := omega) only [zU_c, zU_e, zU_k, zF_c, zF_i, zF_o, zW_o, zW_i, zC_c, zC_i, zC_o]); omega))))
  refine z_4clear (by rw [e1]; exact a1.1.1) ?_
  refine ⟨_, _, rfl, rfl, ⟨?_, ?_, ?_, ?_⟩, fun c hcc => ?_⟩
  · rw [zU_k (by omega), zU_k (by omega), zU_k (by omega), zU_e]
  · rw [zU_k (by omega), zU_k (by omega), zU_e]
  · rw [zU_k (by omega), zU_e]
  · rw [zU_e]
  · rw [← hc c hcc]
    funext j
    rw [zU_c hcc, zU_c hcc, zU_c hcc, zU_c hcc]
theorem z_6text {m : zMe} (a1 : zTp m) (a2 : zWf m 3) (r1 : m 1 3 = 0) {α : Type} {kf : Int32 × Hp → Option (α × Hp)} {Q : α → zMe → Prop} (K : ∀ (v : Int32) (m1 : zMe), (fun v m1 => v = zI (zAns m (zTxt m)) ∧ (m1 1 1 = 0 ∧ m1 1 2 = 0 ∧ m1 1 3 = 0 ∧ m1 1 4 = 0) ∧ ∀ c, ¬ c = 1 → m1 c = zOpc m (zTxt m) c) v m1 → zOk (kf (v, zM m1)) Q) : zOk ((f_X6_text 0 (zM m)).bind kf) Q := z_call (s_6text a1 a2 r1) K
