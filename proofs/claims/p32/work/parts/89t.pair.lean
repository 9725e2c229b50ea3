/-! pairs: the group, the tape -/
theorem zB_8 {m : zMe} (h : zInv m) : -1 ≤ m 50 8 ∧ m 50 8 < 512 := h.2.2.2.2.2.2
theorem zp_system {m : zMe} (h : zInv m) (a : Int32) : zPr (f_X6_system 0 a (zM m)) (f_X7_system 50 a) True := by
  obtain ⟨k, rfl, hk⟩ := zI_of a
  have hE := h.1.2
  refine ⟨_, _, _, _, s_6system rfl hk h.1.1, s_7system rfl hk, ?_, fun _ => ?_⟩
  · by_cases hq : 0 ≤ k ∧ k ≤ 2
    · rw [if_pos hq, if_pos hq]
      refine zInv_g h (zIg_m (zWf_sys h.1.1 hq) (zEq2_sys (k := k) hE) (fun c q1 q2 j => zU_c (by omega)) (fun j => ?_)) (fun c q1 q2 q3 j q4 q5 => ?_) ?_
      · unfold zU
        simp
      · rw [zU_c q3, zU_c (by omega)]
      · rw [zU_c (by omega), zU_c (by omega)]
        exact zB_8 h
    · rw [if_neg hq, if_neg hq]
      exact h
  · by_cases hq : 0 ≤ k ∧ k ≤ 2
    · rw [if_pos hq, if_pos hq, if_pos hq, zU_c (by omega), hE.1.2.2]
    · rw [if_neg hq, if_neg hq]
/-- a result that is written on both sides -/
theorem zInv_res {m : zMe} (h : zInv m) {g x : Int} (hg : 0 ≤ g ∧ g < m 3 1) (hx : -1 ≤ x ∧ x ≤ 2) : zInv (zU (zU m (3 + 7) g x) 51 (78 + g) x) := by
  refine zInv_g h (zIg_m (zR_Wf (g := g) h.1.1 hx) (zEq2_res (x := x) h.1.2 h.1.1 hg) (fun c q1 q2 j => zU_c (by omega)) (fun j => ?_)) (fun c q1 q2 q3 j q4 q5 => ?_) ?_
  · unfold zU
    simp
  · rw [zU_c q3, zU_c (by omega)]
  · rw [zU_c (by omega), zU_c (by omega)]
    exact zB_8 h
theorem zp_play {m : zMe} (h : zInv m) (a b : Int32) : zPr (f_X6_play 0 a b (zM m)) (f_X7_play 50 a b) True := by
  obtain ⟨g, rfl, hg⟩ := zI_of a
  obtain ⟨x, rfl, hx⟩ := zI_of b
  have hE := h.1.2
  have e1 : m 51 1 = m 3 1 := hE.1.2.1
  by_cases hq : ((0 ≤ g ∧ g < m 3 1) ∧ (0 ≤ x ∧ x ≤ 2)) ∧ m (3 + 7) g = -1
  · obtain ⟨p1, p2, p3, p4⟩ := hE.2.2 g hq.1.1.1 hq.1.1.2
    have hA := s_6play rfl rfl hg hx h.1.1
    rw [if_pos hq, if_pos hq.1, if_pos hq.2] at hA
    have e51 : ∀ j, zU m (3 + 7) g x 51 j = m 51 j := fun j => zU_c (by omega)
    have hB := s_7play (m := zU m (3 + 7) g x) (e1 := zI g) (e2 := zI x) rfl rfl hg hx (zRw_X e51 (zIg_R h.1))
    rw [e51, e51, e1, p4, if_pos hq, if_pos hq.1, if_pos hq.2] at hB
    exact ⟨_, _, _, _, hA, hB, zInv_res h hq.1.1 (by omega), fun _ => rfl⟩
  · have hA := s_6play rfl rfl hg hx h.1.1
    rw [if_neg hq] at hA
    have hB := s_7play (m := m) (e1 := zI g) (e2 := zI x) rfl rfl hg hx (zIg_R h.1)
    rw [e1] at hB
    by_cases hq1 : (0 ≤ g ∧ g < m 3 1) ∧ (0 ≤ x ∧ x ≤ 2)
    · obtain ⟨p1, p2, p3, p4⟩ := hE.2.2 g hq1.1.1 hq1.1.2
      rw [p4, if_neg hq] at hB
      exact ⟨_, _, _, _, hA, hB, h, fun _ => rfl⟩
    · rw [if_neg hq1] at hA
      rw [if_neg hq1, if_neg (fun q => hq1 q.1)] at hB
      exact ⟨_, _, _, _, hA, hB, h, fun _ => rfl⟩
theorem zp_unplay {m : zMe} (h : zInv m) (a : Int32) : zPr (f_X6_unplay 0 a (zM m)) (f_X7_unplay 50 a) True := by
  obtain ⟨g, rfl, hg⟩ := zI_of a
  have hE := h.1.2
  have e1 : m 51 1 = m 3 1 := hE.1.2.1
  have hA := s_6unplay rfl hg h.1.1
  by_cases hq : 0 ≤ g ∧ g < m 3 1
  · obtain ⟨p1, p2, p3, p4⟩ := hE.2.2 g hq.1 hq.2
    rw [if_pos hq] at hA
    by_cases hl : m (3 + 7) g = -1
    · rw [if_pos hl, if_neg (fun q => q.2 hl)] at hA
      have hB := s_7unplay (m := m) (e := zI g) rfl hg (zIg_R h.1)
      rw [e1, p4, if_pos hq, if_pos hl, if_neg (fun q => q.2 hl)] at hB
      exact ⟨_, _, _, _, hA, hB, h, fun _ => rfl⟩
    · rw [if_neg hl, if_pos ⟨hq, hl⟩] at hA
      have e51 : ∀ j, zU m (3 + 7) g (-1) 51 j = m 51 j := fun j => zU_c (by omega)
      have hB := s_7unplay (m := zU m (3 + 7) g (-1)) (e := zI g) rfl hg (zRw_X e51 (zIg_R h.1))
      rw [e51, e51, e1, p4, if_pos hq, if_neg hl, if_pos ⟨hq, hl⟩] at hB
      exact ⟨_, _, _, _, hA, hB, zInv_res h hq (by omega), fun _ => rfl⟩
  · rw [if_neg hq, if_neg (fun q => hq q.1)] at hA
    have hB := s_7unplay (m := m) (e := zI g) rfl hg (zIg_R h.1)
    rw [e1, if_neg hq, if_neg (fun q => hq q.1)] at hB
    exact ⟨_, _, _, _, hA, hB, h, fun _ => rfl⟩
theorem zp_game {m : zMe} (h : zInv m) (a b : Int32) : zPr (f_X6_game 0 a b (zM m)) (f_X7_game 50 a b) True := by
  obtain ⟨g, rfl, hg⟩ := zI_of a
  obtain ⟨w, rfl, hw⟩ := zI_of b
  have hE := h.1.2
  have e1 : m 51 1 = m 3 1 := hE.1.2.1
  refine ⟨_, _, _, _, s_6game rfl rfl hg hw h.1.1, s_7game rfl rfl hg hw (zIg_R h.1), h, fun _ => ?_⟩
  rw [e1]
  by_cases hq : 0 ≤ g ∧ g < m 3 1
  · obtain ⟨p1, p2, p3, p4⟩ := hE.2.2 g hq.1 hq.2
    rw [p1, p2, p3, p4]
  · rw [if_neg hq, if_neg hq]
theorem zp_between {m : zMe} (h : zInv m) (a b : Int32) : zPr (f_X6_between 0 a b (zM m)) (f_X7_between 50 a b) True := by
  obtain ⟨t, rfl, ht⟩ := zI_of a
  obtain ⟨o, rfl, ho⟩ := zI_of b
  have hE := h.1.2
  have e1 : m 51 1 = m 3 1 := hE.1.2.1
  have e0 : m 51 0 = m 3 0 := hE.1.1
  refine ⟨_, _, _, _, s_6between rfl rfl ht ho h.1.1, s_7between rfl rfl ht ho (zIg_R h.1), h, fun _ => ?_⟩
  rw [e1, e0]
  by_cases hq : (0 ≤ t ∧ t < m 3 0) ∧ (0 ≤ o ∧ o < m 3 0) ∧ ¬ t = o
  · rw [if_pos hq, if_pos hq]
    have e : zBt m 3 t o (m 3 1).toNat = zBt7 m t o (m 3 1).toNat := by
      unfold zBt zBt7
      refine zBn_congr (fun k hk => ?_)
      obtain ⟨p1, p2, p3, p4⟩ := hE.2.2 (k : Int) (by omega) (by omega)
      rw [p1, p2]
      refine decide_eq_decide.mpr ?_
      omega
    rw [e]
  · rw [if_neg hq, if_neg hq]
theorem zp_taken {m : zMe} (h : zInv m) (a : Int32) : zPr (f_X6_taken 0 a (zM m)) (f_X7_taken 50 a) True := by
  obtain ⟨k, rfl, hk⟩ := zI_of a
  have e2 : m 51 2 = m 3 2 := h.1.2.1.2.2
  refine ⟨_, _, _, _, s_6taken rfl hk h.1.1, s_7taken rfl hk (zIg_R h.1), h, fun _ => ?_⟩
  rw [e2]
theorem zp_count {m : zMe} (h : zInv m) (a : Int32) : zPr (f_X6_count 0 a (zM m)) (f_X7_count 50 a) True := by
  obtain ⟨w, rfl, hw⟩ := zI_of a
  refine zp_exact (y := fun m1 => if w = 0 then m1 51 0 else if w = 1 then m1 51 1 else if w = 2 then (zPop (zLeft (zV (zL7 m1 (zRs m1))) 3) : Int) else if w = 3 then m1 50 11 else if w = 4 then m1 51 2 else -2) h ⟨_, _, s_6count rfl hw h.1.1, rfl, zFr_r _ _⟩ (fun m1 r1 r2 r3 => s_7count rfl hw r1) (fun m1 hm => ?_)
  have hE := zEq2_41 h.1.2 hm
  have e0 : m1 51 0 = m 3 0 := hE.1.1
  have e1 : m1 51 1 = m 3 1 := hE.1.2.1
  have e2 : m1 51 2 = m 3 2 := hE.1.2.2
  have e3 : m1 50 11 = m 1 1 := by
    rw [hm 50 (by omega)]
    exact h.2.2.1.2.2.1
  show _ = if w = 0 then m1 51 0 else if w = 1 then m1 51 1 else if w = 2 then (zPop (zLeft (zV (zL7 m1 (zRs m1))) 3) : Int) else if w = 3 then m1 50 11 else if w = 4 then m1 51 2 else -2
  rw [e0, e1, e2, e3, zLeft_E hE]
/-- the tape as the reference finds it -/
theorem zTa_r {m : zMe} (h : zTa m) : zTr m m := ⟨h.2.2.1, h.1.1, h.2.2.2, h.1.2.2.2⟩
theorem zInv_t {m m2 : zMe} (h : zInv m) (ht : zTa m2) (h1 : ∀ c, ¬ c = 1 → ¬ c = 2 → ¬ c = 56 → ∀ j, ¬ (c = 50 ∧ j = 11) → m2 c j = m c j) : zInv m2 := by
  obtain ⟨hg, hk, -, hs, hm⟩ := h
  have e : ∀ c, ¬ c = 1 → ¬ c = 2 → ¬ c = 56 → ¬ c = 50 → ∀ j, m2 c j = m c j := fun c q1 q2 q3 q4 j => h1 c q1 q2 q3 j (by omega)
  refine ⟨zIg_c hg (fun c q1 q2 => e c (by omega) (by omega) (by omega) (by omega)) (e 51 (by omega) (by omega) (by omega) (by omega)), zIg_c hk (fun c q1 q2 => e c (by omega) (by omega) (by omega) (by omega)) (e 52 (by omega) (by omega) (by omega) (by omega)), ht, zSs_c hs (fun c q1 q2 => e c (by omega) (by omega) (by omega) (by omega)) (fun c q1 q2 => e c (by omega) (by omega) (by omega) (by omega)), zMi_c hm (h1 50 (by omega) (by omega) (by omega) 2 (by omega)) (e 0 (by omega) (by omega) (by omega) (by omega) 9) (e 57 (by omega) (by omega) (by omega) (by omega)) ?_⟩
  rw [h1 50 (by omega) (by omega) (by omega) 8 (by omega)]
  exact hm.2.2
theorem zp_named {m : zMe} (h : zInv m) : zPr (f_X6_named 0 (zM m)) (f_X7_named 50) True := by
  have ht := h.2.2.1
  have hT := zTa_r ht
  generalize hM : zU (zU (zU (zU m 1 1 0) 1 2 0) 1 3 0) 1 4 0 = M
  have eM : ∀ c, ¬ c = 1 → ∀ j, M c j = m c j := fun c hc j => by
    rw [← hM, zU_c hc, zU_c hc, zU_c hc, zU_c hc]
  have hA := s_6named h.1.1 ht.1
  rw [hM] at hA
  have hE : zEq2 m M 3 51 := zEq2_c (fun _ _ _ _ => rfl) (eM 51 (by omega)) h.1.2
  have e11 : M 50 11 = m 1 1 := by
    rw [eM 50 (by omega)]
    exact ht.2.2.1
  have h56 : ∀ j, 0 ≤ j → j < 40 → M 56 j = m 2 j := fun j j0 j1 => by
    rw [eM 56 (by omega)]
    exact ht.2.2.2 j j0 j1
  have hs := ht.1.1
  have hB := s_7named (m := M) (by rw [e11]; exact hs) (zRw_E h.1.1 hE) (zLr_E h.1.1 hE) (fun j j0 j1 => by rw [h56 j j0 j1]; exact ht.1.2.2.2 j j0 j1)
  refine ⟨_, _, _, _, hA, hB, zInv_t h ⟨⟨?_, ?_, ?_, fun j j0 j1 => ?_⟩, ?_, ?_, fun j j0 j1 => ?_⟩ (fun c q1 q2 q3 j q4 => ?_), fun _ => ?_⟩
  · rw [zU_c (by omega), ← hM, zU_k (by omega), zU_k (by omega), zU_k (by omega), zU_e]
    omega
  · rw [zU_c (by omega), zU_c (by omega), zU_c (by omega), ← hM]
    simp (disch := omega) only [zU_k, zU_e]
    omega
  · rw [zU_c (by omega), ← hM, zU_e]
    omega
  · rw [zU_c (by omega), eM 2 (by omega)]
    exact ht.1.2.2.2 j j0 j1
  · rw [zU_c (by omega), zU_c (by omega), zU_c (by omega), ← hM]
    refine ⟨?_, ?_, ?_⟩ <;> simp (disch := omega) only [zU_k, zU_e]
  · rw [zU_e, zU_c (by omega), ← hM]
    simp (disch := omega) only [zU_k, zU_e]
  · rw [zU_c (by omega), zU_c (by omega), h56 j j0 j1, eM 2 (by omega)]
  · by_cases hc : c = 50
    · subst hc
      rw [zU_k (by omega), eM 50 (by omega)]
    · rw [zU_c hc, eM c q1]
  · rw [e11, zWho_E h.1.1 hE ⟨e11, hs, h56, ht.1.2.2.2⟩ (by omega) (by omega)]
theorem zp_feed {m : zMe} (h : zInv m) (a1 a2 a3 a4 a5 a6 : Int32) : zPr (f_X6_feed 0 a1 a2 a3 a4 a5 a6 (zM m)) (f_X7_feed 50 a1 a2 a3 a4 a5 a6) True := by
  obtain ⟨n, rfl, hn⟩ := zI_of a1
  obtain ⟨a, rfl, ha⟩ := zI_of a2
  obtain ⟨b, rfl, hb⟩ := zI_of a3
  obtain ⟨c, rfl, hc⟩ := zI_of a4
  obtain ⟨d, rfl, hd⟩ := zI_of a5
  obtain ⟨e, rfl, he⟩ := zI_of a6
  have ht := h.2.2.1
  have hs := ht.1.1
  have e11 := ht.2.2.1
  refine zPr_of ((s_6feed rfl rfl rfl rfl rfl rfl hn ha hb hc hd he hs).mono (fun v m1 hv => ?_))
  rcases hv with ⟨hF, rfl, rfl⟩ | ⟨hF, hl, rfl, rfl⟩ | ⟨hF, hl, rfl, rfl⟩
  · refine (s_7feed rfl rfl rfl rfl rfl rfl hn ha hb hc hd he (by omega)).mono (fun w m2 hw => ?_)
    rcases hw with ⟨hF2, rfl, rfl⟩ | ⟨hF2, -⟩ | ⟨hF2, -⟩
    · exact ⟨h, fun _ => rfl⟩
    · exact absurd hF2 hF
    · exact absurd hF2 hF
  · refine (s_7feed rfl rfl rfl rfl rfl rfl hn ha hb hc hd he (by omega)).mono (fun w m2 hw => ?_)
    rcases hw with ⟨hF2, -⟩ | ⟨hF2, hl2, rfl, rfl⟩ | ⟨hF2, hl2, -⟩
    · exact absurd hF hF2
    · exact ⟨h, fun _ => rfl⟩
    · exfalso
      omega
  · have f11 : zU (zF m 2 (m 1 1) n (zArg a b c d e)) 1 1 (m 1 1 + n) 50 11 = m 1 1 := by
      rw [zU_c (by omega), zF_c (by omega), e11]
    refine (s_7feed rfl rfl rfl rfl rfl rfl hn ha hb hc hd he (by rw [f11]; exact hs)).mono (fun w m2 hw => ?_)
    rw [f11] at hw
    rcases hw with ⟨hF2, -⟩ | ⟨hF2, hl2, -⟩ | ⟨hF2, hl2, rfl, rfl⟩
    · exact absurd hF hF2
    · exfalso
      omega
    · obtain ⟨n1, r1, r2, r3, r4, r5⟩ := hF
      have harg : ∀ j, 0 ≤ zArg a b c d e j ∧ zArg a b c d e j ≤ 255 := fun j => by
        unfold zArg
        (repeat' split) <;> omega
      refine ⟨zInv_t h ⟨⟨?_, ?_, ?_, fun j j0 j1 => ?_⟩, ?_, ?_, fun j j0 j1 => ?_⟩ (fun c q1 q2 q3 j q4 => ?_), fun _ => rfl⟩
      · simp (disch := omega) only [zU_c, zU_k, zU_e, zF_c]
        omega
      · simp (disch := omega) only [zU_c, zU_k, zU_e, zF_c]
        have := ht.2.1
        omega
      · simp (disch := omega) only [zU_c, zU_k, zU_e, zF_c]
        exact ht.1.2.2.1
      · simp (disch := omega) only [zU_c, zF_c]
        by_cases hj : m 1 1 ≤ j ∧ j < m 1 1 + n
        · rw [zF_i hj]
          exact harg _
        · rw [zF_o hj]
          exact ht.1.2.2.2 j j0 j1
      · simp (disch := omega) only [zU_c, zU_k, zU_e, zF_c]
        exact ht.2.1
      · simp (disch := omega) only [zU_c, zU_k, zU_e, zF_c]
      · simp (disch := omega) only [zU_c, zF_c]
        by_cases hj : m 1 1 ≤ j ∧ j < m 1 1 + n
        · rw [zF_i hj, zF_i hj]
        · rw [zF_o hj, zF_o hj]
          simp (disch := omega) only [zU_c, zF_c]
          exact ht.2.2.2 j j0 j1
      · by_cases hc : c = 50
        · subst hc
          simp (disch := omega) only [zU_c, zU_k, zF_c]
        · simp (disch := omega) only [zU_c, zF_c]
