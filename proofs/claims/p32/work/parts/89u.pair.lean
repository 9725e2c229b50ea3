/-! pairs: texts, the image -/
theorem zIf_i {α : Type} {P : α → Prop} {p : Prop} {a b : α} (h1 : p → P a) (h2 : ¬ p → P b) : P (zIf p a b) := by
  by_cases h : p
  · rw [zIf_p h]
    exact h1 h
  · rw [zIf_n h]
    exact h2 h
theorem zAt_c {m : zMe} {b s j : Int} {c : Nat} (h : ¬ (3 ≤ c ∧ c ≤ 10)) : zAt m 3 b s c j = m c j := by
  unfold zAt
  rw [zU_c (by omega), zU_c (by omega), zF_c (by omega), zU_c (by omega)]
theorem zOpc_c {m : zMe} {o : Nat × Int × Int × Int} {c : Nat} {j : Int} (h : ¬ (3 ≤ c ∧ c ≤ 10)) : zOpc m o c j = m c j := by
  unfold zOpc
  split
  · exact zAt_c h
  · split
    · exact zU_c (by omega)
    · split
      · exact zAg_c h
      · split
        · exact zU_c (by omega)
        · rfl
theorem zWf_Opc {m : zMe} (hW : zWf m 3) (hT : zTp m) (h3 : m 1 3 = 0) : zWf (zOpc m (zTxt m)) 3 := by
  have hno : ∀ x, zWf (zOpc m (zNo x)) 3 := fun x => hW
  have hfa : ∀ k, zWf (zOpc m (zFa m k)) 3 := fun k => hW
  have hw1 := zTwh_r hW 1
  have hw2 := zTwh_r hW 2
  have hs := hT.1
  have hres : ∀ g res : Int, (-1 ≤ res ∧ res ≤ 2) → zWf (zOpc m (4, g, res, 0)) 3 := fun g res hr => zR_Wf (l := 3) (g := g) (res := res) hW hr
  have hP : ∀ w, zWf (zOpc m (zOp1 m w)) 3 := fun w => by
    unfold zOp1
    refine zIf_i (P := fun o => zWf (zOpc m o) 3) (fun h1 => zIf_i (P := fun o => zWf (zOpc m o) 3) (fun h2 => zIf_i (P := fun o => zWf (zOpc m o) 3) (fun h4 => ?_) (fun _ => hfa _)) (fun _ => hfa _)) (fun _ => hfa _)
    split
    · exact hno _
    · exact hres _ _ (by (repeat' split) <;> omega)
  have hO : zWf (zOpc m (zOt m)) 3 := by
    unfold zOt
    refine zIf_i (P := fun o => zWf (zOpc m o) 3) (fun h1 => zIf_i (P := fun o => zWf (zOpc m o) 3) (fun h2 => ?_) (fun _ => hfa _)) (fun _ => hfa _)
    split
    · have hr : 0 ≤ zBg m 1 ∧ zBg m 1 ≤ zEn m 2 ∧ zEn m 2 ≤ m 1 1 := (zTp_r hT h3 1).1
      have q1 : zEn m 2 - zBg m 1 ≤ 6 := h1.1.2.1
      have q2 : zBg m 1 < zEn m 2 := (zKd_len (mc := m) 1).1 (Or.inl h1.1.1)
      show zWf (zAt m 3 (zBg m 1) (zEn m 2 - zBg m 1)) 3
      exact zWf_tea hW (by omega) (by assumption) (by omega) (fun i i0 i1 => hT.2.2.2 _ (by omega) (by omega))
    · exact hno _
  have hS : zWf (zOpc m (zOs m)) 3 := by
    unfold zOs
    refine zIf_i (P := fun o => zWf (zOpc m o) 3) (fun h1 => zIf_i (P := fun o => zWf (zOpc m o) 3) (fun _ => hfa _) (fun h2 => zIf_i (P := fun o => zWf (zOpc m o) 3) (fun h4 => ?_) (fun _ => hfa _))) (fun _ => hfa _)
    have hn := zTnu_r (m := m) (k := 2) (lo := 0) (hi := 9)
    exact zWf_sta (g := zTwh m 1) (x := zTnu m 2 0 9) hW (by omega)
  have hG : zWf (zOpc m (zOg m)) 3 := by
    unfold zOg
    refine zIf_i (P := fun o => zWf (zOpc m o) 3) (fun h1 => zIf_i (P := fun o => zWf (zOpc m o) 3) (fun h2 => zIf_i (P := fun o => zWf (zOpc m o) 3) (fun _ => hfa _) (fun h4 => zIf_i (P := fun o => zWf (zOpc m o) 3) (fun h5 => ?_) (fun _ => hfa _))) (fun _ => hfa _)) (fun _ => hfa _)
    have hn := zTnu_r (m := m) (k := 3) (lo := 1) (hi := 30)
    split
    · exact zWf_gam (a := zTwh m 1) (b := zTwh m 2) (d := zTnu m 3 1 30) hW (by assumption) (by omega) (by omega) (fun q => h2.2.1 q.symm) (by omega)
    · exact hno _
  unfold zTxt
  exact zIf_i (P := fun o => zWf (zOpc m o) 3) (fun _ => hO) (fun _ => zIf_i (P := fun o => zWf (zOpc m o) 3) (fun _ => hS) (fun _ => zIf_i (P := fun o => zWf (zOpc m o) 3) (fun _ => hG) (fun _ => zIf_i (P := fun o => zWf (zOpc m o) 3) (fun _ => hP 1) (fun _ => zIf_i (P := fun o => zWf (zOpc m o) 3) (fun _ => hP 0) (fun _ => hfa 0)))))
theorem zp_text {m : zMe} (h : zInv m) : zPr (f_X6_text 0 (zM m)) (f_X7_text 50) True := by
  have ht := h.2.2.1
  have h3 := ht.2.1.2.1
  have hm := h.2.2.2.2
  have hWO := zWf_Opc h.1.1 ht.1 h3
  refine zPr_of ((s_6text ht.1 h.1.1 h3).mono (fun v m1 hv => ?_))
  obtain ⟨rfl, ⟨t1, t2, t3, t4⟩, hc⟩ := hv
  have e1 : ∀ c, ¬ (3 ≤ c ∧ c ≤ 10) → ¬ c = 1 → ∀ j, m1 c j = m c j := fun c q1 q2 j => by
    rw [hc c q2]
    exact zOpc_c q1
  have hJ : zJt m m1 := by
    refine ⟨ht.1, h3, ⟨?_, ht.1.1, fun j j0 j1 => ?_, ht.1.2.2.2⟩, h.1.1, zEq2_c (fun _ _ _ _ => rfl) (e1 51 (by omega) (by omega)) h.1.2, fun j j0 j1 => ?_⟩
    · rw [e1 50 (by omega) (by omega)]
      exact ht.2.2.1
    · rw [e1 56 (by omega) (by omega)]
      exact ht.2.2.2 j j0 j1
    · rw [e1 57 (by omega) (by omega)]
      exact hm.2.1 j j0 j1
  refine (s7_text hJ).mono (fun w m2 hw => ?_)
  obtain ⟨rfl, hE, h11, hf⟩ := hw
  have e2 : ∀ c, ¬ (3 ≤ c ∧ c ≤ 10) → ¬ c = 1 → ¬ c = 51 → ¬ c = 50 → ∀ j, m2 c j = m c j := fun c q1 q2 q3 q4 j => by
    rw [hf c j q3 (by omega), e1 c q1 q2]
  have e5 : ∀ j, ¬ (j = 11 ∨ j = 12 ∨ j = 13 ∨ j = 14) → m2 50 j = m 50 j := fun j q => by
    rw [hf 50 j (by omega) (by omega), e1 50 (by omega) (by omega)]
  have e6 : ∀ j, m2 1 j = m1 1 j := fun j => hf 1 j (by omega) (by omega)
  refine ⟨⟨zIg_m hWO hE (fun c q1 q2 j => ?_) (fun j => rfl), zIg_c h.2.1 (fun c q1 q2 => e2 c (by omega) (by omega) (by omega) (by omega)) (e2 52 (by omega) (by omega) (by omega) (by omega)), ⟨⟨?_, ?_, ?_, fun j j0 j1 => ?_⟩, ?_, ?_, fun j j0 j1 => ?_⟩, zSs_c h.2.2.2.1 (fun c q1 q2 => e2 c (by omega) (by omega) (by omega) (by omega)) (fun c q1 q2 => e2 c (by omega) (by omega) (by omega) (by omega)), zMi_c hm (e5 2 (by omega)) (e2 0 (by omega) (by omega) (by omega) (by omega) 9) (e2 57 (by omega) (by omega) (by omega) (by omega)) (by rw [e5 8 (by omega)]; exact hm.2.2)⟩, fun _ => rfl⟩
  · rw [hf c j (by omega) (by omega), hc c (by omega)]
  · rw [e6, t1]
    omega
  · rw [e6, e6, e6, t1, t2, t3]
    omega
  · rw [e6, t4]
    omega
  · rw [e2 2 (by omega) (by omega) (by omega) (by omega)]
    exact ht.1.2.2.2 j j0 j1
  · rw [e6, e6, e6]
    exact ⟨t2, t3, t4⟩
  · rw [h11, e6, t1]
  · rw [e2 56 (by omega) (by omega) (by omega) (by omega), e2 2 (by omega) (by omega) (by omega) (by omega)]
    exact ht.2.2.2 j j0 j1
/-- a group that was taken over on both sides -/
theorem zEq2_k {m w mr : zMe} {l r q p : Nat} (hk : zTk m l r w) (hW : zWf m r) (hE : zEq2 m m r p) (h : ∀ j, 0 ≤ j → j < 87 → mr q j = m p j) : zEq2 w mr l q := by
  obtain ⟨⟨k0, k1, k2⟩, a1, a2, a3, a4, a5, a6, a7⟩ := hk
  obtain ⟨⟨w0, w1, w2⟩, wa, wb, wc⟩ := hW
  obtain ⟨⟨h0, h1, h2⟩, ha, hb⟩ := hE
  refine ⟨⟨?_, ?_, ?_⟩, fun t t0 t1 => ?_, fun k kk0 kk1 => ?_⟩
  · rw [h 0 (by omega) (by omega), k0, h0]
  · rw [h 1 (by omega) (by omega), k1, h1]
  · rw [h 2 (by omega) (by omega), k2, h2]
  · rw [k0] at t1
    obtain ⟨p1, p2, p3⟩ := ha t t0 t1
    have hs := (wa t t0 t1).2
    rw [a1 t t0 (by omega), a2 t t0 (by omega), h _ (by omega) (by omega), h _ (by omega) (by omega)]
    refine ⟨p1, p2, fun i i0 i1 => ?_⟩
    rw [a3 _ (by omega) (by omega), h _ (by omega) (by omega)]
    exact p3 i i0 i1
  · rw [k1] at kk1
    obtain ⟨p1, p2, p3, p4⟩ := hb k kk0 kk1
    rw [a4 k kk0 (by omega), a5 k kk0 (by omega), a6 k kk0 (by omega), a7 k kk0 (by omega), h _ (by omega) (by omega), h _ (by omega) (by omega), h _ (by omega) (by omega), h _ (by omega) (by omega)]
    exact ⟨p1, p2, p3, p4⟩
theorem zp_image {m : zMe} (h : zInv m) : zPr (f_X6_image 0 (zM m)) (f_X7_image 50) True := by
  have hm := h.2.2.2.2
  refine zPr_of ((s_6image h.1.1).mono (fun v m1 hv => ?_))
  obtain ⟨rfl, w, rfl, hk⟩ := hv
  generalize hM : zU (zW m 11 18 w) 0 9 1 = M
  have eM : ∀ c, ¬ (11 ≤ c ∧ c ≤ 18) → ¬ c = 0 → ∀ j, M c j = m c j := fun c q1 q2 j => by
    rw [← hM, zU_c q2, zW_o q1]
  refine ⟨_, _, s_7image, ?_, fun _ => ?_⟩
  · have e : ∀ c, ¬ (11 ≤ c ∧ c ≤ 18) → ¬ c = 0 → ¬ c = 50 → ¬ c = 52 → ∀ j, zF (zU M 50 2 1) 52 0 87 (M 51) c j = m c j := fun c q1 q2 q3 q4 j => by
      rw [zF_c q4, zU_c q3, eM c q1 q2]
    have e5 : ∀ j, ¬ j = 2 → zF (zU M 50 2 1) 52 0 87 (M 51) 50 j = m 50 j := fun j q => by
      rw [zF_c (by omega), zU_k q, eM 50 (by omega) (by omega)]
    have hkW : zWf w 11 := zTk_Wf hk h.1.1
    have e52 : ∀ j, 0 ≤ j → j < 87 → zF (zU M 50 2 1) 52 0 87 (M 51) 52 j = m 51 j := fun j j0 j1 => by
      rw [zF_i (by omega), Int.sub_zero, eM 51 (by omega) (by omega)]
    refine ⟨zIg_c h.1 (fun c q1 q2 => e c (by omega) (by omega) (by omega) (by omega)) (e 51 (by omega) (by omega) (by omega) (by omega)), zIg_m hkW (zEq2_k hk h.1.1 h.1.2 e52) (fun c q1 q2 j => ?_) (fun j => rfl), zTa_c h.2.2.1 (e 1 (by omega) (by omega) (by omega) (by omega)) (e 2 (by omega) (by omega) (by omega) (by omega)) (e5 11 (by omega)) (e 56 (by omega) (by omega) (by omega) (by omega)), zSs_c h.2.2.2.1 (fun c q1 q2 => e c (by omega) (by omega) (by omega) (by omega)) (fun c q1 q2 => e c (by omega) (by omega) (by omega) (by omega)), ⟨?_, ?_⟩, fun j j0 j1 => ?_, ?_⟩
    · rw [zF_c (by omega), zU_c (by omega), ← hM, zU_c (by omega), zW_i (by omega)]
    · rw [zF_c (by omega), zU_e, zF_c (by omega), zU_c (by omega), ← hM, zU_e]
    · rw [zF_c (by omega), zU_c (by omega), ← hM, zU_e]
      exact Or.inr rfl
    · rw [e 57 (by omega) (by omega) (by omega) (by omega)]
      exact hm.2.1 j j0 j1
    · rw [e5 8 (by omega)]
      exact hm.2.2
  · rw [eM 51 (by omega) (by omega), h.1.2.1.2.1]
theorem zp_back {m : zMe} (h : zInv m) : zPr (f_X6_back 0 (zM m)) (f_X7_back 50) True := by
  have hm := h.2.2.2.2
  have e2 : m 50 2 = m 0 9 := hm.1.1
  refine zPr_of ((s_6back h.2.1.1 hm.1.2).mono (fun v m1 hv => ?_))
  rcases hv with ⟨h0, rfl, rfl⟩ | ⟨h1, rfl, w, rfl, hk⟩
  · refine (s_7back (by rw [e2]; exact hm.1.2)).mono (fun w m2 hw => ?_)
    rcases hw with ⟨g0, rfl, rfl⟩ | ⟨g1, -⟩
    · exact ⟨h, fun _ => rfl⟩
    · exfalso
      omega
  · have eM : ∀ c, ¬ (3 ≤ c ∧ c ≤ 10) → ∀ j, zW m 3 10 w c j = m c j := fun c q1 j => zW_o q1
    refine (s_7back (by rw [eM 50 (by omega), e2]; exact hm.1.2)).mono (fun w2 m2 hw => ?_)
    rcases hw with ⟨g0, -⟩ | ⟨g1, rfl, rfl⟩
    · rw [eM 50 (by omega)] at g0
      exfalso
      omega
    · have e : ∀ c, ¬ (3 ≤ c ∧ c ≤ 10) → ¬ c = 51 → ∀ j, zF (zW m 3 10 w) 51 0 87 (zW m 3 10 w 52) c j = m c j := fun c q1 q2 j => by
        rw [zF_c q2, eM c q1]
      have hkW : zWf w 3 := zTk_Wf hk h.2.1.1
      have e51 : ∀ j, 0 ≤ j → j < 87 → zF (zW m 3 10 w) 51 0 87 (zW m 3 10 w 52) 51 j = m 52 j := fun j j0 j1 => by
        rw [zF_i (by omega), Int.sub_zero, eM 52 (by omega)]
      refine ⟨zInv_g h (zIg_m hkW (zEq2_k hk h.2.1.1 h.2.1.2 e51) (fun c q1 q2 j => ?_) (fun j => rfl)) (fun c q1 q2 q3 j q4 q5 => e c q1 q3 j) ?_, fun _ => ?_⟩
      · rw [zF_c (by omega), zW_i (by omega)]
      · rw [e 50 (by omega) (by omega)]
        exact zB_8 h
      · rw [eM 52 (by omega), h.2.1.2.1.2.1]
