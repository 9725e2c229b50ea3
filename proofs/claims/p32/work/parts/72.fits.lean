/-! Race: the search, its drawn games; the whole of it -/
theorem zRc_35 {m : zMe} {i res : Int} (h : zRc m) : zRc (zU m 35 i res) := by
  have e : ∀ c, ¬ c = 35 → ∀ j, zU m 35 i res c j = m c j := fun c hc j => zU_c hc
  unfold zRc at h ⊢
  simp only [e 30 (by omega), e 31 (by omega), e 32 (by omega), e 33 (by omega)]
  exact h
theorem zRc_31 {m : zMe} {x a : Int} (h : zRc m) (hx : 0 ≤ x ∧ x < 6) (ha : 0 ≤ a ∧ a ≤ 1000) : zRc (zU m 31 x a) := by
  have e : ∀ c, ¬ c = 31 → ∀ j, zU m 31 x a c j = m c j := fun c hc j => zU_c hc
  obtain ⟨h1, h2, h3, h4, h5, h6⟩ := h
  refine ⟨?_, ?_, ?_, ?_, ?_, fun u u0 u1 => ?_⟩
  · simp only [e 30 (by omega)]; exact h1
  · simp only [e 30 (by omega)]; exact h2
  · simp only [e 30 (by omega)]; exact h3
  · simp only [e 30 (by omega)]; exact h4
  · simp only [e 30 (by omega), e 32 (by omega), e 33 (by omega)]; exact h5
  · by_cases hu : u = x
    · subst hu
      rw [zU_e]
      exact ha
    · rw [zU_k hu]
      exact h6 u u0 u1
theorem zBack2 (m w : zMe) (i res x y a b : Int) (ha : a = m 31 x) (hb : b = m 31 y) (c d : Int) : zU (zU (zW (zU (zU (zU m 35 i res) 31 x c) 31 y d) 35 35 w) 31 x a) 31 y b = zW m 35 35 w := by
  subst ha; subst hb
  funext q j
  unfold zW zU
  by_cases h1 : q = 31
  · subst h1
    simp
    by_cases h2 : j = y
    · rw [if_pos h2, h2]
    · by_cases h3 : j = x
      · rw [if_neg h2, if_pos h3, h3]
      · simp only [if_neg h2, if_neg h3]
  · by_cases h2 : q = 35
    · subst h2
      simp
    · have h3 : ¬ (35 ≤ q ∧ q ≤ 35) := by omega
      simp only [if_neg h1, if_neg h2, if_neg h3]
theorem zPo_map {m w : zMe} {i res : Int} {sol : Option (List Int)} (w1 : ∀ j, j < i + 1 → w 35 j = (if j = i then res else m 35 j)) (w3 : ∀ l, sol = some l → ∀ j : Nat, j < l.length → w 35 (i + 1 + j) = l.getD j 0) : zPo m i (sol.map (fun l => res :: l)) (zI (zB (sol.isSome = true))) (zW m 35 35 w) := by
  refine ⟨w, rfl, fun j hj => ?_, ?_, fun l hl => ?_⟩
  · rw [w1 j (by omega), if_neg (by omega)]
  · rw [Option.isSome_map]
  · cases sol with
    | none => cases hl
    | some l0 =>
      have hl : res :: l0 = l := Option.some.inj hl
      subst hl
      intro j hj
      cases j with
      | zero =>
        have := w1 i (by omega)
        rw [if_pos rfl] at this
        simpa using this
      | succ j =>
        have := w3 l0 rfl j (by simpa using hj)
        have e : i + ((j + 1 : Nat) : Int) = i + 1 + (j : Int) := by omega
        rw [e, this]
        rfl
theorem s1_drawn {m : zMe} {ks : Nat × Int32 → Hp → Option (Int32 × Hp)} {i : Int} (h : zRc m) (hi : 0 ≤ i ∧ i < m 30 5) (hk : ∀ m', zRc m' → m' 30 5 = m 30 5 → zOk (ks (30, zI (i + 1)) (zM m')) (zPo m' (i + 1) (zSo1 m' (i + 1)))) : zOk (f_X1_fitsDrawn ks 30 (zI i) (zM m)) (zPo m i (if m 30 7 ≤ m 31 (m 32 i) ∧ m 30 7 ≤ m 31 (m 33 i) then (zSv (m 32) (m 33) (m 30 6) (m 30 7) (m 30 8) (m 30 5 - (i + 1)).toNat (zSub (zSub (m 31) (m 32 i) (m 30 7)) (m 33 i) (m 30 7)) (i + 1)).map (fun l => 0 :: l) else none)) := by
  have hc := id h
  obtain ⟨hS, hW, hD, hdr, hg, hf⟩ := hc
  obtain ⟨g1, g2, g3⟩ := hg i hi.1 hi.2
  have hf1 := hf (m 32 i) g1.1 g1.2
  have hf2 := hf (m 33 i) g2.1 g2.2
  have hno : ∀ c : Prop, [Decidable c] → ¬ c → ∀ S : Option (List Int), zOk (some ((0 : Int32), zM m)) (zPo m i (if c then S else none)) := fun c _ hc S => by
    rw [if_neg hc]
    exact ⟨0, m, rfl, m, zW_0 _ _ _, fun _ _ => rfl, rfl, fun l hl => by cases hl⟩
  unfold f_X1_fitsDrawn
  repeat' (first
    | (with_reducible apply z_nm; (case he => repeat (with_reducible first | exact zv_l _ | exact zv_r | apply zv_add | apply zv_sub)))
    | (with_reducible apply z_b_ck; (case h => with_unfolding_all rfl))
    | (with_reducible apply z_I; (case h => first | with_unfolding_all rfl); (case hy => first | ((simp (disch := omega) only [zU_c, zU_e, zU_k, zF_c, zF_i, zF_o, zW_o, zW_i, zC_c, zC_i, zC_o]); rfl) | rfl))
    | (with_reducible apply z_b_R; (case h => first | with_unfolding_all rfl))
    | (with_reducible apply z_L; (case he => repeat (with_reducible first | exact zv_l _ | exact zv_r | apply zv_add | apply zv_sub)); (case hn => with_reducible first | assumption | exact zl_2 | exact zl_5 | exact zl_6 | exact zl_7 | exact zl_8 | exact zl_31 | exact zl_32 | exact zl_33 | exact zl_35); (case h => omega); (case hy => first | ((simp (disch := omega) only [zU_c, zU_e, zU_k, zF_c, zF_i, zF_o, zW_o, zW_i, zC_c, zC_i, zC_o]); rfl) | rfl))
    | (with_reducible apply z_S; (case he => repeat (with_reducible first | exact zv_l _ | exact zv_r | apply zv_add | apply zv_sub)); (case hg => repeat (with_reducible first | exact zv_l _ | exact zv_r | apply zv_add | apply zv_sub)); (case hn => with_reducible first | assumption | exact zl_2 | exact zl_5 | exact zl_6 | exact zl_7 | exact zl_8 | exact zl_31 | exact zl_32 | exact zl_33 | exact zl_35); (case h => omega))
    | with_reducible refine z_bz ?_
    | with_reducible refine z_bzE ?_
    | (with_reducible apply z_bzl; (case h => omega)))
  (first
    | (with_reducible apply z_B; all_goals (intro _; try (exfalso; omega)))
    | (with_reducible apply z_E; all_goals intro _)
    | (with_reducible apply z_lt; (case ha => repeat (with_reducible first | exact zv_l _ | exact zv_r | apply zv_add | apply zv_sub)); (case hb => repeat (with_reducible first | exact zv_l _ | exact zv_r | apply zv_add | apply zv_sub)); (case hx => omega); (case hy => omega); all_goals (intro _; try (exfalso; omega)))
    | (with_reducible apply z_le; (case ha => repeat (with_reducible first | exact zv_l _ | exact zv_r | apply zv_add | apply zv_sub)); (case hb => repeat (with_reducible first | exact zv_l _ | exact zv_r | apply zv_add | apply zv_sub)); (case hx => omega); (case hy => omega); all_goals (intro _; try (exfalso; omega)))
    | (with_reducible apply z_eq; (case ha => repeat (with_reducible first | exact zv_l _ | exact zv_r | apply zv_add | apply zv_sub)); (case hb => repeat (with_reducible first | exact zv_l _ | exact zv_r | apply zv_add | apply zv_sub)); (case hx => omega); (case hy => omega); all_goals (intro _; try (exfalso; omega))))
  · exact hno _ (by omega) _
  · repeat' (first
    | (with_reducible apply z_nm; (case he => repeat (with_reducible first | exact zv_l _ | exact zv_r | apply zv_add | apply zv_sub)))
    | (with_reducible apply z_b_ck; (case h => with_unfolding_all rfl))
    | (with_reducible apply z_I; (case h => first | with_unfolding_all rfl); (case hy => first | ((simp (disch := omega) only [zU_c, zU_e, zU_k, zF_c, zF_i, zF_o, zW_o, zW_i, zC_c, zC_i, zC_o]); rfl) | rfl))
    | (with_reducible apply z_b_R; (case h => first | with_unfolding_all rfl))
    | (with_reducible apply z_L; (case he => repeat (with_reducible first | exact zv_l _ | exact zv_r | apply zv_add | apply zv_sub)); (case hn => with_reducible first | assumption | exact zl_2 | exact zl_5 | exact zl_6 | exact zl_7 | exact zl_8 | exact zl_31 | exact zl_32 | exact zl_33 | exact zl_35); (case h => omega); (case hy => first | ((simp (disch := omega) only [zU_c, zU_e, zU_k, zF_c, zF_i, zF_o, zW_o, zW_i, zC_c, zC_i, zC_o]); rfl) | rfl))
    | (with_reducible apply z_S; (case he => repeat (with_reducible first | exact zv_l _ | exact zv_r | apply zv_add | apply zv_sub)); (case hg => repeat (with_reducible first | exact zv_l _ | exact zv_r | apply zv_add | apply zv_sub)); (case hn => with_reducible first | assumption | exact zl_2 | exact zl_5 | exact zl_6 | exact zl_7 | exact zl_8 | exact zl_31 | exact zl_32 | exact zl_33 | exact zl_35); (case h => omega))
    | with_reducible refine z_bz ?_
    | with_reducible refine z_bzE ?_
    | (with_reducible apply z_bzl; (case h => omega)))
    (first
    | (with_reducible apply z_B; all_goals (intro _; try (exfalso; omega)))
    | (with_reducible apply z_E; all_goals intro _)
    | (with_reducible apply z_lt; (case ha => repeat (with_reducible first | exact zv_l _ | exact zv_r | apply zv_add | apply zv_sub)); (case hb => repeat (with_reducible first | exact zv_l _ | exact zv_r | apply zv_add | apply zv_sub)); (case hx => omega); (case hy => omega); all_goals (intro _; try (exfalso; omega)))
    | (with_reducible apply z_le; (case ha => repeat (with_reducible first | exact zv_l _ | exact zv_r | apply zv_add | apply zv_sub)); (case hb => repeat (with_reducible first | exact zv_l _ | exact zv_r | apply zv_add | apply zv_sub)); (case hx => omega); (case hy => omega); all_goals (intro _; try (exfalso; omega)))
    | (with_reducible apply z_eq; (case ha => repeat (with_reducible first | exact zv_l _ | exact zv_r | apply zv_add | apply zv_sub)); (case hb => repeat (with_reducible first | exact zv_l _ | exact zv_r | apply zv_add | apply zv_sub)); (case hx => omega); (case hy => omega); all_goals (intro _; try (exfalso; omega))))
    · repeat' (first
    | (with_reducible apply z_nm; (case he => repeat (with_reducible first | exact zv_l _ | exact zv_r | apply zv_add | apply zv_sub)))
    | (with_reducible apply z_b_ck; (case h => with_unfolding_all rfl))
    | (with_reducible apply z_I; (case h => first | with_unfolding_all rfl); (case hy => first | ((simp (disch := omega) only [zU_c, zU_e, zU_k, zF_c, zF_i, zF_o, zW_o, zW_i, zC_c, zC_i, zC_o]); rfl) | rfl))
    | (with_reducible apply z_b_R; (case h => first | with_unfolding_all rfl))
    | (with_reducible apply z_L; (case he => repeat (with_reducible first | exact zv_l _ | exact zv_r | apply zv_add | apply zv_sub)); (case hn => with_reducible first | assumption | exact zl_2 | exact zl_5 | exact zl_6 | exact zl_7 | exact zl_8 | exact zl_31 | exact zl_32 | exact zl_33 | exact zl_35); (case h => omega); (case hy => first | ((simp (disch := omega) only [zU_c, zU_e, zU_k, zF_c, zF_i, zF_o, zW_o, zW_i, zC_c, zC_i, zC_o]); rfl) | rfl))
    | (with_reducible apply z_S; (case he => repeat (with_reducible first | exact zv_l _ | exact zv_r | apply zv_add | apply zv_sub)); (case hg => repeat (with_reducible first | exact zv_l _ | exact zv_r | apply zv_add | apply zv_sub)); (case hn => with_reducible first | assumption | exact zl_2 | exact zl_5 | exact zl_6 | exact zl_7 | exact zl_8 | exact zl_31 | exact zl_32 | exact zl_33 | exact zl_35); (case h => omega))
    | with_reducible refine z_bz ?_
    | with_reducible refine z_bzE ?_
    | (with_reducible apply z_bzl; (case h => omega)))
      rename_i hle
      rw [if_pos (by omega)]
      rw [show zI i + 1 = zI (i + 1) from zv_add rfl (zv_l 1)]
      have hR : zRc (zU (zU (zU m 35 i 0) 31 (m 32 i) (m 31 (m 32 i) - m 30 7)) 31 (m 33 i) (m 31 (m 33 i) - m 30 7)) := zRc_31 (zRc_31 (zRc_35 h) g1 (by omega)) g2 (by omega)
      refine z_call (hk _ hR (by rw [zU_c (by omega), zU_c (by omega), zU_c (by omega)])) (fun v m1 hp => ?_)
      obtain ⟨w, rfl, w1, w2, w3⟩ := hp
      have eR : zU (zU (zU m 35 i 0) 31 (m 32 i) (m 31 (m 32 i) - m 30 7)) 31 (m 33 i) (m 31 (m 33 i) - m 30 7) 31 = zSub (zSub (m 31) (m 32 i) (m 30 7)) (m 33 i) (m 30 7) := by
        funext u
        unfold zU zSub
        simp only [if_true]
        by_cases hu : u = m 33 i
        · subst hu
          simp only [if_true]
          rw [if_neg (fun q => g3 q.symm)]
        · simp only [if_neg hu]
          by_cases hu2 : u = m 32 i
          · subst hu2
            simp
          · simp [hu2]
      have eS : zSo1 (zU (zU (zU m 35 i 0) 31 (m 32 i) (m 31 (m 32 i) - m 30 7)) 31 (m 33 i) (m 31 (m 33 i) - m 30 7)) (i + 1) = zSv (m 32) (m 33) (m 30 6) (m 30 7) (m 30 8) (m 30 5 - (i + 1)).toNat (zSub (zSub (m 31) (m 32 i) (m 30 7)) (m 33 i) (m 30 7)) (i + 1) := by
        unfold zSo1
        rw [eR]
        rfl
      rw [eS] at w2 w3
      subst w2
      generalize hsol : zSv (m 32) (m 33) (m 30 6) (m 30 7) (m 30 8) (m 30 5 - (i + 1)).toNat (zSub (zSub (m 31) (m 32 i) (m 30 7)) (m 33 i) (m 30 7)) (i + 1) = sol at w3 ⊢
      repeat' (first
    | (with_reducible apply z_nm; (case he => repeat (with_reducible first | exact zv_l _ | exact zv_r | apply zv_add | apply zv_sub)))
    | (with_reducible apply z_b_ck; (case h => with_unfolding_all rfl))
    | (with_reducible apply z_I; (case h => first | with_unfolding_all rfl); (case hy => first | ((simp (disch := omega) only [zU_c, zU_e, zU_k, zF_c, zF_i, zF_o, zW_o, zW_i, zC_c, zC_i, zC_o]); rfl) | rfl))
    | (with_reducible apply z_b_R; (case h => first | with_unfolding_all rfl))
    | (with_reducible apply z_L; (case he => repeat (with_reducible first | exact zv_l _ | exact zv_r | apply zv_add | apply zv_sub)); (case hn => with_reducible first | assumption | exact zl_2 | exact zl_5 | exact zl_6 | exact zl_7 | exact zl_8 | exact zl_31 | exact zl_32 | exact zl_33 | exact zl_35); (case h => omega); (case hy => first | ((simp (disch := omega) only [zU_c, zU_e, zU_k, zF_c, zF_i, zF_o, zW_o, zW_i, zC_c, zC_i, zC_o]); rfl) | rfl))
    | (with_reducible apply z_S; (case he => repeat (with_reducible first | exact zv_l _ | exact zv_r | apply zv_add | apply zv_sub)); (case hg => repeat (with_reducible first | exact zv_l _ | exact zv_r | apply zv_add | apply zv_sub)); (case hn => with_reducible first | assumption | exact zl_2 | exact zl_5 | exact zl_6 | exact zl_7 | exact zl_8 | exact zl_31 | exact zl_32 | exact zl_33 | exact zl_35); (case h => omega))
    | with_reducible refine z_bz ?_
    | with_reducible refine z_bzE ?_
    | (with_reducible apply z_bzl; (case h => omega)))
      rw [zBack2 m w i 0 (m 32 i) (m 33 i) _ _ (by omega) (by omega)]
      refine ⟨_, _, rfl, zPo_map (fun j hj => ?_) w3⟩
      rw [w1 j (by omega), zU_c (by omega), zU_c (by omega)]
      unfold zU
      rw [if_pos rfl]
    · exact hno _ (by omega) _
