/-! Race: the search -/
/-- behind a search from i on, that should find this -/
def zPo (m : zMe) (i : Int) (sol : Option (List Int)) (v : Int32) (m1 : zMe) : Prop := ∃ w, m1 = zW m 35 35 w ∧ (∀ j, j < i → w 35 j = m 35 j) ∧ v = zI (zB (sol.isSome = true)) ∧ ∀ l, sol = some l → ∀ j : Nat, j < l.length → w 35 (i + j) = l.getD j 0
/-- what is found from i on -/
def zSo1 (m : zMe) (i : Int) : Option (List Int) := zSv (m 32) (m 33) (m 30 6) (m 30 7) (m 30 8) (m 30 5 - i).toNat (m 31) i
theorem zSub_U (m : zMe) (x W : Int) : zU m 31 x (m 31 x - W) 31 = zSub (m 31) x W := by
  funext u
  unfold zU zSub
  rw [if_pos rfl]
  by_cases h : u = x
  · rw [if_pos h, if_pos h, h]
  · rw [if_neg h, if_neg h]
/-- the search's own turn, one game on: room less for one or two teams, a pick written -/
theorem zRc_sub {m : zMe} {i res x W : Int} (h : zRc m) (hx : 0 ≤ x ∧ x < 6) (hW : 0 ≤ W ∧ W ≤ m 31 x) : zRc (zU (zU m 35 i res) 31 x (m 31 x - W)) := by
  obtain ⟨hS, hK, hD, hdr, hg, hf⟩ := h
  have e30 : ∀ j, zU (zU m 35 i res) 31 x (m 31 x - W) 30 j = m 30 j := fun j => by rw [zU_c (by omega), zU_c (by omega)]
  have e32 : ∀ j, zU (zU m 35 i res) 31 x (m 31 x - W) 32 j = m 32 j := fun j => by rw [zU_c (by omega), zU_c (by omega)]
  have e33 : ∀ j, zU (zU m 35 i res) 31 x (m 31 x - W) 33 j = m 33 j := fun j => by rw [zU_c (by omega), zU_c (by omega)]
  refine ⟨by rw [e30]; exact hS, by rw [e30]; exact hK, by rw [e30]; exact hD, by rw [e30]; exact hdr, fun j h0 h1 => ?_, fun u h0 h1 => ?_⟩
  · rw [e30] at h1
    rw [e32, e33]
    exact hg j h0 h1
  · have := hf u h0 h1
    by_cases hu : u = x
    · subst hu
      rw [zU_e]
      omega
    · rw [zU_k hu, zU_c (by omega)]
      exact this
theorem zBack1 (m w : zMe) (i res x a : Int) (ha : a = m 31 x) (b : Int) : zU (zW (zU (zU m 35 i res) 31 x b) 35 35 w) 31 x a = zW m 35 35 w := by
  subst ha
  funext c j
  unfold zW zU
  by_cases h1 : c = 31
  · subst h1
    simp
    by_cases h : j = x
    · rw [if_pos h, h]
    · rw [if_neg h, if_neg h]
  · by_cases h2 : c = 35
    · subst h2
      simp
    · have h3 : ¬ (35 ≤ c ∧ c ≤ 35) := by omega
      simp only [if_neg h1, if_neg h2, if_neg h3]
theorem s1_won {m : zMe} {ks : Nat × Int32 → Hp → Option (Int32 × Hp)} {i x res : Int} (h : zRc m) (hi : 0 ≤ i ∧ i < m 30 5) (hx : 0 ≤ x ∧ x < 6) (hk : ∀ m', zRc m' → m' 30 5 = m 30 5 → zOk (ks (30, zI (i + 1)) (zM m')) (zPo m' (i + 1) (zSo1 m' (i + 1)))) : zOk (f_X1_fitsWon ks 30 (zI i) (zI x) (zI res) (zM m)) (zPo m i (if m 30 6 ≤ m 31 x then (zSv (m 32) (m 33) (m 30 6) (m 30 7) (m 30 8) (m 30 5 - (i + 1)).toNat (zSub (m 31) x (m 30 6)) (i + 1)).map (fun l => res :: l) else none)) := by
  have hc := id h
  obtain ⟨hS, hW, hD, hdr, hg, hf⟩ := hc
  have hfx := hf x hx.1 hx.2
  unfold f_X1_fitsWon
  repeat' (first
    | (with_reducible apply z_nm; (case he => repeat (with_reducible first | exact zv_l _ | exact zv_r | apply zv_add | apply zv_sub)))
    | (with_reducible apply z_b_ck; (case h => with_unfolding_all rfl))
    | (with_reducible apply z_I; (case h => first | with_unfolding_all rfl); (case hy => first | ((simp (disch := omega) only [zU_c, zU_e, zU_k, zF_c, zF_i, zF_o, zW_o, zW_i, zC_c, zC_i, zC_o]); rfl) | rfl))
    | (with_reducible apply z_b_R; (case h => first | with_unfolding_all rfl))
    | (with_reducible apply z_L; (case he => repeat (with_reducible first | exact zv_l _ | exact zv_r | apply zv_add | apply zv_sub)); (case hn => with_reducible first | assumption | exact zl_2 | exact zl_5 | exact zl_6 | exact zl_7 | exact zl_8 | exact zl_31 | exact zl_32 | exact zl_33 | exact zl_35); (case h => omega); (case hy => first | ((simp (disch := omega) only [zU_c, zU_e, zU_k, zF_c, zF_i, zF_o, zW_o, zW_i, zC_c, zC_i, zC_o]); rfl) | rfl))
    | (with_reducible apply z_S; (case he => repeat (with_reducible first | exact zv_l _ | exact zv_r | apply zv_add | apply zv_sub)); (case hg => repeat (with_reducible first | exact zv_l _ | exact zv_r | apply zv_add | apply zv_sub)); (case hn => with_reducible first | assumption | exact zl_2 | exact zl_5 | exact zl_6 | exact zl_7 | exact zl_8 | exact zl_31 | exact zl_32 | exact zl_33 | exact zl_35); (case h => omega))
    | with_reducible refine z_bz ?_
    | with_reducible refine z_bzE ?_
    | (with_reducible apply z_bzl; (case h => omega)))
  (first
    | (with_reducible apply z_B; all_goals (intro _; try (exfalso; omega)))
    | (with_reducible apply z_E; all_goals intro _)
    | (with_reducible apply z_lt; (case ha => repeat (with_reducible first | exact zv_l _ | exact zv_r | apply zv_add | apply zv_sub)); (case hb => repeat (with_reducible first | exact zv_l _ | exact zv_r | apply zv_add | apply zv_sub)); (case hx => omega); (case hy => omega); all_goals (intro _; try (exfalso; omega)))
    | (with_reducible apply z_le; (case ha => repeat (with_reducible first | exact zv_l _ | exact zv_r | apply zv_add | apply zv_sub)); (case hb => repeat (with_reducible first | exact zv_l _ | exact zv_r | apply zv_add | apply zv_sub)); (case hx => omega); (case hy => omega); all_goals (intro _; try (exfalso; omega)))
    | (with_reducible apply z_eq; (case ha => repeat (with_reducible first | exact zv_l _ | exact zv_r | apply zv_add | apply zv_sub)); (case hb => repeat (with_reducible first | exact zv_l _ | exact zv_r | apply zv_add | apply zv_sub)); (case hx => omega); (case hy => omega); all_goals (intro _; try (exfalso; omega))))
  · rename_i hle
    rw [if_pos hle]
    repeat' (first
    | (with_reducible apply z_nm; (case he => repeat (with_reducible first | exact zv_l _ | exact zv_r | apply zv_add | apply zv_sub)))
    | (with_reducible apply z_b_ck; (case h => with_unfolding_all rfl))
    | (with_reducible apply z_I; (case h => first | with_unfolding_all rfl); (case hy => first | ((simp (disch := omega) only [zU_c, zU_e, zU_k, zF_c, zF_i, zF_o, zW_o, zW_i, zC_c, zC_i, zC_o]); rfl) | rfl))
    | (with_reducible apply z_b_R; (case h => first | with_unfolding_all rfl))
    | (with_reducible apply z_L; (case he => repeat (with_reducible first | exact zv_l _ | exact zv_r | apply zv_add | apply zv_sub)); (case hn => with_reducible first | assumption | exact zl_2 | exact zl_5 | exact zl_6 | exact zl_7 | exact zl_8 | exact zl_31 | exact zl_32 | exact zl_33 | exact zl_35); (case h => omega); (case hy => first | ((simp (disch := omega) only [zU_c, zU_e, zU_k, zF_c, zF_i, zF_o, zW_o, zW_i, zC_c, zC_i, zC_o]); rfl) | rfl))
    | (with_reducible apply z_S; (case he => repeat (with_reducible first | exact zv_l _ | exact zv_r | apply zv_add | apply zv_sub)); (case hg => repeat (with_reducible first | exact zv_l _ | exact zv_r | apply zv_add | apply zv_sub)); (case hn => with_reducible first | assumption | exact zl_2 | exact zl_5 | exact zl_6 | exact zl_7 | exact zl_8 | exact zl_31 | exact zl_32 | exact zl_33 | exact zl_35); (case h => omega))
    | with_reducible refine z_bz ?_
    | with_reducible refine z_bzE ?_
    | (with_reducible apply z_bzl; (case h => omega)))
    have hR := zRc_sub (i := i) (res := res) h hx ⟨hW.1, hle⟩
    rw [show zI i + 1 = zI (i + 1) from zv_add rfl (zv_l 1)]
    refine z_call (hk _ hR (by rw [zU_c (by omega), zU_c (by omega)])) (fun v m1 hp => ?_)
    obtain ⟨w, rfl, w1, w2, w3⟩ := hp
    have eS : zSo1 (zU (zU m 35 i res) 31 x (m 31 x - m 30 6)) (i + 1) = zSv (m 32) (m 33) (m 30 6) (m 30 7) (m 30 8) (m 30 5 - (i + 1)).toNat (zSub (m 31) x (m 30 6)) (i + 1) := by
      have e := zSub_U (zU m 35 i res) x (m 30 6)
      have e31 : (zU m 35 i res) 31 = m 31 := rfl
      rw [e31] at e
      unfold zSo1
      rw [e]
      rfl
    rw [eS] at w2 w3
    subst w2
    generalize hsol : zSv (m 32) (m 33) (m 30 6) (m 30 7) (m 30 8) (m 30 5 - (i + 1)).toNat (zSub (m 31) x (m 30 6)) (i + 1) = sol at w3 ⊢
    repeat' (first
    | (with_reducible apply z_nm; (case he => repeat (with_reducible first | exact zv_l _ | exact zv_r | apply zv_add | apply zv_sub)))
    | (with_reducible apply z_b_ck; (case h => with_unfolding_all rfl))
    | (with_reducible apply z_I; (case h => first | with_unfolding_all rfl); (case hy => first | ((simp (disch := omega) only [zU_c, zU_e, zU_k, zF_c, zF_i, zF_o, zW_o, zW_i, zC_c, zC_i, zC_o]); rfl) | rfl))
    | (with_reducible apply z_b_R; (case h => first | with_unfolding_all rfl))
    | (with_reducible apply z_L; (case he => repeat (with_reducible first | exact zv_l _ | exact zv_r | apply zv_add | apply zv_sub)); (case hn => with_reducible first | assumption | exact zl_2 | exact zl_5 | exact zl_6 | exact zl_7 | exact zl_8 | exact zl_31 | exact zl_32 | exact zl_33 | exact zl_35); (case h => omega); (case hy => first | ((simp (disch := omega) only [zU_c, zU_e, zU_k, zF_c, zF_i, zF_o, zW_o, zW_i, zC_c, zC_i, zC_o]); rfl) | rfl))
    | (with_reducible apply z_S; (case he => repeat (with_reducible first | exact zv_l _ | exact zv_r | apply zv_add | apply zv_sub)); (case hg => repeat (with_reducible first | exact zv_l _ | exact zv_r | apply zv_add | apply zv_sub)); (case hn => with_reducible first | assumption | exact zl_2 | exact zl_5 | exact zl_6 | exact zl_7 | exact zl_8 | exact zl_31 | exact zl_32 | exact zl_33 | exact zl_35); (case h => omega))
    | with_reducible refine z_bz ?_
    | with_reducible refine z_bzE ?_
    | (with_reducible apply z_bzl; (case h => omega)))
    rw [zBack1 m w i res x _ (by omega)]
    refine ⟨_, _, rfl, w, rfl, fun j hj => ?_, ?_, fun l hl => ?_⟩
    · rw [w1 j (by omega), zU_c (by omega), zU_k (by omega)]
    · rw [Option.isSome_map]
    · cases sol with
      | none => cases hl
      | some l0 =>
        have hl : res :: l0 = l := Option.some.inj hl
        subst hl
        intro j hj
        cases j with
        | zero =>
          have := w1 i (by omega)
          rw [zU_c (by omega), zU_e] at this
          simpa using this
        | succ j =>
          have := w3 l0 rfl j (by simpa using hj)
          have e : i + ((j + 1 : Nat) : Int) = i + 1 + (j : Int) := by omega
          rw [e, this]
          rfl
  · rename_i hle
    rw [if_neg hle]
    exact ⟨0, m, rfl, m, zW_0 _ _ _, fun _ _ => rfl, rfl, fun l hl => by cases hl⟩
