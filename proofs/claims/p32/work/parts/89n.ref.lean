/-! the reference: keys, names, numbers -/
/-- what class and reference hold as a text is read -/
def zJt (mc m : zMe) : Prop := zTp mc ∧ mc 1 3 = 0 ∧ zTr mc m ∧ zWf mc 3 ∧ zEq2 mc m 3 51 ∧ ∀ j, 0 ≤ j → j < 25 → m 57 j = zM0 57 j
def zKw (mc : zMe) (k x : Nat) : Prop := zWd (mc 2) x (zBg mc k) (zEn mc (k + 1))
def zCh (mc : zMe) (k c : Nat) : Int := if zBg mc k + (c : Int) < zEn mc (k + 1) then mc 2 (zBg mc k + (c : Int)) else 32
theorem zKy_iff {mc : zMe} {k x : Nat} (hw : zKd mc k = 1) (hx : x < 5) : (zEn mc (k + 1) - zBg mc k ≤ 5 ∧ ∀ c : Nat, c < 5 → zCh mc k c = zM0 57 ((5 * x + c : Nat) : Int)) ↔ zKw mc k x := by
  have hl := lenK_r x hx
  have hn := (zKd_len (mc := mc) k).1 (Or.inl hw)
  have ht := zky_tab x hx
  have hlt := zky_let x hx
  constructor
  · rintro ⟨h5, h⟩
    have hlen : zEn mc (k + 1) - zBg mc k = lenK x := by
      by_cases h1 : zEn mc (k + 1) - zBg mc k < lenK x
      · exfalso
        have e := h (zEn mc (k + 1) - zBg mc k).toNat (by omega)
        unfold zCh at e
        rw [if_neg (by omega), ht _ (by omega), if_pos (by omega)] at e
        have := hlt (zEn mc (k + 1) - zBg mc k).toNat (by omega)
        omega
      · by_cases h2 : lenK x < zEn mc (k + 1) - zBg mc k
        · exfalso
          have e := h (lenK x) (by omega)
          unfold zCh at e
          rw [if_pos (by omega), ht _ (by omega), if_neg (by omega)] at e
          have := zKd_all hw (j := zBg mc k + (lenK x : Int)) (by omega) (by omega)
          omega
        · omega
    refine ⟨hlen, fun i i0 i1 => ?_⟩
    have e := h i.toNat (by omega)
    unfold zCh at e
    rw [if_pos (by omega), ht _ (by omega), if_pos (by omega), Int.toNat_of_nonneg i0] at e
    exact e
  · rintro ⟨hlen, h⟩
    refine ⟨by omega, fun c hc => ?_⟩
    unfold zCh
    rw [ht c hc]
    by_cases h1 : c < lenK x
    · rw [if_pos (by omega), if_pos h1]
      have e := h (c : Int) (by omega) (by omega)
      rw [e]
      rfl
    · rw [if_neg (by omega), if_neg h1]
theorem zCh_r {mc m : zMe} {k c : Nat} (hP : zTp mc) (h3 : mc 1 3 = 0) : 0 ≤ zCh mc k c ∧ zCh mc k c ≤ 255 := by
  have hr := (zTp_r hP h3 k).1
  have hs := hP.1
  have := hP.2.2.2 (zBg mc k + (c : Int)) (by omega)
  unfold zCh
  split <;> omega
set_option maxRecDepth 100000 in
theorem zkz_tab : ∀ j : Nat, j < 25 → 0 ≤ zM0 57 (j : Int) ∧ zM0 57 (j : Int) ≤ 255 := by decide +kernel
def zKq (mc : zMe) (k : Nat) (v : Int32) : Prop := (v = zI (-1) ∧ ∀ x, x < 5 → ¬ zKw mc k x) ∨ ∃ x : Nat, x < 5 ∧ v = zI (x : Int) ∧ zKw mc k x ∧ ∀ y, y < x → ¬ zKw mc k y
set_option maxRecDepth 100000 in
set_option maxHeartbeats 1000000 in
theorem s7_key {mc m : zMe} {k : Nat} (hJ : zJt mc m) (hw : zKd mc k = 1) : zOk (f_X7_key 50 (zM (zNn mc m k))) (fun v m1 => m1 = zNn mc m k ∧ zKq mc k v) := by
  obtain ⟨hP, h3, hT, hW, hE, h57⟩ := hJ
  have hr := (zTp_r hP h3 k).1
  have hs := hT.2.1
  unfold f_X7_key
  (first
    | (with_reducible apply z_nm; (case he => repeat (with_reducible first | exact zv_l _ | exact zv_r | apply zv_add | apply zv_sub | apply zv_mul | apply zv_neg)))
    | (with_reducible apply z_b_ck; (case h => with_unfolding_all rfl))
    | (with_reducible apply z_I; (case h => first | with_unfolding_all rfl); (case hy => first | ((simp (disch := omega) only [zU_c, zU_e, zU_k, zF_c, zF_i, zF_o, zW_o, zW_i, zC_c, zC_i, zC_o]); rfl) | rfl))
    | (with_reducible apply z_b_R; (case h => first | with_unfolding_all rfl))
    | (with_reducible apply z_L; (case he => repeat (with_reducible first | exact zv_l _ | exact zv_r | apply zv_add | apply zv_sub | apply zv_mul | apply zv_neg)); (case hn => with_reducible first | assumption | exact zl_2 | exact zl_5 | exact zl_32 | exact zl_56 | exact zl_57); (case h => omega); (case hy => first | ((simp (disch := omega) only [zU_c, zU_e, zU_k, zF_c, zF_i, zF_o, zW_o, zW_i, zC_c, zC_i, zC_o]); rfl) | rfl)))
  refine z_lp (fun nn v m1 => ∃ x : Nat, v = (50, zI (x : Int)) ∧ x ≤ 5 ∧ nn = 5 - x ∧ m1 = zNn mc m k ∧ ∀ y, y < x → ¬ zKw mc k y) (fun _ _ v m1 => m1 = zNn mc m k ∧ zKq mc k v) ?_ 600 5 _ _ (by omega) ⟨0, rfl, by omega, rfl, rfl, fun y hy => absurd hy (by omega)⟩
  rintro nn v m1 k2 ⟨x, rfl, hx, rfl, rfl, hno⟩ hk
  unfold f_X7_key_2
  dsimp only
  (first
    | (with_reducible apply z_B; all_goals (intro _; try (exfalso; omega)))
    | (with_reducible apply z_E; all_goals intro _)
    | (with_reducible apply z_lt; (case ha => repeat (with_reducible first | exact zv_l _ | exact zv_r | apply zv_add | apply zv_sub | apply zv_mul | apply zv_neg)); (case hb => repeat (with_reducible first | exact zv_l _ | exact zv_r | apply zv_add | apply zv_sub | apply zv_mul | apply zv_neg)); (case hx => omega); (case hy => omega); all_goals (intro _; try (exfalso; omega)))
    | (with_reducible apply z_le; (case ha => repeat (with_reducible first | exact zv_l _ | exact zv_r | apply zv_add | apply zv_sub | apply zv_mul | apply zv_neg)); (case hb => repeat (with_reducible first | exact zv_l _ | exact zv_r | apply zv_add | apply zv_sub | apply zv_mul | apply zv_neg)); (case hx => omega); (case hy => omega); all_goals (intro _; try (exfalso; omega)))
    | (with_reducible apply z_eq; (case ha => repeat (with_reducible first | exact zv_l _ | exact zv_r | apply zv_add | apply zv_sub | apply zv_mul | apply zv_neg)); (case hb => repeat (with_reducible first | exact zv_l _ | exact zv_r | apply zv_add | apply zv_sub | apply zv_mul | apply zv_neg)); (case hx => omega); (case hy => omega); all_goals (intro _; try (exfalso; omega))))
  · exact ⟨_, _, rfl, rfl, Or.inl ⟨rfl, fun y hy => hno y (by omega)⟩⟩
  · have hx5 : x < 5 := by omega
    have hky := zKy_iff hw hx5
    have hin : ∀ s : Int, ((s = 1 ∧ zEn mc (k + 1) - zBg mc k ≤ 5) ∨ (s = 0 ∧ ¬ zKw mc k x)) → zOk (f_X7_key_25 k2 50 (zI (x : Int)) (zI s) (zM (zNn mc m k))) (fun v m1 => m1 = zNn mc m k ∧ zKq mc k v) := fun s0 hs0 => by
      unfold f_X7_key_25
      refine z_lp (fun nn v m1 => ∃ (s : Int) (c : Nat), v = (50, zI (x : Int), zI s, zI (c : Int)) ∧ c ≤ 5 ∧ nn = 5 - c ∧ m1 = zNn mc m k ∧ ((s = 1 ∧ zEn mc (k + 1) - zBg mc k ≤ 5 ∧ ∀ d : Nat, d < c → zCh mc k d = zM0 57 ((5 * x + d : Nat) : Int)) ∨ (s = 0 ∧ ¬ zKw mc k x))) (fun _ _ v m1 => m1 = zNn mc m k ∧ zKq mc k v) ?_ 600 5 _ _ (by omega) ⟨s0, 0, rfl, by omega, rfl, rfl, ?_⟩
      · rintro nn v m1 k3 ⟨s, c, rfl, hc, rfl, rfl, hI⟩ hk3
        have hzr := zCh_r (m := m) (k := k) (c := c) hP h3
        have h66 : ∀ y : Int, y = zCh mc k c → c < 5 → (s = 1 ∧ zEn mc (k + 1) - zBg mc k ≤ 5 ∧ ∀ d : Nat, d < c → zCh mc k d = zM0 57 ((5 * x + d : Nat) : Int)) → zOk (f_X7_key_66 k2 k3 50 (zI (x : Int)) (zI (c : Int)) (zI y) (zM (zNn mc m k))) (fun v m1 => m1 = zNn mc m k ∧ zKq mc k v) := fun y hy hc5 hI => by
          have hkr := zkz_tab (5 * x + c) (by omega)
          unfold f_X7_key_66
          (first
    | (with_reducible apply z_nm; (case he => repeat (with_reducible first | exact zv_l _ | exact zv_r | apply zv_add | apply zv_sub | apply zv_mul | apply zv_neg)))
    | (with_reducible apply z_b_ck; (case h => with_unfolding_all rfl))
    | (with_reducible apply z_I; (case h => first | with_unfolding_all rfl); (case hy => first | ((simp (disch := omega) only [zU_c, zU_e, zU_k, zF_c, zF_i, zF_o, zW_o, zW_i, zC_c, zC_i, zC_o]); rfl) | rfl))
    | (with_reducible apply z_b_R; (case h => first | with_unfolding_all rfl))
    | (with_reducible apply z_L; (case he => repeat (with_reducible first | exact zv_l _ | exact zv_r | apply zv_add | apply zv_sub | apply zv_mul | apply zv_neg)); (case hn => with_reducible first | assumption | exact zl_2 | exact zl_5 | exact zl_32 | exact zl_56 | exact zl_57); (case h => omega); (case hy => first | ((simp (disch := omega) only [zU_c, zU_e, zU_k, zF_c, zF_i, zF_o, zW_o, zW_i, zC_c, zC_i, zC_o]); rfl) | rfl)))
          refine z_L (x := 5 * (x : Int) + (c : Int)) (y := zM0 57 ((5 * x + c : Nat) : Int)) (zv_add (zv_mul (zv_l 5) rfl) rfl) zl_57 (by omega) (by unfold zNn; rw [zNt_c (by omega), h57 _ (by omega) (by omega)]; rfl) ?_
          refine z_eq (x := y) (y := zM0 57 ((5 * x + c : Nat) : Int)) rfl rfl (by omega) (by omega) (fun h => ?_) (fun h => ?_)
          · repeat' (first
    | (with_reducible apply z_nm; (case he => repeat (with_reducible first | exact zv_l _ | exact zv_r | apply zv_add | apply zv_sub | apply zv_mul | apply zv_neg)))
    | (with_reducible apply z_b_ck; (case h => with_unfolding_all rfl))
    | (with_reducible apply z_I; (case h => first | with_unfolding_all rfl); (case hy => first | ((simp (disch := omega) only [zU_c, zU_e, zU_k, zF_c, zF_i, zF_o, zW_o, zW_i, zC_c, zC_i, zC_o]); rfl) | rfl))
    | (with_reducible apply z_b_R; (case h => first | with_unfolding_all rfl))
    | (with_reducible apply z_L; (case he => repeat (with_reducible first | exact zv_l _ | exact zv_r | apply zv_add | apply zv_sub | apply zv_mul | apply zv_neg)); (case hn => with_reducible first | assumption | exact zl_2 | exact zl_5 | exact zl_32 | exact zl_56 | exact zl_57); (case h => omega); (case hy => first | ((simp (disch := omega) only [zU_c, zU_e, zU_k, zF_c, zF_i, zF_o, zW_o, zW_i, zC_c, zC_i, zC_o]); rfl) | rfl)))
            refine hk3 _ _ _ (by omega) ⟨1, c + 1, rfl, by omega, rfl, rfl, Or.inl ⟨rfl, hI.2.1, fun d hd => ?_⟩⟩
            by_cases hq : d = c
            · subst hq
              rw [← hy]
              exact h
            · exact hI.2.2 d (by omega)
          · repeat' (first
    | (with_reducible apply z_nm; (case he => repeat (with_reducible first | exact zv_l _ | exact zv_r | apply zv_add | apply zv_sub | apply zv_mul | apply zv_neg)))
    | (with_reducible apply z_b_ck; (case h => with_unfolding_all rfl))
    | (with_reducible apply z_I; (case h => first | with_unfolding_all rfl); (case hy => first | ((simp (disch := omega) only [zU_c, zU_e, zU_k, zF_c, zF_i, zF_o, zW_o, zW_i, zC_c, zC_i, zC_o]); rfl) | rfl))
    | (with_reducible apply z_b_R; (case h => first | with_unfolding_all rfl))
    | (with_reducible apply z_L; (case he => repeat (with_reducible first | exact zv_l _ | exact zv_r | apply zv_add | apply zv_sub | apply zv_mul | apply zv_neg)); (case hn => with_reducible first | assumption | exact zl_2 | exact zl_5 | exact zl_32 | exact zl_56 | exact zl_57); (case h => omega); (case hy => first | ((simp (disch := omega) only [zU_c, zU_e, zU_k, zF_c, zF_i, zF_o, zW_o, zW_i, zC_c, zC_i, zC_o]); rfl) | rfl)))
            refine hk3 _ _ _ (by omega) ⟨0, c + 1, rfl, by omega, rfl, rfl, Or.inr ⟨rfl, fun q => h ?_⟩⟩
            rw [hy]
            exact (hky.mpr q).2 c hc5
        unfold f_X7_key_28
        dsimp only
        (first
    | (with_reducible apply z_B; all_goals (intro _; try (exfalso; omega)))
    | (with_reducible apply z_E; all_goals intro _)
    | (with_reducible apply z_lt; (case ha => repeat (with_reducible first | exact zv_l _ | exact zv_r | apply zv_add | apply zv_sub | apply zv_mul | apply zv_neg)); (case hb => repeat (with_reducible first | exact zv_l _ | exact zv_r | apply zv_add | apply zv_sub | apply zv_mul | apply zv_neg)); (case hx => omega); (case hy => omega); all_goals (intro _; try (exfalso; omega)))
    | (with_reducible apply z_le; (case ha => repeat (with_reducible first | exact zv_l _ | exact zv_r | apply zv_add | apply zv_sub | apply zv_mul | apply zv_neg)); (case hb => repeat (with_reducible first | exact zv_l _ | exact zv_r | apply zv_add | apply zv_sub | apply zv_mul | apply zv_neg)); (case hx => omega); (case hy => omega); all_goals (intro _; try (exfalso; omega)))
    | (with_reducible apply z_eq; (case ha => repeat (with_reducible first | exact zv_l _ | exact zv_r | apply zv_add | apply zv_sub | apply zv_mul | apply zv_neg)); (case hb => repeat (with_reducible first | exact zv_l _ | exact zv_r | apply zv_add | apply zv_sub | apply zv_mul | apply zv_neg)); (case hx => omega); (case hy => omega); all_goals (intro _; try (exfalso; omega))))
        · rcases hI with ⟨rfl, h5, hd⟩ | ⟨rfl, hn⟩
          · refine z_eq (x := 1) (y := 0) rfl rfl (by omega) (by omega) (fun q => by exfalso; omega) (fun _ => ?_)
            refine ⟨_, _, rfl, rfl, Or.inr ⟨x, hx5, rfl, hky.mp ⟨h5, fun d hd5 => hd d (by omega)⟩, hno⟩⟩
          · refine z_eq (x := 0) (y := 0) rfl rfl (by omega) (by omega) (fun _ => ?_) (fun q => absurd rfl q)
            repeat' (first
    | (with_reducible apply z_nm; (case he => repeat (with_reducible first | exact zv_l _ | exact zv_r | apply zv_add | apply zv_sub | apply zv_mul | apply zv_neg)))
    | (with_reducible apply z_b_ck; (case h => with_unfolding_all rfl))
    | (with_reducible apply z_I; (case h => first | with_unfolding_all rfl); (case hy => first | ((simp (disch := omega) only [zU_c, zU_e, zU_k, zF_c, zF_i, zF_o, zW_o, zW_i, zC_c, zC_i, zC_o]); rfl) | rfl))
    | (with_reducible apply z_b_R; (case h => first | with_unfolding_all rfl))
    | (with_reducible apply z_L; (case he => repeat (with_reducible first | exact zv_l _ | exact zv_r | apply zv_add | apply zv_sub | apply zv_mul | apply zv_neg)); (case hn => with_reducible first | assumption | exact zl_2 | exact zl_5 | exact zl_32 | exact zl_56 | exact zl_57); (case h => omega); (case hy => first | ((simp (disch := omega) only [zU_c, zU_e, zU_k, zF_c, zF_i, zF_o, zW_o, zW_i, zC_c, zC_i, zC_o]); rfl) | rfl)))
            refine hk _ _ _ (by omega) ⟨x + 1, rfl, by omega, rfl, rfl, fun y hy => ?_⟩
            by_cases hq : y = x
            · subst hq
              exact hn
            · exact hno y (by omega)
        · rcases hI with ⟨rfl, h5, hd⟩ | ⟨rfl, hn⟩
          · refine z_eq (x := 1) (y := 0) rfl rfl (by omega) (by omega) (fun q => by exfalso; omega) (fun _ => ?_)
            refine z_I (y := zBg mc k) (by with_unfolding_all rfl) zNt_13 ?_
            refine z_I (y := zEn mc (k + 1)) (by with_unfolding_all rfl) zNt_14 ?_
            refine z_le (x := zEn mc (k + 1)) (y := zBg mc k + (c : Int)) rfl (zv_add rfl rfl) (by omega) (by omega) (fun hle => ?_) (fun hle => ?_)
            · refine h66 32 ?_ (by omega) ⟨rfl, h5, hd⟩
              unfold zCh
              rw [if_neg (by omega)]
            · (first
    | (with_reducible apply z_nm; (case he => repeat (with_reducible first | exact zv_l _ | exact zv_r | apply zv_add | apply zv_sub | apply zv_mul | apply zv_neg)))
    | (with_reducible apply z_b_ck; (case h => with_unfolding_all rfl))
    | (with_reducible apply z_I; (case h => first | with_unfolding_all rfl); (case hy => first | ((simp (disch := omega) only [zU_c, zU_e, zU_k, zF_c, zF_i, zF_o, zW_o, zW_i, zC_c, zC_i, zC_o]); rfl) | rfl))
    | (with_reducible apply z_b_R; (case h => first | with_unfolding_all rfl))
    | (with_reducible apply z_L; (case he => repeat (with_reducible first | exact zv_l _ | exact zv_r | apply zv_add | apply zv_sub | apply zv_mul | apply zv_neg)); (case hn => with_reducible first | assumption | exact zl_2 | exact zl_5 | exact zl_32 | exact zl_56 | exact zl_57); (case h => omega); (case hy => first | ((simp (disch := omega) only [zU_c, zU_e, zU_k, zF_c, zF_i, zF_o, zW_o, zW_i, zC_c, zC_i, zC_o]); rfl) | rfl)))
              refine z_I (y := zBg mc k) (by with_unfolding_all rfl) zNt_13 ?_
              refine z_L (x := zBg mc k + (c : Int)) (y := zCh mc k c) (zv_add rfl rfl) zl_56 (by omega) ?_ ?_
              · unfold zNn zCh
                rw [zNt_c (by omega), if_pos (by omega)]
                exact hT.2.2.1 _ (by omega) (by omega)
              · exact h66 _ rfl (by omega) ⟨rfl, h5, hd⟩
          · refine z_eq (x := 0) (y := 0) rfl rfl (by omega) (by omega) (fun _ => ?_) (fun q => absurd rfl q)
            repeat' (first
    | (with_reducible apply z_nm; (case he => repeat (with_reducible first | exact zv_l _ | exact zv_r | apply zv_add | apply zv_sub | apply zv_mul | apply zv_neg)))
    | (with_reducible apply z_b_ck; (case h => with_unfolding_all rfl))
    | (with_reducible apply z_I; (case h => first | with_unfolding_all rfl); (case hy => first | ((simp (disch := omega) only [zU_c, zU_e, zU_k, zF_c, zF_i, zF_o, zW_o, zW_i, zC_c, zC_i, zC_o]); rfl) | rfl))
    | (with_reducible apply z_b_R; (case h => first | with_unfolding_all rfl))
    | (with_reducible apply z_L; (case he => repeat (with_reducible first | exact zv_l _ | exact zv_r | apply zv_add | apply zv_sub | apply zv_mul | apply zv_neg)); (case hn => with_reducible first | assumption | exact zl_2 | exact zl_5 | exact zl_32 | exact zl_56 | exact zl_57); (case h => omega); (case hy => first | ((simp (disch := omega) only [zU_c, zU_e, zU_k, zF_c, zF_i, zF_o, zW_o, zW_i, zC_c, zC_i, zC_o]); rfl) | rfl)))
            exact hk3 _ _ _ (by omega) ⟨0, c + 1, rfl, by omega, rfl, rfl, Or.inr ⟨rfl, hn⟩⟩
      · rcases hs0 with ⟨h, h5⟩ | h
        · exact Or.inl ⟨h, h5, fun d hd => absurd hd (by omega)⟩
        · exact Or.inr h
    refine z_I (y := zEn mc (k + 1)) (by with_unfolding_all rfl) zNt_14 ?_
    refine z_I (y := zBg mc k) (by with_unfolding_all rfl) zNt_13 ?_
    refine z_lt (x := 5) (y := zEn mc (k + 1) - zBg mc k) (zv_l 5) (zv_sub rfl rfl) (by omega) (by omega) (fun h => ?_) (fun h => ?_)
    · refine hin 0 (Or.inr ⟨rfl, fun q => ?_⟩)
      have := (hky.mpr q).1
      omega
    · exact hin 1 (Or.inl ⟨rfl, by omega⟩)
theorem s7_isName {mc m : zMe} {k : Nat} (hJ : zJt mc m) {α : Type} {f : Int32 × Hp → Option (α × Hp)} {Q : α → zMe → Prop} (K : zOk (f (zI (zE (zTnm mc k)), zM (zNn mc m k))) Q) : zOk ((f_X7_isName 50 (zM (zNn mc m k))).bind f) Q := by
  obtain ⟨hP, h3, hT, hW, hE, h57⟩ := id hJ
  have hr := (zTp_r hP h3 k).1
  have hs := hT.2.1
  refine z_b (x := (zI (zE (zTnm mc k)), zM (zNn mc m k))) (zOk.eq ?_) K
  unfold f_X7_isName
  (first
    | (with_reducible apply z_nm; (case he => repeat (with_reducible first | exact zv_l _ | exact zv_r | apply zv_add | apply zv_sub | apply zv_neg)))
    | (with_reducible apply z_b_ck; (case h => with_unfolding_all rfl))
    | (with_reducible apply z_I; (case h => first | with_unfolding_all rfl); (case hy => first | ((simp (disch := omega) only [zU_c, zU_e, zU_k, zF_c, zF_i, zF_o, zW_o, zW_i, zC_c, zC_i, zC_o]); rfl) | rfl)))
  refine s7_isWord hP h3 hT ?_
  refine z_B (fun h => ?_) (fun h => ?_)
  · exact zE_r0 (fun q => h q.1)
  · refine z_I (y := zEn mc (k + 1)) (by with_unfolding_all rfl) zNt_14 ?_
    refine z_I (y := zBg mc k) (by with_unfolding_all rfl) zNt_13 ?_
    refine z_lt (x := 6) (y := zEn mc (k + 1) - zBg mc k) (zv_l 6) (zv_sub rfl rfl) (by omega) (by omega) (fun h6 => ?_) (fun h6 => ?_)
    · refine zE_r0 (fun q => ?_)
      have : zEn mc (k + 1) - zBg mc k ≤ 6 := q.2.1
      omega
    · refine z_call (s7_key hJ h) (fun v m1 hv => ?_)
      obtain ⟨rfl, hv⟩ := hv
      rcases hv with ⟨rfl, hn⟩ | ⟨x, hx, rfl, hy, hn⟩
      · refine z_le (x := 0) (y := -1) rfl rfl (by omega) (by omega) (fun q => by exfalso; omega) (fun _ => ?_)
        exact zE_r1 ⟨h, by omega, hn⟩
      · refine z_le (x := 0) (y := (x : Int)) rfl rfl (by omega) (by omega) (fun _ => ?_) (fun q => by exfalso; omega)
        exact zE_r0 (fun q => q.2.2 x hx hy)
theorem s7_number {mc m : zMe} {k : Nat} {lo hi : Int} {e1 e2 : Int32} (he1 : e1 = zI lo) (he2 : e2 = zI hi) (rlo : 0 ≤ lo ∧ lo ≤ 1000) (rhi : 0 ≤ hi ∧ hi ≤ 1000) (hJ : zJt mc m) {α : Type} {f : Int32 × Hp → Option (α × Hp)} {Q : α → zMe → Prop} (K : zOk (f (zI (zTnu mc k lo hi), zM (zNn mc m k))) Q) : zOk ((f_X7_number 50 e1 e2 (zM (zNn mc m k))).bind f) Q := by
  subst he1; subst he2
  obtain ⟨hP, h3, hT, hW, hE, h57⟩ := hJ
  have hr := (zTp_r hP h3 k).1
  have hs := hT.2.1
  have hln := zKd_len (mc := mc) k
  have hkr := (zTp_r hP h3 k).2
  have hnu : zTnu mc k lo hi = if zKd mc k = 2 ∧ zEn mc (k + 1) - zBg mc k ≤ 2 then (if lo ≤ zDg (mc 2) (zEn mc (k + 1) - zBg mc k).toNat (zBg mc k) 0 ∧ zDg (mc 2) (zEn mc (k + 1) - zBg mc k).toNat (zBg mc k) 0 ≤ hi then zDg (mc 2) (zEn mc (k + 1) - zBg mc k).toNat (zBg mc k) 0 else -1) else -1 := rfl
  refine z_b (x := (zI (zTnu mc k lo hi), zM (zNn mc m k))) (zOk.eq ?_) K
  have hno : ¬ (zKd mc k = 2 ∧ zEn mc (k + 1) - zBg mc k ≤ 2) → zOk (some ((-1 : Int32), zM (zNn mc m k))) (fun v m1 => v = zI (zTnu mc k lo hi) ∧ m1 = zNn mc m k) := fun h => by
    rw [hnu, if_neg h]
    exact ⟨_, _, rfl, rfl, rfl⟩
  unfold f_X7_number
  (first
    | (with_reducible apply z_nm; (case he => repeat (with_reducible first | exact zv_l _ | exact zv_r | apply zv_add | apply zv_sub | apply zv_mul | apply zv_neg)))
    | (with_reducible apply z_b_ck; (case h => with_unfolding_all rfl))
    | (with_reducible apply z_I; (case h => first | with_unfolding_all rfl); (case hy => first | ((simp (disch := omega) only [zU_c, zU_e, zU_k, zF_c, zF_i, zF_o, zW_o, zW_i, zC_c, zC_i, zC_o]); rfl) | rfl))
    | (with_reducible apply z_b_R; (case h => first | with_unfolding_all rfl))
    | (with_reducible apply z_L; (case he => repeat (with_reducible first | exact zv_l _ | exact zv_r | apply zv_add | apply zv_sub | apply zv_mul | apply zv_neg)); (case hn => with_reducible first | assumption | exact zl_2 | exact zl_10 | exact zl_56); (case h => omega); (case hy => first | ((simp (disch := omega) only [zU_c, zU_e, zU_k, zF_c, zF_i, zF_o, zW_o, zW_i, zC_c, zC_i, zC_o]); rfl) | rfl))
    | (with_reducible apply z_in; (case hA => first | with_reducible exact zj_l _ (by decide) | with_reducible exact zj_m1 | (with_reducible apply zj_e; repeat (with_reducible first | exact zv_l _ | exact zv_r | apply zv_add | apply zv_sub | apply zv_mul | apply zv_neg))); (case hL => first | with_reducible exact zj_l _ (by decide) | with_reducible exact zj_m1 | (with_reducible apply zj_e; repeat (with_reducible first | exact zv_l _ | exact zv_r | apply zv_add | apply zv_sub | apply zv_mul | apply zv_neg))); (case hH => first | with_reducible exact zj_l _ (by decide) | with_reducible exact zj_m1 | (with_reducible apply zj_e; repeat (with_reducible first | exact zv_l _ | exact zv_r | apply zv_add | apply zv_sub | apply zv_mul | apply zv_neg))); (case rx => omega); (case rl => omega); (case rh => omega)))
  refine z_I (y := zEn mc (k + 1)) (by with_unfolding_all rfl) zNt_14 ?_
  refine z_I (y := zBg mc k) (by with_unfolding_all rfl) zNt_13 ?_
  refine z_eq (x := zEn mc (k + 1)) (y := zBg mc k) rfl rfl (by omega) (by omega) (fun h => ?_) (fun h => ?_)
  · refine hno (fun q => ?_)
    have := hln.1 (Or.inr q.1)
    omega
  · refine s7_isWord hP h3 hT ?_
    refine z_B (fun h1 => ?_) (fun h1 => ?_)
    · have hk2 : zKd mc k = 2 := by
        by_cases hq : zKd mc k = 2
        · exact hq
        · exact absurd (hln.2 (fun w => w.elim h1 hq)) h
      refine z_I (y := zEn mc (k + 1)) (by with_unfolding_all rfl) zNt_14 ?_
      refine z_I (y := zBg mc k) (by with_unfolding_all rfl) zNt_13 ?_
      refine z_le (x := zEn mc (k + 1) - zBg mc k) (y := 2) (zv_sub rfl rfl) (zv_l 2) (by omega) (by omega) (fun h2 => ?_) (fun h2 => ?_)
      · refine z_I (y := zBg mc k) (by with_unfolding_all rfl) zNt_13 ?_
        rw [hnu, if_pos ⟨hk2, h2⟩]
        have hR := zDg_r hT.2.2.2 (zEn mc (k + 1) - zBg mc k).toNat (by omega) (zBg mc k) 0 (by omega) (by omega)
        generalize hD : zDg (mc 2) (zEn mc (k + 1) - zBg mc k).toNat (zBg mc k) 0 = D at hR ⊢
        refine z_lp (fun n v m1 => ∃ (p x : Int), v = (50, zI lo, zI hi, zI x, zI p) ∧ zBg mc k ≤ p ∧ p ≤ zEn mc (k + 1) ∧ n = (zEn mc (k + 1) - p).toNat ∧ m1 = zNn mc m k ∧ zDg (mc 2) (zEn mc (k + 1) - p).toNat p x = D) (fun _ _ v m1 => v = zI (if lo ≤ D ∧ D ≤ hi then D else -1) ∧ m1 = zNn mc m k) ?_ 600 (zEn mc (k + 1) - zBg mc k).toNat _ _ (by omega) ⟨zBg mc k, 0, rfl, by omega, by omega, rfl, rfl, hD⟩
        rintro n v m1 k2 ⟨p, x, rfl, h0, h1, rfl, rfl, hx⟩ hk
        unfold f_X7_number_41
        dsimp only
        refine z_I (y := zEn mc (k + 1)) (by with_unfolding_all rfl) zNt_14 ?_
        (first
    | (with_reducible apply z_B; all_goals (intro _; try (exfalso; omega)))
    | (with_reducible apply z_E; all_goals intro _)
    | (with_reducible apply z_lt; (case ha => repeat (with_reducible first | exact zv_l _ | exact zv_r | apply zv_add | apply zv_sub | apply zv_mul | apply zv_neg)); (case hb => repeat (with_reducible first | exact zv_l _ | exact zv_r | apply zv_add | apply zv_sub | apply zv_mul | apply zv_neg)); (case hx => omega); (case hy => omega); all_goals (intro _; try (exfalso; omega)))
    | (with_reducible apply z_le; (case ha => repeat (with_reducible first | exact zv_l _ | exact zv_r | apply zv_add | apply zv_sub | apply zv_mul | apply zv_neg)); (case hb => repeat (with_reducible first | exact zv_l _ | exact zv_r | apply zv_add | apply zv_sub | apply zv_mul | apply zv_neg)); (case hx => omega); (case hy => omega); all_goals (intro _; try (exfalso; omega)))
    | (with_reducible apply z_eq; (case ha => repeat (with_reducible first | exact zv_l _ | exact zv_r | apply zv_add | apply zv_sub | apply zv_mul | apply zv_neg)); (case hb => repeat (with_reducible first | exact zv_l _ | exact zv_r | apply zv_add | apply zv_sub | apply zv_mul | apply zv_neg)); (case hx => omega); (case hy => omega); all_goals (intro _; try (exfalso; omega))))
        · have e : (zEn mc (k + 1) - p).toNat = 0 := by omega
          rw [e] at hx
          have hx : x = D := hx
          subst hx
          refine z_in (x := x) (lo := lo) (hi := hi) rfl rfl rfl (by omega) (by omega) (by omega) ?_
          refine z_B (fun hq => ?_) (fun hq => ?_)
          · rw [if_neg hq]
            exact ⟨_, _, rfl, rfl, rfl⟩
          · rw [if_pos hq]
            exact ⟨_, _, rfl, rfl, rfl⟩
        · have ht : zNn mc m k 56 p = mc 2 p := by
            unfold zNn
            rw [zNt_c (by omega)]
            exact hT.2.2.1 p (by omega) (by omega)
          (first
    | (with_reducible apply z_nm; (case he => repeat (with_reducible first | exact zv_l _ | exact zv_r | apply zv_add | apply zv_sub | apply zv_mul | apply zv_neg)))
    | (with_reducible apply z_b_ck; (case h => with_unfolding_all rfl))
    | (with_reducible apply z_I; (case h => first | with_unfolding_all rfl); (case hy => first | ((simp (disch := omega) only [zU_c, zU_e, zU_k, zF_c, zF_i, zF_o, zW_o, zW_i, zC_c, zC_i, zC_o]); rfl) | rfl))
    | (with_reducible apply z_b_R; (case h => first | with_unfolding_all rfl))
    | (with_reducible apply z_L; (case he => repeat (with_reducible first | exact zv_l _ | exact zv_r | apply zv_add | apply zv_sub | apply zv_mul | apply zv_neg)); (case hn => with_reducible first | assumption | exact zl_2 | exact zl_10 | exact zl_56); (case h => omega); (case hy => first | ((simp (disch := omega) only [zU_c, zU_e, zU_k, zF_c, zF_i, zF_o, zW_o, zW_i, zC_c, zC_i, zC_o]); rfl) | rfl))
    | (with_reducible apply z_in; (case hA => first | with_reducible exact zj_l _ (by decide) | with_reducible exact zj_m1 | (with_reducible apply zj_e; repeat (with_reducible first | exact zv_l _ | exact zv_r | apply zv_add | apply zv_sub | apply zv_mul | apply zv_neg))); (case hL => first | with_reducible exact zj_l _ (by decide) | with_reducible exact zj_m1 | (with_reducible apply zj_e; repeat (with_reducible first | exact zv_l _ | exact zv_r | apply zv_add | apply zv_sub | apply zv_mul | apply zv_neg))); (case hH => first | with_reducible exact zj_l _ (by decide) | with_reducible exact zj_m1 | (with_reducible apply zj_e; repeat (with_reducible first | exact zv_l _ | exact zv_r | apply zv_add | apply zv_sub | apply zv_mul | apply zv_neg))); (case rx => omega); (case rl => omega); (case rh => omega)))
          refine z_L (y := mc 2 p) rfl zl_56 (by omega) ht ?_
          refine z_nm (x := 10 * x + mc 2 p - 48) (zv_sub (zv_add (zv_mul (zv_l 10) rfl) rfl) (zv_l 48)) ?_
          repeat' (first
    | (with_reducible apply z_nm; (case he => repeat (with_reducible first | exact zv_l _ | exact zv_r | apply zv_add | apply zv_sub | apply zv_mul | apply zv_neg)))
    | (with_reducible apply z_b_ck; (case h => with_unfolding_all rfl))
    | (with_reducible apply z_I; (case h => first | with_unfolding_all rfl); (case hy => first | ((simp (disch := omega) only [zU_c, zU_e, zU_k, zF_c, zF_i, zF_o, zW_o, zW_i, zC_c, zC_i, zC_o]); rfl) | rfl))
    | (with_reducible apply z_b_R; (case h => first | with_unfolding_all rfl))
    | (with_reducible apply z_L; (case he => repeat (with_reducible first | exact zv_l _ | exact zv_r | apply zv_add | apply zv_sub | apply zv_mul | apply zv_neg)); (case hn => with_reducible first | assumption | exact zl_2 | exact zl_10 | exact zl_56); (case h => omega); (case hy => first | ((simp (disch := omega) only [zU_c, zU_e, zU_k, zF_c, zF_i, zF_o, zW_o, zW_i, zC_c, zC_i, zC_o]); rfl) | rfl))
    | (with_reducible apply z_in; (case hA => first | with_reducible exact zj_l _ (by decide) | with_reducible exact zj_m1 | (with_reducible apply zj_e; repeat (with_reducible first | exact zv_l _ | exact zv_r | apply zv_add | apply zv_sub | apply zv_mul | apply zv_neg))); (case hL => first | with_reducible exact zj_l _ (by decide) | with_reducible exact zj_m1 | (with_reducible apply zj_e; repeat (with_reducible first | exact zv_l _ | exact zv_r | apply zv_add | apply zv_sub | apply zv_mul | apply zv_neg))); (case hH => first | with_reducible exact zj_l _ (by decide) | with_reducible exact zj_m1 | (with_reducible apply zj_e; repeat (with_reducible first | exact zv_l _ | exact zv_r | apply zv_add | apply zv_sub | apply zv_mul | apply zv_neg))); (case rx => omega); (case rl => omega); (case rh => omega)))
          refine hk _ _ _ (by omega) ⟨p + 1, _, rfl, by omega, by omega, rfl, rfl, ?_⟩
          obtain ⟨q, e⟩ : ∃ q, (zEn mc (k + 1) - p).toNat = q + 1 := ⟨(zEn mc (k + 1) - p).toNat - 1, by omega⟩
          rw [e] at hx
          have e2 : (zEn mc (k + 1) - (p + 1)).toNat = q := by omega
          rw [e2, show 10 * x + mc 2 p - 48 = x * 10 + mc 2 p - 48 by omega]
          exact hx
      · exact hno (fun q => h2 q.2)
    · exact hno (fun q => by have := q.1; omega)
theorem zFst_congr {n : Nat} {p q : Nat → Prop} (h : ∀ k, k < n → (p k ↔ q k)) : zFst n p = zFst n q := by
  induction n with
  | zero => rfl
  | succ n ih =>
    have e : p n = q n := propext (h n (by omega))
    show (if zFst n p = -1 then @ite Int (p n) (Classical.propDecidable (p n)) (n : Int) (-1) else zFst n p) = (if zFst n q = -1 then @ite Int (q n) (Classical.propDecidable (q n)) (n : Int) (-1) else zFst n q)
    rw [ih (fun k hk => h k (by omega)), e]
theorem zLr_E {mc m : zMe} (hW : zWf mc 3) (hE : zEq2 mc m 3 51) : zLr m := fun t t0 t1 i i0 i1 => by
  have h0 : m 51 0 = mc 3 0 := hE.1.1
  rw [h0] at t1
  obtain ⟨p1, p2, p3⟩ := hE.2.1 t t0 t1
  have hs := (hW.2.1 t t0 t1).2
  have hT := hW.1.1
  rw [p2] at i1
  rw [p3 i i0 i1]
  exact hW.2.2.2 _ (by omega) (by omega)
theorem zWho_E {mc m : zMe} {b e : Int} (hW : zWf mc 3) (hE : zEq2 mc m 3 51) (hT : zTr mc m) (hb : 0 ≤ b) (he : e ≤ 40) : zWho7 m b e = zWho mc 3 b e := by
  have h0 : m 51 0 = mc 3 0 := hE.1.1
  unfold zWho7 zWho
  rw [h0]
  refine zFst_congr (fun t ht => ?_)
  obtain ⟨p1, p2, p3⟩ := hE.2.1 (t : Int) (by omega) (by omega)
  unfold zNm7 zNm
  rw [p2]
  constructor
  · rintro ⟨g1, g2⟩
    refine ⟨g1, fun i i0 i1 => ?_⟩
    rw [← p3 i i0 (by omega), ← hT.2.2.1 (b + i) (by omega) (by omega)]
    exact g2 i i0 i1
  · rintro ⟨g1, g2⟩
    refine ⟨g1, fun i i0 i1 => ?_⟩
    rw [p3 i i0 (by omega), hT.2.2.1 (b + i) (by omega) (by omega)]
    exact g2 i i0 i1
theorem zEq2_Nt {mc m : zMe} {b e : Int} (hE : zEq2 mc m 3 51) : zEq2 mc (zNt m b e) 3 51 := zEq2_c (fun _ _ _ _ => rfl) (fun j => zNt_c (by omega)) hE
theorem s7_whose {mc m : zMe} {k : Nat} (hJ : zJt mc m) {α : Type} {f : Int32 × Hp → Option (α × Hp)} {Q : α → zMe → Prop} (K : zOk (f (zI (zTwh mc k), zM (zNn mc m k))) Q) : zOk ((f_X7_whose 50 (zI (zBg mc k)) (zI (zEn mc (k + 1))) (zM (zNn mc m k))).bind f) Q := by
  obtain ⟨hP, h3, hT, hW, hE, h57⟩ := hJ
  have hr := (zTp_r hP h3 k).1
  have hs := hT.2.1
  have hE1 : zEq2 mc (zNn mc m k) 3 51 := zEq2_Nt hE
  have hT1 : zTr mc (zNn mc m k) := zTr_Nt hT
  refine z_7whose rfl rfl (by omega) (by omega) (zRw_E hW hE1) (zLr_E hW hE1) (fun j j0 j1 => by rw [hT1.2.2.1 j j0 j1]; exact hT.2.2.2 j j0 j1) ?_
  rw [zWho_E hW hE1 hT1 (by omega) (by omega)]
  exact K
