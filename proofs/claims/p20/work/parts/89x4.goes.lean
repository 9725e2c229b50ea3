/-! the reference's search, exact: whether there is a run, the first one -/
/-- room below what t reaches -/
def zRm (m : zMe) : Int → Int := fun u => if u < m 51 0 ∧ ¬ u = m 50 5 then m 50 6 - m 54 u else 0
/-- the games of a set, of n from g on -/
def zSg (set : Nat) : Nat → Nat → List Nat
  | 0, _ => []
  | n + 1, g => if set.testBit g = true then g :: zSg set n (g + 1) else zSg set n (g + 1)
theorem zSg_in {set n g x : Nat} (h : x ∈ zSg set n g) : g ≤ x ∧ x < g + n ∧ set.testBit x = true := by
  induction n generalizing g with
  | zero => exact absurd h (by simp [zSg])
  | succ n ih =>
    unfold zSg at h
    split at h
    · rename_i hb
      rcases List.mem_cons.mp h with q | q
      · subst q
        exact ⟨Nat.le_refl _, by omega, hb⟩
      · have := ih q
        exact ⟨by omega, by omega, this.2.2⟩
    · have := ih h
      exact ⟨by omega, by omega, this.2.2⟩
def zGl7 (m : zMe) (l : List Nat) : List (Int × Int) := l.map (fun (k : Nat) => (m 51 (51 + (k : Int)), m 51 (60 + (k : Int))))
noncomputable def zFo7 (m : zMe) (set n g : Nat) : Option (List Int) := zFo (m 51 2) (if m 51 2 = 0 then 0 else 1) (zGl7 m (zSg set n g)) (zRm m)
/-- f has these at these games -/
def zRq (f : Int → Int) : List Nat → List Int → Prop
  | [], _ => True
  | _ :: _, [] => True
  | k :: ks, x :: xs => f (k : Int) = x ∧ zRq f ks xs
theorem zRq_congr {f g : Int → Int} {ks : List Nat} {xs : List Int} (h : ∀ k, k ∈ ks → g (k : Int) = f (k : Int)) (hf : zRq f ks xs) : zRq g ks xs := by
  induction ks generalizing xs with
  | nil => trivial
  | cons k ks ih =>
    cases xs with
    | nil => trivial
    | cons x xs => exact ⟨by rw [h k (by simp)]; exact hf.1, ih (fun y hy => h y (by simp [hy])) hf.2⟩
/-- all but run and best drawn is as it was -/
def zGx (m m1 : zMe) : Prop := ∀ c j, ¬ c = 55 → ¬ (c = 50 ∧ j = 8) → m1 c j = m c j
theorem zGx_r (m : zMe) : zGx m m := fun _ _ _ _ => rfl
theorem zGx_t {m m1 m2 : zMe} (h1 : zGx m m1) (h2 : zGx m1 m2) : zGx m m2 := fun c j a b => by rw [h2 c j a b, h1 c j a b]
theorem zGx_X {m m1 : zMe} (h : zGx m m1) : zX m m1 := fun c j hc => h c j (by unfold zSr at hc; omega) (by unfold zSr at hc; omega)
theorem zGx_s {m m1 : zMe} (h : zGx m m1) (hs : zGs m) (h8 : -1 ≤ m1 50 8 ∧ m1 50 8 < 512) : zGs m1 := ⟨zRw_X (zX_51 (zGx_X h)) hs.1, fun k k0 k1 => by
  rw [h 51 1 (by omega) (by omega)] at k1
  rw [h 53 k (by omega) (by omega)]
  exact hs.2.1 k k0 k1, h8, by rw [h 50 9 (by omega) (by omega)]; exact hs.2.2.2⟩
theorem zRm_x {m m1 : zMe} (h : zGx m m1) : zRm m1 = zRm m := by
  funext u
  unfold zRm
  rw [h 51 0 (by omega) (by omega), h 50 5 (by omega) (by omega), h 50 6 (by omega) (by omega), h 54 u (by omega) (by omega)]
theorem zGl7_51 {m m1 : zMe} (h : ∀ j, m1 51 j = m 51 j) (l : List Nat) : zGl7 m1 l = zGl7 m l := by
  unfold zGl7
  simp only [h]
/-- what holds as the search goes on from g -/
def zGa (m : zMe) (set : Nat) (g : Int) : Prop := zGs m ∧ (0 ≤ g ∧ g ≤ m 51 1) ∧ (∀ k : Nat, (k : Int) < m 51 1 → set.testBit k = true → ¬ m 51 (51 + (k : Int)) = m 50 5 ∧ ¬ m 51 (60 + (k : Int)) = m 50 5) ∧ (∀ u, 0 ≤ u → u < m 51 0 → 0 ≤ m 54 u ∧ m 54 u + 3 * (m 51 1 - g) ≤ 100) ∧ (-1000 ≤ m 50 6 ∧ m 50 6 ≤ 1000) ∧ (0 ≤ m 50 5 ∧ m 50 5 < 6)
theorem zGa_x {m m1 : zMe} {set : Nat} {g : Int} (h : zGa m set g) (hx : zGx m m1) (h8 : -1 ≤ m1 50 8 ∧ m1 50 8 < 512) : zGa m1 set g := by
  obtain ⟨h1, h2, h3, h4, h5, h6⟩ := h
  have e51 : ∀ j, m1 51 j = m 51 j := fun j => hx 51 j (by omega) (by omega)
  refine ⟨zGx_s hx h1 h8, ?_, fun k k1 k2 => ?_, fun u u0 u1 => ?_, ?_, ?_⟩
  · rw [e51]; exact h2
  · rw [e51] at k1
    rw [e51, e51, hx 50 5 (by omega) (by omega)]
    exact h3 k k1 k2
  · rw [e51] at u1
    rw [e51, hx 54 u (by omega) (by omega)]
    exact h4 u u0 u1
  · rw [hx 50 6 (by omega) (by omega)]; exact h5
  · rw [hx 50 5 (by omega) (by omega)]; exact h6
theorem s7_tooMuch {m : zMe} (hT : 0 ≤ m 51 0 ∧ m 51 0 ≤ 6) (hp : ∀ u, 0 ≤ u → u < m 51 0 → 0 ≤ m 54 u ∧ m 54 u ≤ 1000) (hm : -1000 ≤ m 50 6 ∧ m 50 6 ≤ 1000) (ht : 0 ≤ m 50 5 ∧ m 50 5 < 6) : zOk (f_X7_isTooMuch 50 (zM m)) (fun v m1 => v = zI (zE (¬ ∀ u, 0 ≤ u → u < 6 → 0 ≤ zRm m u)) ∧ m1 = m) := by
  unfold f_X7_isTooMuch
  (first
    | (with_reducible apply z_nm; (case he => repeat (with_reducible first | exact zv_l _ | exact zv_r | apply zv_add | apply zv_sub | apply zv_neg)))
    | (with_reducible apply z_b_ck; (case h => with_unfolding_all rfl))
    | (with_reducible apply z_I; (case h => first | with_unfolding_all rfl); (case hy => first | ((simp (disch := omega) only [zU_c, zU_e, zU_k, zF_c, zF_i, zF_o, zW_o, zW_i, zC_c, zC_i, zC_o]); rfl) | rfl))
    | (with_reducible apply z_b_R; (case h => first | with_unfolding_all rfl))
    | (with_reducible apply z_L; (case he => repeat (with_reducible first | exact zv_l _ | exact zv_r | apply zv_add | apply zv_sub | apply zv_neg)); (case hn => with_reducible first | assumption | exact zl_2 | exact zl_5 | exact zl_6 | exact zl_51 | exact zl_54); (case h => omega); (case hy => first | ((simp (disch := omega) only [zU_c, zU_e, zU_k, zF_c, zF_i, zF_o, zW_o, zW_i, zC_c, zC_i, zC_o]); rfl) | rfl))
    | (with_reducible apply z_7isTooMuch; (case r1 => first | omega | ((simp (disch := omega) only [zU_c, zU_e, zU_k, zF_c, zF_i, zF_o, zW_o, zW_i, zC_c, zC_i, zC_o]); omega)); intro _ _ _))
  refine z_lp (fun n v m1 => ∃ i : Int, v = (50, zI i) ∧ 0 ≤ i ∧ i ≤ m 51 0 ∧ n = (m 51 0 - i).toNat ∧ m1 = m ∧ ∀ u, 0 ≤ u → u < i → 0 ≤ zRm m u) (fun _ _ v m1 => v = zI (zE (¬ ∀ u, 0 ≤ u → u < 6 → 0 ≤ zRm m u)) ∧ m1 = m) ?_ 600 (m 51 0).toNat _ _ (by omega) ⟨0, rfl, by omega, by omega, by omega, rfl, fun u u0 u1 => by exfalso; omega⟩
  rintro n v m1 k ⟨i, rfl, h0, h1, rfl, rfl, hu⟩ hk
  have hpi := hp i h0
  have hri : zRm m1 i = if i < m1 51 0 ∧ ¬ i = m1 50 5 then m1 50 6 - m1 54 i else 0 := rfl
  have hnext : i < m1 51 0 → 0 ≤ zRm m1 i → ∀ u, 0 ≤ u → u < i + 1 → 0 ≤ zRm m1 u := fun _ hr u u0 u1 => by
    by_cases hq : u = i
    · rw [hq]
      exact hr
    · exact hu u u0 (by omega)
  unfold f_X7_isTooMuch_2
  dsimp only
  (first
    | (with_reducible apply z_nm; (case he => repeat (with_reducible first | exact zv_l _ | exact zv_r | apply zv_add | apply zv_sub | apply zv_neg)))
    | (with_reducible apply z_b_ck; (case h => with_unfolding_all rfl))
    | (with_reducible apply z_I; (case h => first | with_unfolding_all rfl); (case hy => first | ((simp (disch := omega) only [zU_c, zU_e, zU_k, zF_c, zF_i, zF_o, zW_o, zW_i, zC_c, zC_i, zC_o]); rfl) | rfl))
    | (with_reducible apply z_b_R; (case h => first | with_unfolding_all rfl))
    | (with_reducible apply z_L; (case he => repeat (with_reducible first | exact zv_l _ | exact zv_r | apply zv_add | apply zv_sub | apply zv_neg)); (case hn => with_reducible first | assumption | exact zl_2 | exact zl_5 | exact zl_6 | exact zl_51 | exact zl_54); (case h => omega); (case hy => first | ((simp (disch := omega) only [zU_c, zU_e, zU_k, zF_c, zF_i, zF_o, zW_o, zW_i, zC_c, zC_i, zC_o]); rfl) | rfl))
    | (with_reducible apply z_7isTooMuch; (case r1 => first | omega | ((simp (disch := omega) only [zU_c, zU_e, zU_k, zF_c, zF_i, zF_o, zW_o, zW_i, zC_c, zC_i, zC_o]); omega)); intro _ _ _))
  (first
    | (with_reducible apply z_nm; (case he => repeat (with_reducible first | exact zv_l _ | exact zv_r | apply zv_add | apply zv_sub | apply zv_neg)))
    | (with_reducible apply z_b_ck; (case h => with_unfolding_all rfl))
    | (with_reducible apply z_I; (case h => first | with_unfolding_all rfl); (case hy => first | ((simp (disch := omega) only [zU_c, zU_e, zU_k, zF_c, zF_i, zF_o, zW_o, zW_i, zC_c, zC_i, zC_o]); rfl) | rfl))
    | (with_reducible apply z_b_R; (case h => first | with_unfolding_all rfl))
    | (with_reducible apply z_L; (case he => repeat (with_reducible first | exact zv_l _ | exact zv_r | apply zv_add | apply zv_sub | apply zv_neg)); (case hn => with_reducible first | assumption | exact zl_2 | exact zl_5 | exact zl_6 | exact zl_51 | exact zl_54); (case h => omega); (case hy => first | ((simp (disch := omega) only [zU_c, zU_e, zU_k, zF_c, zF_i, zF_o, zW_o, zW_i, zC_c, zC_i, zC_o]); rfl) | rfl))
    | (with_reducible apply z_7isTooMuch; (case r1 => first | omega | ((simp (disch := omega) only [zU_c, zU_e, zU_k, zF_c, zF_i, zF_o, zW_o, zW_i, zC_c, zC_i, zC_o]); omega)); intro _ _ _))
  (first
    | (with_reducible apply z_B; all_goals (intro _; try (exfalso; omega)))
    | (with_reducible apply z_E; all_goals intro _)
    | (with_reducible apply z_lt; (case ha => repeat (with_reducible first | exact zv_l _ | exact zv_r | apply zv_add | apply zv_sub | apply zv_neg)); (case hb => repeat (with_reducible first | exact zv_l _ | exact zv_r | apply zv_add | apply zv_sub | apply zv_neg)); (case hx => omega); (case hy => omega); all_goals (intro _; try (exfalso; omega)))
    | (with_reducible apply z_le; (case ha => repeat (with_reducible first | exact zv_l _ | exact zv_r | apply zv_add | apply zv_sub | apply zv_neg)); (case hb => repeat (with_reducible first | exact zv_l _ | exact zv_r | apply zv_add | apply zv_sub | apply zv_neg)); (case hx => omega); (case hy => omega); all_goals (intro _; try (exfalso; omega)))
    | (with_reducible apply z_eq; (case ha => repeat (with_reducible first | exact zv_l _ | exact zv_r | apply zv_add | apply zv_sub | apply zv_neg)); (case hb => repeat (with_reducible first | exact zv_l _ | exact zv_r | apply zv_add | apply zv_sub | apply zv_neg)); (case hx => omega); (case hy => omega); all_goals (intro _; try (exfalso; omega))))
  · have hall : ∀ u, 0 ≤ u → u < 6 → 0 ≤ zRm m1 u := fun u u0 u1 => by
      by_cases hq : u < m1 51 0
      · exact hu u u0 (by omega)
      · unfold zRm
        rw [if_neg (fun w => hq w.1)]
        exact Int.le_refl 0
    refine ⟨_, _, rfl, ?_, rfl⟩
    rw [zE_n (fun q => q hall)]
    rfl
  · (first
    | (with_reducible apply z_nm; (case he => repeat (with_reducible first | exact zv_l _ | exact zv_r | apply zv_add | apply zv_sub | apply zv_neg)))
    | (with_reducible apply z_b_ck; (case h => with_unfolding_all rfl))
    | (with_reducible apply z_I; (case h => first | with_unfolding_all rfl); (case hy => first | ((simp (disch := omega) only [zU_c, zU_e, zU_k, zF_c, zF_i, zF_o, zW_o, zW_i, zC_c, zC_i, zC_o]); rfl) | rfl))
    | (with_reducible apply z_b_R; (case h => first | with_unfolding_all rfl))
    | (with_reducible apply z_L; (case he => repeat (with_reducible first | exact zv_l _ | exact zv_r | apply zv_add | apply zv_sub | apply zv_neg)); (case hn => with_reducible first | assumption | exact zl_2 | exact zl_5 | exact zl_6 | exact zl_51 | exact zl_54); (case h => omega); (case hy => first | ((simp (disch := omega) only [zU_c, zU_e, zU_k, zF_c, zF_i, zF_o, zW_o, zW_i, zC_c, zC_i, zC_o]); rfl) | rfl))
    | (with_reducible apply z_7isTooMuch; (case r1 => first | omega | ((simp (disch := omega) only [zU_c, zU_e, zU_k, zF_c, zF_i, zF_o, zW_o, zW_i, zC_c, zC_i, zC_o]); omega)); intro _ _ _))
    refine z_eq (x := i) (y := m1 50 5) rfl rfl (by omega) (by omega) (fun hq => ?_) (fun hq => ?_)
    · repeat' (first
    | (with_reducible apply z_nm; (case he => repeat (with_reducible first | exact zv_l _ | exact zv_r | apply zv_add | apply zv_sub | apply zv_neg)))
    | (with_reducible apply z_b_ck; (case h => with_unfolding_all rfl))
    | (with_reducible apply z_I; (case h => first | with_unfolding_all rfl); (case hy => first | ((simp (disch := omega) only [zU_c, zU_e, zU_k, zF_c, zF_i, zF_o, zW_o, zW_i, zC_c, zC_i, zC_o]); rfl) | rfl))
    | (with_reducible apply z_b_R; (case h => first | with_unfolding_all rfl))
    | (with_reducible apply z_L; (case he => repeat (with_reducible first | exact zv_l _ | exact zv_r | apply zv_add | apply zv_sub | apply zv_neg)); (case hn => with_reducible first | assumption | exact zl_2 | exact zl_5 | exact zl_6 | exact zl_51 | exact zl_54); (case h => omega); (case hy => first | ((simp (disch := omega) only [zU_c, zU_e, zU_k, zF_c, zF_i, zF_o, zW_o, zW_i, zC_c, zC_i, zC_o]); rfl) | rfl))
    | (with_reducible apply z_7isTooMuch; (case r1 => first | omega | ((simp (disch := omega) only [zU_c, zU_e, zU_k, zF_c, zF_i, zF_o, zW_o, zW_i, zC_c, zC_i, zC_o]); omega)); intro _ _ _))
      refine hk _ _ _ (by omega) ⟨i + 1, rfl, by omega, by omega, rfl, rfl, hnext (by omega) ?_⟩
      rw [hri, if_neg (fun w => w.2 hq)]
      exact Int.le_refl 0
    · have hpi := hpi (by omega)
      (first
    | (with_reducible apply z_nm; (case he => repeat (with_reducible first | exact zv_l _ | exact zv_r | apply zv_add | apply zv_sub | apply zv_neg)))
    | (with_reducible apply z_b_ck; (case h => with_unfolding_all rfl))
    | (with_reducible apply z_I; (case h => first | with_unfolding_all rfl); (case hy => first | ((simp (disch := omega) only [zU_c, zU_e, zU_k, zF_c, zF_i, zF_o, zW_o, zW_i, zC_c, zC_i, zC_o]); rfl) | rfl))
    | (with_reducible apply z_b_R; (case h => first | with_unfolding_all rfl))
    | (with_reducible apply z_L; (case he => repeat (with_reducible first | exact zv_l _ | exact zv_r | apply zv_add | apply zv_sub | apply zv_neg)); (case hn => with_reducible first | assumption | exact zl_2 | exact zl_5 | exact zl_6 | exact zl_51 | exact zl_54); (case h => omega); (case hy => first | ((simp (disch := omega) only [zU_c, zU_e, zU_k, zF_c, zF_i, zF_o, zW_o, zW_i, zC_c, zC_i, zC_o]); rfl) | rfl))
    | (with_reducible apply z_7isTooMuch; (case r1 => first | omega | ((simp (disch := omega) only [zU_c, zU_e, zU_k, zF_c, zF_i, zF_o, zW_o, zW_i, zC_c, zC_i, zC_o]); omega)); intro _ _ _))
      (first
    | (with_reducible apply z_nm; (case he => repeat (with_reducible first | exact zv_l _ | exact zv_r | apply zv_add | apply zv_sub | apply zv_neg)))
    | (with_reducible apply z_b_ck; (case h => with_unfolding_all rfl))
    | (with_reducible apply z_I; (case h => first | with_unfolding_all rfl); (case hy => first | ((simp (disch := omega) only [zU_c, zU_e, zU_k, zF_c, zF_i, zF_o, zW_o, zW_i, zC_c, zC_i, zC_o]); rfl) | rfl))
    | (with_reducible apply z_b_R; (case h => first | with_unfolding_all rfl))
    | (with_reducible apply z_L; (case he => repeat (with_reducible first | exact zv_l _ | exact zv_r | apply zv_add | apply zv_sub | apply zv_neg)); (case hn => with_reducible first | assumption | exact zl_2 | exact zl_5 | exact zl_6 | exact zl_51 | exact zl_54); (case h => omega); (case hy => first | ((simp (disch := omega) only [zU_c, zU_e, zU_k, zF_c, zF_i, zF_o, zW_o, zW_i, zC_c, zC_i, zC_o]); rfl) | rfl))
    | (with_reducible apply z_7isTooMuch; (case r1 => first | omega | ((simp (disch := omega) only [zU_c, zU_e, zU_k, zF_c, zF_i, zF_o, zW_o, zW_i, zC_c, zC_i, zC_o]); omega)); intro _ _ _))
      (first
    | (with_reducible apply z_nm; (case he => repeat (with_reducible first | exact zv_l _ | exact zv_r | apply zv_add | apply zv_sub | apply zv_neg)))
    | (with_reducible apply z_b_ck; (case h => with_unfolding_all rfl))
    | (with_reducible apply z_I; (case h => first | with_unfolding_all rfl); (case hy => first | ((simp (disch := omega) only [zU_c, zU_e, zU_k, zF_c, zF_i, zF_o, zW_o, zW_i, zC_c, zC_i, zC_o]); rfl) | rfl))
    | (with_reducible apply z_b_R; (case h => first | with_unfolding_all rfl))
    | (with_reducible apply z_L; (case he => repeat (with_reducible first | exact zv_l _ | exact zv_r | apply zv_add | apply zv_sub | apply zv_neg)); (case hn => with_reducible first | assumption | exact zl_2 | exact zl_5 | exact zl_6 | exact zl_51 | exact zl_54); (case h => omega); (case hy => first | ((simp (disch := omega) only [zU_c, zU_e, zU_k, zF_c, zF_i, zF_o, zW_o, zW_i, zC_c, zC_i, zC_o]); rfl) | rfl))
    | (with_reducible apply z_7isTooMuch; (case r1 => first | omega | ((simp (disch := omega) only [zU_c, zU_e, zU_k, zF_c, zF_i, zF_o, zW_o, zW_i, zC_c, zC_i, zC_o]); omega)); intro _ _ _))
      refine z_le (x := m1 54 i) (y := m1 50 6) rfl rfl (by omega) (by omega) (fun hl => ?_) (fun hl => ?_)
      · repeat' (first
    | (with_reducible apply z_nm; (case he => repeat (with_reducible first | exact zv_l _ | exact zv_r | apply zv_add | apply zv_sub | apply zv_neg)))
    | (with_reducible apply z_b_ck; (case h => with_unfolding_all rfl))
    | (with_reducible apply z_I; (case h => first | with_unfolding_all rfl); (case hy => first | ((simp (disch := omega) only [zU_c, zU_e, zU_k, zF_c, zF_i, zF_o, zW_o, zW_i, zC_c, zC_i, zC_o]); rfl) | rfl))
    | (with_reducible apply z_b_R; (case h => first | with_unfolding_all rfl))
    | (with_reducible apply z_L; (case he => repeat (with_reducible first | exact zv_l _ | exact zv_r | apply zv_add | apply zv_sub | apply zv_neg)); (case hn => with_reducible first | assumption | exact zl_2 | exact zl_5 | exact zl_6 | exact zl_51 | exact zl_54); (case h => omega); (case hy => first | ((simp (disch := omega) only [zU_c, zU_e, zU_k, zF_c, zF_i, zF_o, zW_o, zW_i, zC_c, zC_i, zC_o]); rfl) | rfl))
    | (with_reducible apply z_7isTooMuch; (case r1 => first | omega | ((simp (disch := omega) only [zU_c, zU_e, zU_k, zF_c, zF_i, zF_o, zW_o, zW_i, zC_c, zC_i, zC_o]); omega)); intro _ _ _))
        refine hk _ _ _ (by omega) ⟨i + 1, rfl, by omega, by omega, rfl, rfl, hnext (by omega) ?_⟩
        rw [hri, if_pos ⟨by omega, hq⟩]
        omega
      · refine ⟨_, _, rfl, ?_, rfl⟩
        rw [zE_p (fun q => ?_)]
        · rfl
        · have := q i h0 (by omega)
          rw [hri, if_pos ⟨by omega, hq⟩] at this
          omega
/-- the first of the results tried so far -/
def zRA (n : Nat) : Int := if n = 2 then 0 else (n : Int) + 1
def zFp (F : Int → Option (List Int)) : Nat → Option (List Int)
  | 0 => none
  | n + 1 => match zFp F n with
    | some l => some l
    | none => (F (zRA n)).map (fun l => zRA n :: l)
theorem zFp_mono {F : Int → Option (List Int)} {i n : Nat} {l : List Int} (h : zFp F i = some l) (hi : i ≤ n) : zFp F n = some l := by
  induction n with
  | zero =>
    have : i = 0 := by omega
    subst this
    exact h
  | succ n ih =>
    by_cases hq : i = n + 1
    · subst hq
      exact h
    · have := ih (by omega)
      show (match zFp F n with | some l => some l | none => (F (zRA n)).map (fun l => zRA n :: l)) = some l
      rw [this]
theorem zFp_all {K d : Int} {e : Int × Int} {es : List (Int × Int)} {f : Int → Int} : zFo K d (e :: es) f = zFp (fun x => zFo K d es (fun u => f u - zGn K e.1 e.2 x u)) (if d = 0 then 2 else 3) := by
  rw [zFo_c]
  have e0 : zRA 0 = 1 := rfl
  have e1 : zRA 1 = 2 := rfl
  have e2 : zRA 2 = 0 := rfl
  by_cases hd : d = 0
  · rw [show (if d = 0 then (2 : Nat) else 3) = 2 from if_pos hd]
    show _ = (match (match (none : Option (List Int)) with | some l => some l | none => (zFo K d es (fun u => f u - zGn K e.1 e.2 (zRA 0) u)).map (fun l => zRA 0 :: l)) with | some l => some l | none => (zFo K d es (fun u => f u - zGn K e.1 e.2 (zRA 1) u)).map (fun l => zRA 1 :: l))
    rw [e0, e1]
    cases zFo K d es (fun u => f u - zGn K e.1 e.2 1 u) with
    | some l => rfl
    | none =>
      cases zFo K d es (fun u => f u - zGn K e.1 e.2 2 u) with
      | some l => rfl
      | none =>
        dsimp only [Option.map]
        rw [if_pos hd]
  · rw [show (if d = 0 then (2 : Nat) else 3) = 3 from if_neg hd]
    show _ = (match (match (match (none : Option (List Int)) with | some l => some l | none => (zFo K d es (fun u => f u - zGn K e.1 e.2 (zRA 0) u)).map (fun l => zRA 0 :: l)) with | some l => some l | none => (zFo K d es (fun u => f u - zGn K e.1 e.2 (zRA 1) u)).map (fun l => zRA 1 :: l)) with | some l => some l | none => (zFo K d es (fun u => f u - zGn K e.1 e.2 (zRA 2) u)).map (fun l => zRA 2 :: l))
    rw [e0, e1, e2]
    cases zFo K d es (fun u => f u - zGn K e.1 e.2 1 u) with
    | some l => rfl
    | none =>
      cases zFo K d es (fun u => f u - zGn K e.1 e.2 2 u) with
      | some l => rfl
      | none =>
        dsimp only [Option.map]
        rw [if_neg hd]
/-- what the search leaves and answers -/
def zGp (m : zMe) (set : Nat) (g : Int) (v : Int32) (m2 : zMe) : Prop := v = zI (zB ((zFo7 m set (m 51 1 - g).toNat g.toNat).isSome = true)) ∧ zGx m m2 ∧ (-1 ≤ m2 50 8 ∧ m2 50 8 < 512) ∧ (∀ k : Int, (∀ x, x ∈ zSg set (m 51 1 - g).toNat g.toNat → ¬ k = (x : Int)) → m2 55 k = m 55 k) ∧ (m 50 9 = 0 → ∀ l, zFo7 m set (m 51 1 - g).toNat g.toNat = some l → zRq (m2 55) (zSg set (m 51 1 - g).toNat g.toNat) l)
theorem zB_E {p : Prop} [Decidable p] : zB p = zE p := by
  by_cases h : p
  · rw [zB_p h, zE_p h]
  · rw [zB_n h, zE_n h]
theorem zRm_b {m m4 : zMe} {g res : Int} (hR : zRw m) (h51 : ∀ j, m4 51 j = m 51 j) (h5 : m4 50 5 = m 50 5) (h6 : m4 50 6 = m 50 6) (h54 : ∀ j, m4 54 j = m 54 j + zG7 m g res j * 1) (hg : 0 ≤ g ∧ g < m 51 1) (ho : ¬ m 51 (51 + g) = m 50 5) (hp : ¬ m 51 (60 + g) = m 50 5) {u : Int} : zRm m4 u = zRm m u - zGn (m 51 2) (m 51 (51 + g)) (m 51 (60 + g)) res u := by
  obtain ⟨g1, g2, g3, g4, g5⟩ := hR.2.2 g hg.1 hg.2
  unfold zRm
  rw [h51, h5, h6, h54]
  by_cases hq : u < m 51 0 ∧ ¬ u = m 50 5
  · rw [if_pos hq, if_pos hq]
    unfold zG7
    omega
  · rw [if_neg hq, if_neg hq]
    have : zGn (m 51 2) (m 51 (51 + g)) (m 51 (60 + g)) res u = 0 := by
      unfold zGn
      rw [if_neg (by omega), if_neg (by omega)]
      rfl
    omega
set_option maxRecDepth 100000 in
set_option maxHeartbeats 2000000 in
theorem s7_goes_r {m : zMe} {ks : Nat × Int32 × Int32 → Hp → Option (Int32 × Hp)} {g : Int} {set : Nat} (h : zGa m set g) (hs : set < 512) (hrec : ∀ m', zGa m' set (g + 1) → m' 51 1 = m 51 1 → zOk (ks (50, zI (g + 1), zI (set : Int)) (zM m')) (zGp m' set (g + 1))) : zOk (f_X7_goes_r ks 50 (zI g) (zI (set : Int)) (zM m)) (zGp m set g) := by
  obtain ⟨hG, hg, hS, hP, hM, hF⟩ := id h
  obtain ⟨hR, hA, h8, h9⟩ := id hG
  have hN := hR.1.2.1
  have hT6 := hR.1.1
  have hK := hR.1.2.2
  unfold f_X7_goes_r
  (first
    | (with_reducible apply z_nm; (case he => repeat (with_reducible first | exact zv_l _ | exact zv_r | apply zv_add | apply zv_sub | apply zv_mul | apply zv_neg | apply zv_or)))
    | (with_reducible apply z_b_ck; (case h => with_unfolding_all rfl))
    | (with_reducible apply z_I; (case h => first | with_unfolding_all rfl); (case hy => first | ((simp (disch := omega) only [zU_c, zU_e, zU_k, zF_c, zF_i, zF_o, zW_o, zW_i, zC_c, zC_i, zC_o]); rfl) | rfl))
    | (with_reducible apply z_b_R; (case h => first | with_unfolding_all rfl))
    | (with_reducible apply z_L; (case he => repeat (with_reducible first | exact zv_l _ | exact zv_r | apply zv_add | apply zv_sub | apply zv_mul | apply zv_neg | apply zv_or)); (case hn => with_reducible first | assumption | exact zl_2 | exact zl_5 | exact zl_6 | exact zl_8 | exact zl_9 | exact zl_51 | exact zl_53 | exact zl_54 | exact zl_55 | exact zl_60); (case h => omega); (case hy => first | ((simp (disch := omega) only [zU_c, zU_e, zU_k, zF_c, zF_i, zF_o, zW_o, zW_i, zC_c, zC_i, zC_o]); rfl) | rfl))
    | (with_reducible apply z_S; (case he => repeat (with_reducible first | exact zv_l _ | exact zv_r | apply zv_add | apply zv_sub | apply zv_mul | apply zv_neg | apply zv_or)); (case hg => repeat (with_reducible first | exact zv_l _ | exact zv_r | apply zv_add | apply zv_sub | apply zv_mul | apply zv_neg | apply zv_or)); (case hn => with_reducible first | assumption | exact zl_2 | exact zl_5 | exact zl_6 | exact zl_8 | exact zl_9 | exact zl_51 | exact zl_53 | exact zl_54 | exact zl_55 | exact zl_60); (case h => omega))
    | with_reducible refine z_bz ?_
    | with_reducible refine z_bzE ?_
    | (with_reducible apply z_bzl; (case h => omega))
    | (with_reducible apply z_7has; (case e1 => repeat (with_reducible first | exact zv_l _ | exact zv_r | apply zv_add | apply zv_sub | apply zv_mul | apply zv_neg | apply zv_or)); (case e2 => repeat (with_reducible first | exact zv_l _ | exact zv_r | apply zv_add | apply zv_sub | apply zv_mul | apply zv_neg | apply zv_or)); (case r1 => first | omega | ((simp (disch := omega) only [zU_c, zU_e, zU_k, zF_c, zF_i, zF_o, zW_o, zW_i, zC_c, zC_i, zC_o]); omega)); (case r2 => first | omega | ((simp (disch := omega) only [zU_c, zU_e, zU_k, zF_c, zF_i, zF_o, zW_o, zW_i, zC_c, zC_i, zC_o]); omega)))
    | (with_reducible apply z_7results; (case r1 => first | omega | ((simp (disch := omega) only [zU_c, zU_e, zU_k, zF_c, zF_i, zF_o, zW_o, zW_i, zC_c, zC_i, zC_o]); omega)))
    | (with_reducible apply z_7resultAt; (case e1 => repeat (with_reducible first | exact zv_l _ | exact zv_r | apply zv_add | apply zv_sub | apply zv_mul | apply zv_neg | apply zv_or)); (case r1 => first | omega | ((simp (disch := omega) only [zU_c, zU_e, zU_k, zF_c, zF_i, zF_o, zW_o, zW_i, zC_c, zC_i, zC_o]); omega)))
    | (with_reducible apply z_7brings; (case e1 => repeat (with_reducible first | exact zv_l _ | exact zv_r | apply zv_add | apply zv_sub | apply zv_mul | apply zv_neg | apply zv_or)); (case e2 => repeat (with_reducible first | exact zv_l _ | exact zv_r | apply zv_add | apply zv_sub | apply zv_mul | apply zv_neg | apply zv_or)); (case e3 => repeat (with_reducible first | exact zv_l _ | exact zv_r | apply zv_add | apply zv_sub | apply zv_mul | apply zv_neg | apply zv_or)); (case r1 => first | omega | ((simp (disch := omega) only [zU_c, zU_e, zU_k, zF_c, zF_i, zF_o, zW_o, zW_i, zC_c, zC_i, zC_o]); omega)); (case r2 => first | omega | ((simp (disch := omega) only [zU_c, zU_e, zU_k, zF_c, zF_i, zF_o, zW_o, zW_i, zC_c, zC_i, zC_o]); omega)); (case r3 => first | omega | ((simp (disch := omega) only [zU_c, zU_e, zU_k, zF_c, zF_i, zF_o, zW_o, zW_i, zC_c, zC_i, zC_o]); omega)); (case r4 => first | omega | ((simp (disch := omega) only [zU_c, zU_e, zU_k, zF_c, zF_i, zF_o, zW_o, zW_i, zC_c, zC_i, zC_o]); omega)); (case r5 => first | omega | ((simp (disch := omega) only [zU_c, zU_e, zU_k, zF_c, zF_i, zF_o, zW_o, zW_i, zC_c, zC_i, zC_o]); omega)); (case r6 => first | omega | ((simp (disch := omega) only [zU_c, zU_e, zU_k, zF_c, zF_i, zF_o, zW_o, zW_i, zC_c, zC_i, zC_o]); omega)))
    | (with_reducible apply z_7isTooMuch; (case r1 => first | omega | ((simp (disch := omega) only [zU_c, zU_e, zU_k, zF_c, zF_i, zF_o, zW_o, zW_i, zC_c, zC_i, zC_o]); omega)); intro _ _ _)
    | (with_reducible apply z_7notesDrawn; (case r1 => first | omega | ((simp (disch := omega) only [zU_c, zU_e, zU_k, zF_c, zF_i, zF_o, zW_o, zW_i, zC_c, zC_i, zC_o]); omega)); (case r2 => first | omega | ((simp (disch := omega) only [zU_c, zU_e, zU_k, zF_c, zF_i, zF_o, zW_o, zW_i, zC_c, zC_i, zC_o]); omega)); (case a1 => assumption); intro _ _ _))
  refine z_call (s7_tooMuch hR.1.1 (fun u u0 u1 => by have := hP u u0 u1; omega) hM hF) (fun v m1 hv => ?_)
  obtain ⟨rfl, rfl⟩ := hv
  refine z_E (fun hall => ?_) (fun hnot => ?_)
  · have hall : ∀ u, 0 ≤ u → u < 6 → 0 ≤ zRm m1 u := Classical.not_not.mp hall
    (first
    | (with_reducible apply z_nm; (case he => repeat (with_reducible first | exact zv_l _ | exact zv_r | apply zv_add | apply zv_sub | apply zv_mul | apply zv_neg | apply zv_or)))
    | (with_reducible apply z_b_ck; (case h => with_unfolding_all rfl))
    | (with_reducible apply z_I; (case h => first | with_unfolding_all rfl); (case hy => first | ((simp (disch := omega) only [zU_c, zU_e, zU_k, zF_c, zF_i, zF_o, zW_o, zW_i, zC_c, zC_i, zC_o]); rfl) | rfl))
    | (with_reducible apply z_b_R; (case h => first | with_unfolding_all rfl))
    | (with_reducible apply z_L; (case he => repeat (with_reducible first | exact zv_l _ | exact zv_r | apply zv_add | apply zv_sub | apply zv_mul | apply zv_neg | apply zv_or)); (case hn => with_reducible first | assumption | exact zl_2 | exact zl_5 | exact zl_6 | exact zl_8 | exact zl_9 | exact zl_51 | exact zl_53 | exact zl_54 | exact zl_55 | exact zl_60); (case h => omega); (case hy => first | ((simp (disch := omega) only [zU_c, zU_e, zU_k, zF_c, zF_i, zF_o, zW_o, zW_i, zC_c, zC_i, zC_o]); rfl) | rfl))
    | (with_reducible apply z_S; (case he => repeat (with_reducible first | exact zv_l _ | exact zv_r | apply zv_add | apply zv_sub | apply zv_mul | apply zv_neg | apply zv_or)); (case hg => repeat (with_reducible first | exact zv_l _ | exact zv_r | apply zv_add | apply zv_sub | apply zv_mul | apply zv_neg | apply zv_or)); (case hn => with_reducible first | assumption | exact zl_2 | exact zl_5 | exact zl_6 | exact zl_8 | exact zl_9 | exact zl_51 | exact zl_53 | exact zl_54 | exact zl_55 | exact zl_60); (case h => omega))
    | with_reducible refine z_bz ?_
    | with_reducible refine z_bzE ?_
    | (with_reducible apply z_bzl; (case h => omega))
    | (with_reducible apply z_7has; (case e1 => repeat (with_reducible first | exact zv_l _ | exact zv_r | apply zv_add | apply zv_sub | apply zv_mul | apply zv_neg | apply zv_or)); (case e2 => repeat (with_reducible first | exact zv_l _ | exact zv_r | apply zv_add | apply zv_sub | apply zv_mul | apply zv_neg | apply zv_or)); (case r1 => first | omega | ((simp (disch := omega) only [zU_c, zU_e, zU_k, zF_c, zF_i, zF_o, zW_o, zW_i, zC_c, zC_i, zC_o]); omega)); (case r2 => first | omega | ((simp (disch := omega) only [zU_c, zU_e, zU_k, zF_c, zF_i, zF_o, zW_o, zW_i, zC_c, zC_i, zC_o]); omega)))
    | (with_reducible apply z_7results; (case r1 => first | omega | ((simp (disch := omega) only [zU_c, zU_e, zU_k, zF_c, zF_i, zF_o, zW_o, zW_i, zC_c, zC_i, zC_o]); omega)))
    | (with_reducible apply z_7resultAt; (case e1 => repeat (with_reducible first | exact zv_l _ | exact zv_r | apply zv_add | apply zv_sub | apply zv_mul | apply zv_neg | apply zv_or)); (case r1 => first | omega | ((simp (disch := omega) only [zU_c, zU_e, zU_k, zF_c, zF_i, zF_o, zW_o, zW_i, zC_c, zC_i, zC_o]); omega)))
    | (with_reducible apply z_7brings; (case e1 => repeat (with_reducible first | exact zv_l _ | exact zv_r | apply zv_add | apply zv_sub | apply zv_mul | apply zv_neg | apply zv_or)); (case e2 => repeat (with_reducible first | exact zv_l _ | exact zv_r | apply zv_add | apply zv_sub | apply zv_mul | apply zv_neg | apply zv_or)); (case e3 => repeat (with_reducible first | exact zv_l _ | exact zv_r | apply zv_add | apply zv_sub | apply zv_mul | apply zv_neg | apply zv_or)); (case r1 => first | omega | ((simp (disch := omega) only [zU_c, zU_e, zU_k, zF_c, zF_i, zF_o, zW_o, zW_i, zC_c, zC_i, zC_o]); omega)); (case r2 => first | omega | ((simp (disch := omega) only [zU_c, zU_e, zU_k, zF_c, zF_i, zF_o, zW_o, zW_i, zC_c, zC_i, zC_o]); omega)); (case r3 => first | omega | ((simp (disch := omega) only [zU_c, zU_e, zU_k, zF_c, zF_i, zF_o, zW_o, zW_i, zC_c, zC_i, zC_o]); omega)); (case r4 => first | omega | ((simp (disch := omega) only [zU_c, zU_e, zU_k, zF_c, zF_i, zF_o, zW_o, zW_i, zC_c, zC_i, zC_o]); omega)); (case r5 => first | omega | ((simp (disch := omega) only [zU_c, zU_e, zU_k, zF_c, zF_i, zF_o, zW_o, zW_i, zC_c, zC_i, zC_o]); omega)); (case r6 => first | omega | ((simp (disch := omega) only [zU_c, zU_e, zU_k, zF_c, zF_i, zF_o, zW_o, zW_i, zC_c, zC_i, zC_o]); omega)))
    | (with_reducible apply z_7isTooMuch; (case r1 => first | omega | ((simp (disch := omega) only [zU_c, zU_e, zU_k, zF_c, zF_i, zF_o, zW_o, zW_i, zC_c, zC_i, zC_o]); omega)); intro _ _ _)
    | (with_reducible apply z_7notesDrawn; (case r1 => first | omega | ((simp (disch := omega) only [zU_c, zU_e, zU_k, zF_c, zF_i, zF_o, zW_o, zW_i, zC_c, zC_i, zC_o]); omega)); (case r2 => first | omega | ((simp (disch := omega) only [zU_c, zU_e, zU_k, zF_c, zF_i, zF_o, zW_o, zW_i, zC_c, zC_i, zC_o]); omega)); (case a1 => assumption); intro _ _ _))
    (first
    | (with_reducible apply z_nm; (case he => repeat (with_reducible first | exact zv_l _ | exact zv_r | apply zv_add | apply zv_sub | apply zv_mul | apply zv_neg | apply zv_or)))
    | (with_reducible apply z_b_ck; (case h => with_unfolding_all rfl))
    | (with_reducible apply z_I; (case h => first | with_unfolding_all rfl); (case hy => first | ((simp (disch := omega) only [zU_c, zU_e, zU_k, zF_c, zF_i, zF_o, zW_o, zW_i, zC_c, zC_i, zC_o]); rfl) | rfl))
    | (with_reducible apply z_b_R; (case h => first | with_unfolding_all rfl))
    | (with_reducible apply z_L; (case he => repeat (with_reducible first | exact zv_l _ | exact zv_r | apply zv_add | apply zv_sub | apply zv_mul | apply zv_neg | apply zv_or)); (case hn => with_reducible first | assumption | exact zl_2 | exact zl_5 | exact zl_6 | exact zl_8 | exact zl_9 | exact zl_51 | exact zl_53 | exact zl_54 | exact zl_55 | exact zl_60); (case h => omega); (case hy => first | ((simp (disch := omega) only [zU_c, zU_e, zU_k, zF_c, zF_i, zF_o, zW_o, zW_i, zC_c, zC_i, zC_o]); rfl) | rfl))
    | (with_reducible apply z_S; (case he => repeat (with_reducible first | exact zv_l _ | exact zv_r | apply zv_add | apply zv_sub | apply zv_mul | apply zv_neg | apply zv_or)); (case hg => repeat (with_reducible first | exact zv_l _ | exact zv_r | apply zv_add | apply zv_sub | apply zv_mul | apply zv_neg | apply zv_or)); (case hn => with_reducible first | assumption | exact zl_2 | exact zl_5 | exact zl_6 | exact zl_8 | exact zl_9 | exact zl_51 | exact zl_53 | exact zl_54 | exact zl_55 | exact zl_60); (case h => omega))
    | with_reducible refine z_bz ?_
    | with_reducible refine z_bzE ?_
    | (with_reducible apply z_bzl; (case h => omega))
    | (with_reducible apply z_7has; (case e1 => repeat (with_reducible first | exact zv_l _ | exact zv_r | apply zv_add | apply zv_sub | apply zv_mul | apply zv_neg | apply zv_or)); (case e2 => repeat (with_reducible first | exact zv_l _ | exact zv_r | apply zv_add | apply zv_sub | apply zv_mul | apply zv_neg | apply zv_or)); (case r1 => first | omega | ((simp (disch := omega) only [zU_c, zU_e, zU_k, zF_c, zF_i, zF_o, zW_o, zW_i, zC_c, zC_i, zC_o]); omega)); (case r2 => first | omega | ((simp (disch := omega) only [zU_c, zU_e, zU_k, zF_c, zF_i, zF_o, zW_o, zW_i, zC_c, zC_i, zC_o]); omega)))
    | (with_reducible apply z_7results; (case r1 => first | omega | ((simp (disch := omega) only [zU_c, zU_e, zU_k, zF_c, zF_i, zF_o, zW_o, zW_i, zC_c, zC_i, zC_o]); omega)))
    | (with_reducible apply z_7resultAt; (case e1 => repeat (with_reducible first | exact zv_l _ | exact zv_r | apply zv_add | apply zv_sub | apply zv_mul | apply zv_neg | apply zv_or)); (case r1 => first | omega | ((simp (disch := omega) only [zU_c, zU_e, zU_k, zF_c, zF_i, zF_o, zW_o, zW_i, zC_c, zC_i, zC_o]); omega)))
    | (with_reducible apply z_7brings; (case e1 => repeat (with_reducible first | exact zv_l _ | exact zv_r | apply zv_add | apply zv_sub | apply zv_mul | apply zv_neg | apply zv_or)); (case e2 => repeat (with_reducible first | exact zv_l _ | exact zv_r | apply zv_add | apply zv_sub | apply zv_mul | apply zv_neg | apply zv_or)); (case e3 => repeat (with_reducible first | exact zv_l _ | exact zv_r | apply zv_add | apply zv_sub | apply zv_mul | apply zv_neg | apply zv_or)); (case r1 => first | omega | ((simp (disch := omega) only [zU_c, zU_e, zU_k, zF_c, zF_i, zF_o, zW_o, zW_i, zC_c, zC_i, zC_o]); omega)); (case r2 => first | omega | ((simp (disch := omega) only [zU_c, zU_e, zU_k, zF_c, zF_i, zF_o, zW_o, zW_i, zC_c, zC_i, zC_o]); omega)); (case r3 => first | omega | ((simp (disch := omega) only [zU_c, zU_e, zU_k, zF_c, zF_i, zF_o, zW_o, zW_i, zC_c, zC_i, zC_o]); omega)); (case r4 => first | omega | ((simp (disch := omega) only [zU_c, zU_e, zU_k, zF_c, zF_i, zF_o, zW_o, zW_i, zC_c, zC_i, zC_o]); omega)); (case r5 => first | omega | ((simp (disch := omega) only [zU_c, zU_e, zU_k, zF_c, zF_i, zF_o, zW_o, zW_i, zC_c, zC_i, zC_o]); omega)); (case r6 => first | omega | ((simp (disch := omega) only [zU_c, zU_e, zU_k, zF_c, zF_i, zF_o, zW_o, zW_i, zC_c, zC_i, zC_o]); omega)))
    | (with_reducible apply z_7isTooMuch; (case r1 => first | omega | ((simp (disch := omega) only [zU_c, zU_e, zU_k, zF_c, zF_i, zF_o, zW_o, zW_i, zC_c, zC_i, zC_o]); omega)); intro _ _ _)
    | (with_reducible apply z_7notesDrawn; (case r1 => first | omega | ((simp (disch := omega) only [zU_c, zU_e, zU_k, zF_c, zF_i, zF_o, zW_o, zW_i, zC_c, zC_i, zC_o]); omega)); (case r2 => first | omega | ((simp (disch := omega) only [zU_c, zU_e, zU_k, zF_c, zF_i, zF_o, zW_o, zW_i, zC_c, zC_i, zC_o]); omega)); (case a1 => assumption); intro _ _ _))
    (first
    | (with_reducible apply z_B; all_goals (intro _; try (exfalso; omega)))
    | (with_reducible apply z_E; all_goals intro _)
    | (with_reducible apply z_lt; (case ha => repeat (with_reducible first | exact zv_l _ | exact zv_r | apply zv_add | apply zv_sub | apply zv_mul | apply zv_neg | apply zv_or)); (case hb => repeat (with_reducible first | exact zv_l _ | exact zv_r | apply zv_add | apply zv_sub | apply zv_mul | apply zv_neg | apply zv_or)); (case hx => omega); (case hy => omega); all_goals (intro _; try (exfalso; omega)))
    | (with_reducible apply z_le; (case ha => repeat (with_reducible first | exact zv_l _ | exact zv_r | apply zv_add | apply zv_sub | apply zv_mul | apply zv_neg | apply zv_or)); (case hb => repeat (with_reducible first | exact zv_l _ | exact zv_r | apply zv_add | apply zv_sub | apply zv_mul | apply zv_neg | apply zv_or)); (case hx => omega); (case hy => omega); all_goals (intro _; try (exfalso; omega)))
    | (with_reducible apply z_eq; (case ha => repeat (with_reducible first | exact zv_l _ | exact zv_r | apply zv_add | apply zv_sub | apply zv_mul | apply zv_neg | apply zv_or)); (case hb => repeat (with_reducible first | exact zv_l _ | exact zv_r | apply zv_add | apply zv_sub | apply zv_mul | apply zv_neg | apply zv_or)); (case hx => omega); (case hy => omega); all_goals (intro _; try (exfalso; omega))))
    · rename_i hgN
      have en : (m1 51 1 - g).toNat = 0 := by omega
      have eF : zFo7 m1 set 0 g.toNat = some [] := zIf_p hall
      refine z_7notesDrawn hN h8 hA (fun _ m2 hm => ?_)
      obtain ⟨x, rfl, hx⟩ := hm
      refine ⟨_, _, rfl, ?_, fun c j a b => ?_, by rw [zU_e]; exact hx, fun k _ => zU_c (by omega), fun _ l hl => ?_⟩
      · rw [en, eF]
        rfl
      · by_cases hc : c = 50
        · subst hc
          exact zU_k (by omega)
        · exact zU_c hc
      · rw [en]
        exact trivial
    · have hlt : g < m1 51 1 := by omega
      obtain ⟨n', en⟩ : ∃ n', (m1 51 1 - g).toNat = n' + 1 := ⟨(m1 51 1 - g).toNat - 1, by omega⟩
      have en2 : (m1 51 1 - (g + 1)).toNat = n' := by omega
      have eg : (g + 1).toNat = g.toNat + 1 := by omega
      have eg2 : ((g.toNat : Nat) : Int) = g := by omega
      refine z_7has rfl (i := g.toNat) (by rw [Int.toNat_of_nonneg hg.1]) hs (by omega) ?_
      refine z_B (fun hb => ?_) (fun hb => ?_)
      · have eL : zSg set (n' + 1) g.toNat = zSg set n' (g.toNat + 1) := if_neg hb
        (first
    | (with_reducible apply z_nm; (case he => repeat (with_reducible first | exact zv_l _ | exact zv_r | apply zv_add | apply zv_sub | apply zv_mul | apply zv_neg | apply zv_or)))
    | (with_reducible apply z_b_ck; (case h => with_unfolding_all rfl))
    | (with_reducible apply z_I; (case h => first | with_unfolding_all rfl); (case hy => first | ((simp (disch := omega) only [zU_c, zU_e, zU_k, zF_c, zF_i, zF_o, zW_o, zW_i, zC_c, zC_i, zC_o]); rfl) | rfl))
    | (with_reducible apply z_b_R; (case h => first | with_unfolding_all rfl))
    | (with_reducible apply z_L; (case he => repeat (with_reducible first | exact zv_l _ | exact zv_r | apply zv_add | apply zv_sub | apply zv_mul | apply zv_neg | apply zv_or)); (case hn => with_reducible first | assumption | exact zl_2 | exact zl_5 | exact zl_6 | exact zl_8 | exact zl_9 | exact zl_51 | exact zl_53 | exact zl_54 | exact zl_55 | exact zl_60); (case h => omega); (case hy => first | ((simp (disch := omega) only [zU_c, zU_e, zU_k, zF_c, zF_i, zF_o, zW_o, zW_i, zC_c, zC_i, zC_o]); rfl) | rfl))
    | (with_reducible apply z_S; (case he => repeat (with_reducible first | exact zv_l _ | exact zv_r | apply zv_add | apply zv_sub | apply zv_mul | apply zv_neg | apply zv_or)); (case hg => repeat (with_reducible first | exact zv_l _ | exact zv_r | apply zv_add | apply zv_sub | apply zv_mul | apply zv_neg | apply zv_or)); (case hn => with_reducible first | assumption | exact zl_2 | exact zl_5 | exact zl_6 | exact zl_8 | exact zl_9 | exact zl_51 | exact zl_53 | exact zl_54 | exact zl_55 | exact zl_60); (case h => omega))
    | with_reducible refine z_bz ?_
    | with_reducible refine z_bzE ?_
    | (with_reducible apply z_bzl; (case h => omega))
    | (with_reducible apply z_7has; (case e1 => repeat (with_reducible first | exact zv_l _ | exact zv_r | apply zv_add | apply zv_sub | apply zv_mul | apply zv_neg | apply zv_or)); (case e2 => repeat (with_reducible first | exact zv_l _ | exact zv_r | apply zv_add | apply zv_sub | apply zv_mul | apply zv_neg | apply zv_or)); (case r1 => first | omega | ((simp (disch := omega) only [zU_c, zU_e, zU_k, zF_c, zF_i, zF_o, zW_o, zW_i, zC_c, zC_i, zC_o]); omega)); (case r2 => first | omega | ((simp (disch := omega) only [zU_c, zU_e, zU_k, zF_c, zF_i, zF_o, zW_o, zW_i, zC_c, zC_i, zC_o]); omega)))
    | (with_reducible apply z_7results; (case r1 => first | omega | ((simp (disch := omega) only [zU_c, zU_e, zU_k, zF_c, zF_i, zF_o, zW_o, zW_i, zC_c, zC_i, zC_o]); omega)))
    | (with_reducible apply z_7resultAt; (case e1 => repeat (with_reducible first | exact zv_l _ | exact zv_r | apply zv_add | apply zv_sub | apply zv_mul | apply zv_neg | apply zv_or)); (case r1 => first | omega | ((simp (disch := omega) only [zU_c, zU_e, zU_k, zF_c, zF_i, zF_o, zW_o, zW_i, zC_c, zC_i, zC_o]); omega)))
    | (with_reducible apply z_7brings; (case e1 => repeat (with_reducible first | exact zv_l _ | exact zv_r | apply zv_add | apply zv_sub | apply zv_mul | apply zv_neg | apply zv_or)); (case e2 => repeat (with_reducible first | exact zv_l _ | exact zv_r | apply zv_add | apply zv_sub | apply zv_mul | apply zv_neg | apply zv_or)); (case e3 => repeat (with_reducible first | exact zv_l _ | exact zv_r | apply zv_add | apply zv_sub | apply zv_mul | apply zv_neg | apply zv_or)); (case r1 => first | omega | ((simp (disch := omega) only [zU_c, zU_e, zU_k, zF_c, zF_i, zF_o, zW_o, zW_i, zC_c, zC_i, zC_o]); omega)); (case r2 => first | omega | ((simp (disch := omega) only [zU_c, zU_e, zU_k, zF_c, zF_i, zF_o, zW_o, zW_i, zC_c, zC_i, zC_o]); omega)); (case r3 => first | omega | ((simp (disch := omega) only [zU_c, zU_e, zU_k, zF_c, zF_i, zF_o, zW_o, zW_i, zC_c, zC_i, zC_o]); omega)); (case r4 => first | omega | ((simp (disch := omega) only [zU_c, zU_e, zU_k, zF_c, zF_i, zF_o, zW_o, zW_i, zC_c, zC_i, zC_o]); omega)); (case r5 => first | omega | ((simp (disch := omega) only [zU_c, zU_e, zU_k, zF_c, zF_i, zF_o, zW_o, zW_i, zC_c, zC_i, zC_o]); omega)); (case r6 => first | omega | ((simp (disch := omega) only [zU_c, zU_e, zU_k, zF_c, zF_i, zF_o, zW_o, zW_i, zC_c, zC_i, zC_o]); omega)))
    | (with_reducible apply z_7isTooMuch; (case r1 => first | omega | ((simp (disch := omega) only [zU_c, zU_e, zU_k, zF_c, zF_i, zF_o, zW_o, zW_i, zC_c, zC_i, zC_o]); omega)); intro _ _ _)
    | (with_reducible apply z_7notesDrawn; (case r1 => first | omega | ((simp (disch := omega) only [zU_c, zU_e, zU_k, zF_c, zF_i, zF_o, zW_o, zW_i, zC_c, zC_i, zC_o]); omega)); (case r2 => first | omega | ((simp (disch := omega) only [zU_c, zU_e, zU_k, zF_c, zF_i, zF_o, zW_o, zW_i, zC_c, zC_i, zC_o]); omega)); (case a1 => assumption); intro _ _ _))
        rw [show zI g + 1 = zI (g + 1) from zv_add rfl (zv_l 1)]
        refine z_call (hrec m1 ⟨hG, by omega, hS, fun u u0 u1 => by have := hP u u0 u1; omega, hM, hF⟩ rfl) (fun v m2 hv => ?_)
        unfold zGp at hv ⊢
        rw [en2, eg] at hv
        rw [en]
        have eF : zFo7 m1 set (n' + 1) g.toNat = zFo7 m1 set n' (g.toNat + 1) := by
          unfold zFo7
          rw [eL]
        rw [eF, eL]
        obtain ⟨rfl, hv⟩ := hv
        (first
    | (with_reducible apply z_nm; (case he => repeat (with_reducible first | exact zv_l _ | exact zv_r | apply zv_add | apply zv_sub | apply zv_mul | apply zv_neg | apply zv_or)))
    | (with_reducible apply z_b_ck; (case h => with_unfolding_all rfl))
    | (with_reducible apply z_I; (case h => first | with_unfolding_all rfl); (case hy => first | ((simp (disch := omega) only [zU_c, zU_e, zU_k, zF_c, zF_i, zF_o, zW_o, zW_i, zC_c, zC_i, zC_o]); rfl) | rfl))
    | (with_reducible apply z_b_R; (case h => first | with_unfolding_all rfl))
    | (with_reducible apply z_L; (case he => repeat (with_reducible first | exact zv_l _ | exact zv_r | apply zv_add | apply zv_sub | apply zv_mul | apply zv_neg | apply zv_or)); (case hn => with_reducible first | assumption | exact zl_2 | exact zl_5 | exact zl_6 | exact zl_8 | exact zl_9 | exact zl_51 | exact zl_53 | exact zl_54 | exact zl_55 | exact zl_60); (case h => omega); (case hy => first | ((simp (disch := omega) only [zU_c, zU_e, zU_k, zF_c, zF_i, zF_o, zW_o, zW_i, zC_c, zC_i, zC_o]); rfl) | rfl))
    | (with_reducible apply z_S; (case he => repeat (with_reducible first | exact zv_l _ | exact zv_r | apply zv_add | apply zv_sub | apply zv_mul | apply zv_neg | apply zv_or)); (case hg => repeat (with_reducible first | exact zv_l _ | exact zv_r | apply zv_add | apply zv_sub | apply zv_mul | apply zv_neg | apply zv_or)); (case hn => with_reducible first | assumption | exact zl_2 | exact zl_5 | exact zl_6 | exact zl_8 | exact zl_9 | exact zl_51 | exact zl_53 | exact zl_54 | exact zl_55 | exact zl_60); (case h => omega))
    | with_reducible refine z_bz ?_
    | with_reducible refine z_bzE ?_
    | (with_reducible apply z_bzl; (case h => omega))
    | (with_reducible apply z_7has; (case e1 => repeat (with_reducible first | exact zv_l _ | exact zv_r | apply zv_add | apply zv_sub | apply zv_mul | apply zv_neg | apply zv_or)); (case e2 => repeat (with_reducible first | exact zv_l _ | exact zv_r | apply zv_add | apply zv_sub | apply zv_mul | apply zv_neg | apply zv_or)); (case r1 => first | omega | ((simp (disch := omega) only [zU_c, zU_e, zU_k, zF_c, zF_i, zF_o, zW_o, zW_i, zC_c, zC_i, zC_o]); omega)); (case r2 => first | omega | ((simp (disch := omega) only [zU_c, zU_e, zU_k, zF_c, zF_i, zF_o, zW_o, zW_i, zC_c, zC_i, zC_o]); omega)))
    | (with_reducible apply z_7results; (case r1 => first | omega | ((simp (disch := omega) only [zU_c, zU_e, zU_k, zF_c, zF_i, zF_o, zW_o, zW_i, zC_c, zC_i, zC_o]); omega)))
    | (with_reducible apply z_7resultAt; (case e1 => repeat (with_reducible first | exact zv_l _ | exact zv_r | apply zv_add | apply zv_sub | apply zv_mul | apply zv_neg | apply zv_or)); (case r1 => first | omega | ((simp (disch := omega) only [zU_c, zU_e, zU_k, zF_c, zF_i, zF_o, zW_o, zW_i, zC_c, zC_i, zC_o]); omega)))
    | (with_reducible apply z_7brings; (case e1 => repeat (with_reducible first | exact zv_l _ | exact zv_r | apply zv_add | apply zv_sub | apply zv_mul | apply zv_neg | apply zv_or)); (case e2 => repeat (with_reducible first | exact zv_l _ | exact zv_r | apply zv_add | apply zv_sub | apply zv_mul | apply zv_neg | apply zv_or)); (case e3 => repeat (with_reducible first | exact zv_l _ | exact zv_r | apply zv_add | apply zv_sub | apply zv_mul | apply zv_neg | apply zv_or)); (case r1 => first | omega | ((simp (disch := omega) only [zU_c, zU_e, zU_k, zF_c, zF_i, zF_o, zW_o, zW_i, zC_c, zC_i, zC_o]); omega)); (case r2 => first | omega | ((simp (disch := omega) only [zU_c, zU_e, zU_k, zF_c, zF_i, zF_o, zW_o, zW_i, zC_c, zC_i, zC_o]); omega)); (case r3 => first | omega | ((simp (disch := omega) only [zU_c, zU_e, zU_k, zF_c, zF_i, zF_o, zW_o, zW_i, zC_c, zC_i, zC_o]); omega)); (case r4 => first | omega | ((simp (disch := omega) only [zU_c, zU_e, zU_k, zF_c, zF_i, zF_o, zW_o, zW_i, zC_c, zC_i, zC_o]); omega)); (case r5 => first | omega | ((simp (disch := omega) only [zU_c, zU_e, zU_k, zF_c, zF_i, zF_o, zW_o, zW_i, zC_c, zC_i, zC_o]); omega)); (case r6 => first | omega | ((simp (disch := omega) only [zU_c, zU_e, zU_k, zF_c, zF_i, zF_o, zW_o, zW_i, zC_c, zC_i, zC_o]); omega)))
    | (with_reducible apply z_7isTooMuch; (case r1 => first | omega | ((simp (disch := omega) only [zU_c, zU_e, zU_k, zF_c, zF_i, zF_o, zW_o, zW_i, zC_c, zC_i, zC_o]); omega)); intro _ _ _)
    | (with_reducible apply z_7notesDrawn; (case r1 => first | omega | ((simp (disch := omega) only [zU_c, zU_e, zU_k, zF_c, zF_i, zF_o, zW_o, zW_i, zC_c, zC_i, zC_o]); omega)); (case r2 => first | omega | ((simp (disch := omega) only [zU_c, zU_e, zU_k, zF_c, zF_i, zF_o, zW_o, zW_i, zC_c, zC_i, zC_o]); omega)); (case a1 => assumption); intro _ _ _))
        exact ⟨_, _, rfl, rfl, hv⟩
      · obtain ⟨ho, hp⟩ := hS g.toNat (by omega) hb
        rw [eg2] at ho hp
        obtain ⟨g1, g2, g3, g4, g5⟩ := hR.2.2 g hg.1 hlt
        have eL : zSg set (n' + 1) g.toNat = g.toNat :: zSg set n' (g.toNat + 1) := if_pos hb
        have hrest : ∀ x, x ∈ zSg set n' (g.toNat + 1) → ¬ g = (x : Int) := fun x hx => by
          have := zSg_in hx
          omega
        have eF : zFo7 m1 set (n' + 1) g.toNat = zFp (fun x => zFo (m1 51 2) (if m1 51 2 = 0 then 0 else 1) (zGl7 m1 (zSg set n' (g.toNat + 1))) (fun u => zRm m1 u - zGn (m1 51 2) (m1 51 (51 + g)) (m1 51 (60 + g)) x u)) (if m1 51 2 = 0 then 2 else 3) := by
          unfold zFo7
          rw [eL]
          show zFo (m1 51 2) (if m1 51 2 = 0 then 0 else 1) ((m1 51 (51 + ((g.toNat : Nat) : Int)), m1 51 (60 + ((g.toNat : Nat) : Int))) :: zGl7 m1 (zSg set n' (g.toNat + 1))) (zRm m1) = _
          rw [eg2, zFp_all]
          congr 1
          by_cases hk0 : m1 51 2 = 0
          · rw [if_pos hk0, if_pos hk0, if_pos rfl]
          · rw [if_neg hk0, if_neg hk0, if_neg (by omega)]
        unfold zGp
        rw [en, eF, eL]
        generalize hFd : (fun x => zFo (m1 51 2) (if m1 51 2 = 0 then 0 else 1) (zGl7 m1 (zSg set n' (g.toNat + 1))) (fun u => zRm m1 u - zGn (m1 51 2) (m1 51 (51 + g)) (m1 51 (60 + g)) x u)) = F
        generalize hRd : (if m1 51 2 = 0 then 2 else 3) = R
        have hR23 : R = 2 ∨ R = 3 := by
          rw [← hRd]
          split
          · exact Or.inl rfl
          · exact Or.inr rfl
        refine z_lp (fun n v m2 => ∃ (s : Int) (i : Nat), v = (50, zI g, zI (set : Int), zI s, zI (i : Int)) ∧ i ≤ R ∧ n = 3 - i ∧ s = zB ((zFp F i).isSome = true) ∧ zGx m1 m2 ∧ (-1 ≤ m2 50 8 ∧ m2 50 8 < 512) ∧ (∀ k : Int, (∀ x, x ∈ g.toNat :: zSg set n' (g.toNat + 1) → ¬ k = (x : Int)) → m2 55 k = m1 55 k) ∧ (m1 50 9 = 0 → ∀ l, zFp F i = some l → zRq (m2 55) (g.toNat :: zSg set n' (g.toNat + 1)) l)) (fun _ _ v m2 => v = zI (zB ((zFp F R).isSome = true)) ∧ zGx m1 m2 ∧ (-1 ≤ m2 50 8 ∧ m2 50 8 < 512) ∧ (∀ k : Int, (∀ x, x ∈ g.toNat :: zSg set n' (g.toNat + 1) → ¬ k = (x : Int)) → m2 55 k = m1 55 k) ∧ (m1 50 9 = 0 → ∀ l, zFp F R = some l → zRq (m2 55) (g.toNat :: zSg set n' (g.toNat + 1)) l)) ?_ 600 3 _ _ (by omega) ⟨0, 0, rfl, by omega, rfl, rfl, zGx_r _, h8, fun _ _ => rfl, fun _ l hl => by cases hl⟩
        rintro n v m2 k2 ⟨s, i, rfl, iR, rfl, hs1, hX, h82, hoff, hrun⟩ hk2
        have h2 : zGs m2 := zGx_s hX hG h82
        have e51 : ∀ j, m2 51 j = m1 51 j := fun j => hX 51 j (by omega) (by omega)
        have hs01 : s = 0 ∨ s = 1 := by
          rw [hs1]
          by_cases q : (zFp F i).isSome = true
          · rw [zB_p q]
            exact Or.inr rfl
          · rw [zB_n q]
            exact Or.inl rfl
        have hexit : (zFp F i = zFp F R) → zOk ((bz (zI s)).bind fun _ => some (zI s, zM m2)) (fun v m2 => v = zI (zB ((zFp F R).isSome = true)) ∧ zGx m1 m2 ∧ (-1 ≤ m2 50 8 ∧ m2 50 8 < 512) ∧ (∀ k : Int, (∀ x, x ∈ g.toNat :: zSg set n' (g.toNat + 1) → ¬ k = (x : Int)) → m2 55 k = m1 55 k) ∧ (m1 50 9 = 0 → ∀ l, zFp F R = some l → zRq (m2 55) (g.toNat :: zSg set n' (g.toNat + 1)) l)) := fun hq => by
          refine z_bzl2 hs01 ?_
          rw [← hq]
          exact ⟨_, _, rfl, by rw [hs1], hX, h82, hoff, hrun⟩
        have hmain : i < R → (m1 50 9 = 0 → s = 0) → zOk (f_X7_goes_67 ks k2 50 (zI g) (zI (set : Int)) (zI s) (zI (i : Int)) (zM m2)) (fun v m2 => v = zI (zB ((zFp F R).isSome = true)) ∧ zGx m1 m2 ∧ (-1 ≤ m2 50 8 ∧ m2 50 8 < 512) ∧ (∀ k : Int, (∀ x, x ∈ g.toNat :: zSg set n' (g.toNat + 1) → ¬ k = (x : Int)) → m2 55 k = m1 55 k) ∧ (m1 50 9 = 0 → ∀ l, zFp F R = some l → zRq (m2 55) (g.toNat :: zSg set n' (g.toNat + 1)) l)) := fun hiR hs0 => by
          unfold f_X7_goes_67
          refine z_7resultAt rfl (by omega) ?_
          have hra : 0 ≤ zRA i ∧ zRA i ≤ 2 := by
            unfold zRA
            split <;> omega
          have era : (if (i : Int) = 2 then (0 : Int) else (i : Int) + 1) = zRA i := by
            unfold zRA
            by_cases hq : i = 2
            · rw [if_pos hq, if_pos (by omega)]
            · rw [if_neg hq, if_neg (by omega)]
          rw [era]
          refine z_7brings (k := g) (res := zRA i) (x := 1) rfl rfl (zv_l 1) (by omega) hra (by rw [e51]; omega) (by rw [e51]; omega) (by rw [e51, e51]; exact g4) (by rw [e51]; exact hK) ?_
          (first
    | (with_reducible apply z_nm; (case he => repeat (with_reducible first | exact zv_l _ | exact zv_r | apply zv_add | apply zv_sub | apply zv_mul | apply zv_neg | apply zv_or)))
    | (with_reducible apply z_b_ck; (case h => with_unfolding_all rfl))
    | (with_reducible apply z_I; (case h => first | with_unfolding_all rfl); (case hy => first | ((simp (disch := omega) only [zU_c, zU_e, zU_k, zF_c, zF_i, zF_o, zW_o, zW_i, zC_c, zC_i, zC_o]); rfl) | rfl))
    | (with_reducible apply z_b_R; (case h => first | with_unfolding_all rfl))
    | (with_reducible apply z_L; (case he => repeat (with_reducible first | exact zv_l _ | exact zv_r | apply zv_add | apply zv_sub | apply zv_mul | apply zv_neg | apply zv_or)); (case hn => with_reducible first | assumption | exact zl_2 | exact zl_5 | exact zl_6 | exact zl_8 | exact zl_9 | exact zl_51 | exact zl_53 | exact zl_54 | exact zl_55 | exact zl_60); (case h => omega); (case hy => first | ((simp (disch := omega) only [zU_c, zU_e, zU_k, zF_c, zF_i, zF_o, zW_o, zW_i, zC_c, zC_i, zC_o]); rfl) | rfl))
    | (with_reducible apply z_S; (case he => repeat (with_reducible first | exact zv_l _ | exact zv_r | apply zv_add | apply zv_sub | apply zv_mul | apply zv_neg | apply zv_or)); (case hg => repeat (with_reducible first | exact zv_l _ | exact zv_r | apply zv_add | apply zv_sub | apply zv_mul | apply zv_neg | apply zv_or)); (case hn => with_reducible first | assumption | exact zl_2 | exact zl_5 | exact zl_6 | exact zl_8 | exact zl_9 | exact zl_51 | exact zl_53 | exact zl_54 | exact zl_55 | exact zl_60); (case h => omega))
    | with_reducible refine z_bz ?_
    | with_reducible refine z_bzE ?_
    | (with_reducible apply z_bzl; (case h => omega))
    | (with_reducible apply z_7has; (case e1 => repeat (with_reducible first | exact zv_l _ | exact zv_r | apply zv_add | apply zv_sub | apply zv_mul | apply zv_neg | apply zv_or)); (case e2 => repeat (with_reducible first | exact zv_l _ | exact zv_r | apply zv_add | apply zv_sub | apply zv_mul | apply zv_neg | apply zv_or)); (case r1 => first | omega | ((simp (disch := omega) only [zU_c, zU_e, zU_k, zF_c, zF_i, zF_o, zW_o, zW_i, zC_c, zC_i, zC_o]); omega)); (case r2 => first | omega | ((simp (disch := omega) only [zU_c, zU_e, zU_k, zF_c, zF_i, zF_o, zW_o, zW_i, zC_c, zC_i, zC_o]); omega)))
    | (with_reducible apply z_7results; (case r1 => first | omega | ((simp (disch := omega) only [zU_c, zU_e, zU_k, zF_c, zF_i, zF_o, zW_o, zW_i, zC_c, zC_i, zC_o]); omega)))
    | (with_reducible apply z_7resultAt; (case e1 => repeat (with_reducible first | exact zv_l _ | exact zv_r | apply zv_add | apply zv_sub | apply zv_mul | apply zv_neg | apply zv_or)); (case r1 => first | omega | ((simp (disch := omega) only [zU_c, zU_e, zU_k, zF_c, zF_i, zF_o, zW_o, zW_i, zC_c, zC_i, zC_o]); omega)))
    | (with_reducible apply z_7brings; (case e1 => repeat (with_reducible first | exact zv_l _ | exact zv_r | apply zv_add | apply zv_sub | apply zv_mul | apply zv_neg | apply zv_or)); (case e2 => repeat (with_reducible first | exact zv_l _ | exact zv_r | apply zv_add | apply zv_sub | apply zv_mul | apply zv_neg | apply zv_or)); (case e3 => repeat (with_reducible first | exact zv_l _ | exact zv_r | apply zv_add | apply zv_sub | apply zv_mul | apply zv_neg | apply zv_or)); (case r1 => first | omega | ((simp (disch := omega) only [zU_c, zU_e, zU_k, zF_c, zF_i, zF_o, zW_o, zW_i, zC_c, zC_i, zC_o]); omega)); (case r2 => first | omega | ((simp (disch := omega) only [zU_c, zU_e, zU_k, zF_c, zF_i, zF_o, zW_o, zW_i, zC_c, zC_i, zC_o]); omega)); (case r3 => first | omega | ((simp (disch := omega) only [zU_c, zU_e, zU_k, zF_c, zF_i, zF_o, zW_o, zW_i, zC_c, zC_i, zC_o]); omega)); (case r4 => first | omega | ((simp (disch := omega) only [zU_c, zU_e, zU_k, zF_c, zF_i, zF_o, zW_o, zW_i, zC_c, zC_i, zC_o]); omega)); (case r5 => first | omega | ((simp (disch := omega) only [zU_c, zU_e, zU_k, zF_c, zF_i, zF_o, zW_o, zW_i, zC_c, zC_i, zC_o]); omega)); (case r6 => first | omega | ((simp (disch := omega) only [zU_c, zU_e, zU_k, zF_c, zF_i, zF_o, zW_o, zW_i, zC_c, zC_i, zC_o]); omega)))
    | (with_reducible apply z_7isTooMuch; (case r1 => first | omega | ((simp (disch := omega) only [zU_c, zU_e, zU_k, zF_c, zF_i, zF_o, zW_o, zW_i, zC_c, zC_i, zC_o]); omega)); intro _ _ _)
    | (with_reducible apply z_7notesDrawn; (case r1 => first | omega | ((simp (disch := omega) only [zU_c, zU_e, zU_k, zF_c, zF_i, zF_o, zW_o, zW_i, zC_c, zC_i, zC_o]); omega)); (case r2 => first | omega | ((simp (disch := omega) only [zU_c, zU_e, zU_k, zF_c, zF_i, zF_o, zW_o, zW_i, zC_c, zC_i, zC_o]); omega)); (case a1 => assumption); intro _ _ _))
          refine z_S (x := g) (y := zRA i) rfl rfl zl_55 (by omega) ?_
          generalize h4d : zU (zAw m2 54 (fun t => zG7 m2 g (zRA i) t * 1)) 55 g (zRA i) = m4
          have f4 : ∀ c j, ¬ c = 54 → ¬ c = 55 → m4 c j = m2 c j := fun c j a b => by
            rw [← h4d, zU_c b, zAw_c a]
          have f451 : ∀ j, m4 51 j = m1 51 j := fun j => by rw [f4 51 j (by omega) (by omega), e51]
          have f454 : ∀ j, m4 54 j = m1 54 j + zG7 m1 g (zRA i) j * 1 := fun j => by
            rw [← h4d, zU_c (by omega), zAw_q, hX 54 j (by omega) (by omega)]
            unfold zG7
            rw [e51, e51, e51]
          have f455 : ∀ j, ¬ j = g → m4 55 j = m2 55 j := fun j hj => by
            rw [← h4d, zU_k hj, zAw_c (by omega)]
          have f455g : m4 55 g = zRA i := by rw [← h4d, zU_e]
          have f45 : m4 50 5 = m1 50 5 := by rw [f4 50 5 (by omega) (by omega), hX 50 5 (by omega) (by omega)]
          have f46 : m4 50 6 = m1 50 6 := by rw [f4 50 6 (by omega) (by omega), hX 50 6 (by omega) (by omega)]
          have f49 : m4 50 9 = m1 50 9 := by rw [f4 50 9 (by omega) (by omega), hX 50 9 (by omega) (by omega)]
          have hgr : ∀ u, 0 ≤ zG7 m1 g (zRA i) u ∧ zG7 m1 g (zRA i) u ≤ 3 := fun u => by
            have := zGn_0 (o := m1 51 (51 + g)) (p := m1 51 (60 + g)) (x := zRA i) (u := u) hK
            have := zGn_le (x := zRA i) (u := u) hK g4
            unfold zG7
            split at this <;> omega
          have h4 : zGa m4 set (g + 1) := by
            refine ⟨⟨zRw_X f451 hR, fun k k0 k1 => ?_, by rw [f4 50 8 (by omega) (by omega)]; exact h82, by rw [f49]; exact h9⟩, by rw [f451]; omega, fun k k1 k2 => ?_, fun u u0 u1 => ?_, by rw [f46]; exact hM, by rw [f45]; exact hF⟩
            · rw [f451] at k1
              rw [f4 53 k (by omega) (by omega), hX 53 k (by omega) (by omega)]
              exact hA k k0 k1
            · rw [f451] at k1
              rw [f451, f451, f45]
              exact hS k k1 k2
            · rw [f451] at u1
              have q1 := hP u u0 u1
              have q2 := hgr u
              rw [f454, f451]
              omega
          have eF4 : zFo7 m4 set n' (g.toNat + 1) = F (zRA i) := by
            rw [← hFd]
            unfold zFo7
            rw [zGl7_51 f451, f451]
            exact zFo_congr (fun u _ _ => zRm_b hR f451 f45 f46 f454 ⟨hg.1, hlt⟩ ho hp)
          (first
    | (with_reducible apply z_nm; (case he => repeat (with_reducible first | exact zv_l _ | exact zv_r | apply zv_add | apply zv_sub | apply zv_mul | apply zv_neg | apply zv_or)))
    | (with_reducible apply z_b_ck; (case h => with_unfolding_all rfl))
    | (with_reducible apply z_I; (case h => first | with_unfolding_all rfl); (case hy => first | ((simp (disch := omega) only [zU_c, zU_e, zU_k, zF_c, zF_i, zF_o, zW_o, zW_i, zC_c, zC_i, zC_o]); rfl) | rfl))
    | (with_reducible apply z_b_R; (case h => first | with_unfolding_all rfl))
    | (with_reducible apply z_L; (case he => repeat (with_reducible first | exact zv_l _ | exact zv_r | apply zv_add | apply zv_sub | apply zv_mul | apply zv_neg | apply zv_or)); (case hn => with_reducible first | assumption | exact zl_2 | exact zl_5 | exact zl_6 | exact zl_8 | exact zl_9 | exact zl_51 | exact zl_53 | exact zl_54 | exact zl_55 | exact zl_60); (case h => omega); (case hy => first | ((simp (disch := omega) only [zU_c, zU_e, zU_k, zF_c, zF_i, zF_o, zW_o, zW_i, zC_c, zC_i, zC_o]); rfl) | rfl))
    | (with_reducible apply z_S; (case he => repeat (with_reducible first | exact zv_l _ | exact zv_r | apply zv_add | apply zv_sub | apply zv_mul | apply zv_neg | apply zv_or)); (case hg => repeat (with_reducible first | exact zv_l _ | exact zv_r | apply zv_add | apply zv_sub | apply zv_mul | apply zv_neg | apply zv_or)); (case hn => with_reducible first | assumption | exact zl_2 | exact zl_5 | exact zl_6 | exact zl_8 | exact zl_9 | exact zl_51 | exact zl_53 | exact zl_54 | exact zl_55 | exact zl_60); (case h => omega))
    | with_reducible refine z_bz ?_
    | with_reducible refine z_bzE ?_
    | (with_reducible apply z_bzl; (case h => omega))
    | (with_reducible apply z_7has; (case e1 => repeat (with_reducible first | exact zv_l _ | exact zv_r | apply zv_add | apply zv_sub | apply zv_mul | apply zv_neg | apply zv_or)); (case e2 => repeat (with_reducible first | exact zv_l _ | exact zv_r | apply zv_add | apply zv_sub | apply zv_mul | apply zv_neg | apply zv_or)); (case r1 => first | omega | ((simp (disch := omega) only [zU_c, zU_e, zU_k, zF_c, zF_i, zF_o, zW_o, zW_i, zC_c, zC_i, zC_o]); omega)); (case r2 => first | omega | ((simp (disch := omega) only [zU_c, zU_e, zU_k, zF_c, zF_i, zF_o, zW_o, zW_i, zC_c, zC_i, zC_o]); omega)))
    | (with_reducible apply z_7results; (case r1 => first | omega | ((simp (disch := omega) only [zU_c, zU_e, zU_k, zF_c, zF_i, zF_o, zW_o, zW_i, zC_c, zC_i, zC_o]); omega)))
    | (with_reducible apply z_7resultAt; (case e1 => repeat (with_reducible first | exact zv_l _ | exact zv_r | apply zv_add | apply zv_sub | apply zv_mul | apply zv_neg | apply zv_or)); (case r1 => first | omega | ((simp (disch := omega) only [zU_c, zU_e, zU_k, zF_c, zF_i, zF_o, zW_o, zW_i, zC_c, zC_i, zC_o]); omega)))
    | (with_reducible apply z_7brings; (case e1 => repeat (with_reducible first | exact zv_l _ | exact zv_r | apply zv_add | apply zv_sub | apply zv_mul | apply zv_neg | apply zv_or)); (case e2 => repeat (with_reducible first | exact zv_l _ | exact zv_r | apply zv_add | apply zv_sub | apply zv_mul | apply zv_neg | apply zv_or)); (case e3 => repeat (with_reducible first | exact zv_l _ | exact zv_r | apply zv_add | apply zv_sub | apply zv_mul | apply zv_neg | apply zv_or)); (case r1 => first | omega | ((simp (disch := omega) only [zU_c, zU_e, zU_k, zF_c, zF_i, zF_o, zW_o, zW_i, zC_c, zC_i, zC_o]); omega)); (case r2 => first | omega | ((simp (disch := omega) only [zU_c, zU_e, zU_k, zF_c, zF_i, zF_o, zW_o, zW_i, zC_c, zC_i, zC_o]); omega)); (case r3 => first | omega | ((simp (disch := omega) only [zU_c, zU_e, zU_k, zF_c, zF_i, zF_o, zW_o, zW_i, zC_c, zC_i, zC_o]); omega)); (case r4 => first | omega | ((simp (disch := omega) only [zU_c, zU_e, zU_k, zF_c, zF_i, zF_o, zW_o, zW_i, zC_c, zC_i, zC_o]); omega)); (case r5 => first | omega | ((simp (disch := omega) only [zU_c, zU_e, zU_k, zF_c, zF_i, zF_o, zW_o, zW_i, zC_c, zC_i, zC_o]); omega)); (case r6 => first | omega | ((simp (disch := omega) only [zU_c, zU_e, zU_k, zF_c, zF_i, zF_o, zW_o, zW_i, zC_c, zC_i, zC_o]); omega)))
    | (with_reducible apply z_7isTooMuch; (case r1 => first | omega | ((simp (disch := omega) only [zU_c, zU_e, zU_k, zF_c, zF_i, zF_o, zW_o, zW_i, zC_c, zC_i, zC_o]); omega)); intro _ _ _)
    | (with_reducible apply z_7notesDrawn; (case r1 => first | omega | ((simp (disch := omega) only [zU_c, zU_e, zU_k, zF_c, zF_i, zF_o, zW_o, zW_i, zC_c, zC_i, zC_o]); omega)); (case r2 => first | omega | ((simp (disch := omega) only [zU_c, zU_e, zU_k, zF_c, zF_i, zF_o, zW_o, zW_i, zC_c, zC_i, zC_o]); omega)); (case a1 => assumption); intro _ _ _))
          rw [show zI g + 1 = zI (g + 1) from zv_add rfl (zv_l 1)]
          refine z_call (hrec m4 h4 (f451 1)) (fun v m5 hv => ?_)
          unfold zGp at hv
          rw [f451, en2, eg, eF4, f49] at hv
          obtain ⟨rfl, hX5, h85, hoff5, hrun5⟩ := hv
          have e551 : ∀ j, m5 51 j = m1 51 j := fun j => by rw [hX5 51 j (by omega) (by omega), f451]
          refine z_nm (x := zOr s (zB ((F (zRA i)).isSome = true))) (zv_or rfl rfl) ?_
          refine z_7brings (k := g) (res := zRA i) (x := -1) rfl rfl (show (-1 : Int32) = zI (-1) from rfl) (by omega) hra (by rw [e551]; omega) (by rw [e551]; omega) (by rw [e551, e551]; exact g4) (by rw [e551]; exact hK) ?_
          repeat' (first
    | (with_reducible apply z_nm; (case he => repeat (with_reducible first | exact zv_l _ | exact zv_r | apply zv_add | apply zv_sub | apply zv_mul | apply zv_neg | apply zv_or)))
    | (with_reducible apply z_b_ck; (case h => with_unfolding_all rfl))
    | (with_reducible apply z_I; (case h => first | with_unfolding_all rfl); (case hy => first | ((simp (disch := omega) only [zU_c, zU_e, zU_k, zF_c, zF_i, zF_o, zW_o, zW_i, zC_c, zC_i, zC_o]); rfl) | rfl))
    | (with_reducible apply z_b_R; (case h => first | with_unfolding_all rfl))
    | (with_reducible apply z_L; (case he => repeat (with_reducible first | exact zv_l _ | exact zv_r | apply zv_add | apply zv_sub | apply zv_mul | apply zv_neg | apply zv_or)); (case hn => with_reducible first | assumption | exact zl_2 | exact zl_5 | exact zl_6 | exact zl_8 | exact zl_9 | exact zl_51 | exact zl_53 | exact zl_54 | exact zl_55 | exact zl_60); (case h => omega); (case hy => first | ((simp (disch := omega) only [zU_c, zU_e, zU_k, zF_c, zF_i, zF_o, zW_o, zW_i, zC_c, zC_i, zC_o]); rfl) | rfl))
    | (with_reducible apply z_S; (case he => repeat (with_reducible first | exact zv_l _ | exact zv_r | apply zv_add | apply zv_sub | apply zv_mul | apply zv_neg | apply zv_or)); (case hg => repeat (with_reducible first | exact zv_l _ | exact zv_r | apply zv_add | apply zv_sub | apply zv_mul | apply zv_neg | apply zv_or)); (case hn => with_reducible first | assumption | exact zl_2 | exact zl_5 | exact zl_6 | exact zl_8 | exact zl_9 | exact zl_51 | exact zl_53 | exact zl_54 | exact zl_55 | exact zl_60); (case h => omega))
    | with_reducible refine z_bz ?_
    | with_reducible refine z_bzE ?_
    | (with_reducible apply z_bzl; (case h => omega))
    | (with_reducible apply z_7has; (case e1 => repeat (with_reducible first | exact zv_l _ | exact zv_r | apply zv_add | apply zv_sub | apply zv_mul | apply zv_neg | apply zv_or)); (case e2 => repeat (with_reducible first | exact zv_l _ | exact zv_r | apply zv_add | apply zv_sub | apply zv_mul | apply zv_neg | apply zv_or)); (case r1 => first | omega | ((simp (disch := omega) only [zU_c, zU_e, zU_k, zF_c, zF_i, zF_o, zW_o, zW_i, zC_c, zC_i, zC_o]); omega)); (case r2 => first | omega | ((simp (disch := omega) only [zU_c, zU_e, zU_k, zF_c, zF_i, zF_o, zW_o, zW_i, zC_c, zC_i, zC_o]); omega)))
    | (with_reducible apply z_7results; (case r1 => first | omega | ((simp (disch := omega) only [zU_c, zU_e, zU_k, zF_c, zF_i, zF_o, zW_o, zW_i, zC_c, zC_i, zC_o]); omega)))
    | (with_reducible apply z_7resultAt; (case e1 => repeat (with_reducible first | exact zv_l _ | exact zv_r | apply zv_add | apply zv_sub | apply zv_mul | apply zv_neg | apply zv_or)); (case r1 => first | omega | ((simp (disch := omega) only [zU_c, zU_e, zU_k, zF_c, zF_i, zF_o, zW_o, zW_i, zC_c, zC_i, zC_o]); omega)))
    | (with_reducible apply z_7brings; (case e1 => repeat (with_reducible first | exact zv_l _ | exact zv_r | apply zv_add | apply zv_sub | apply zv_mul | apply zv_neg | apply zv_or)); (case e2 => repeat (with_reducible first | exact zv_l _ | exact zv_r | apply zv_add | apply zv_sub | apply zv_mul | apply zv_neg | apply zv_or)); (case e3 => repeat (with_reducible first | exact zv_l _ | exact zv_r | apply zv_add | apply zv_sub | apply zv_mul | apply zv_neg | apply zv_or)); (case r1 => first | omega | ((simp (disch := omega) only [zU_c, zU_e, zU_k, zF_c, zF_i, zF_o, zW_o, zW_i, zC_c, zC_i, zC_o]); omega)); (case r2 => first | omega | ((simp (disch := omega) only [zU_c, zU_e, zU_k, zF_c, zF_i, zF_o, zW_o, zW_i, zC_c, zC_i, zC_o]); omega)); (case r3 => first | omega | ((simp (disch := omega) only [zU_c, zU_e, zU_k, zF_c, zF_i, zF_o, zW_o, zW_i, zC_c, zC_i, zC_o]); omega)); (case r4 => first | omega | ((simp (disch := omega) only [zU_c, zU_e, zU_k, zF_c, zF_i, zF_o, zW_o, zW_i, zC_c, zC_i, zC_o]); omega)); (case r5 => first | omega | ((simp (disch := omega) only [zU_c, zU_e, zU_k, zF_c, zF_i, zF_o, zW_o, zW_i, zC_c, zC_i, zC_o]); omega)); (case r6 => first | omega | ((simp (disch := omega) only [zU_c, zU_e, zU_k, zF_c, zF_i, zF_o, zW_o, zW_i, zC_c, zC_i, zC_o]); omega)))
    | (with_reducible apply z_7isTooMuch; (case r1 => first | omega | ((simp (disch := omega) only [zU_c, zU_e, zU_k, zF_c, zF_i, zF_o, zW_o, zW_i, zC_c, zC_i, zC_o]); omega)); intro _ _ _)
    | (with_reducible apply z_7notesDrawn; (case r1 => first | omega | ((simp (disch := omega) only [zU_c, zU_e, zU_k, zF_c, zF_i, zF_o, zW_o, zW_i, zC_c, zC_i, zC_o]); omega)); (case r2 => first | omega | ((simp (disch := omega) only [zU_c, zU_e, zU_k, zF_c, zF_i, zF_o, zW_o, zW_i, zC_c, zC_i, zC_o]); omega)); (case a1 => assumption); intro _ _ _))
          have f6 : ∀ c j, ¬ c = 54 → zAw m5 54 (fun t => zG7 m5 g (zRA i) t * -1) c j = m5 c j := fun c j a => zAw_c a
          have hFs : zFp F (i + 1) = (match zFp F i with | some l => some l | none => (F (zRA i)).map (fun l => zRA i :: l)) := rfl
          refine hk2 _ _ _ (by omega) ⟨zOr s (zB ((F (zRA i)).isSome = true)), i + 1, rfl, by omega, rfl, ?_, fun c j a b => ?_, ?_, fun k hk => ?_, fun hq l hl => ?_⟩
          · rw [hFs, hs1]
            cases zFp F i with
            | some l =>
              have : zB ((some l).isSome = true) = 1 := zB_p rfl
              rw [this]
              cases F (zRA i) with
              | some l' => exact (by decide : zOr 1 1 = 1)
              | none => exact (by decide : zOr 1 0 = 1)
            | none =>
              have : zB ((none : Option (List Int)).isSome = true) = 0 := zB_n (by simp)
              rw [this]
              cases F (zRA i) with
              | some l' => exact (by decide : zOr 0 1 = 1)
              | none => exact (by decide : zOr 0 0 = 0)
          · by_cases hc : c = 54
            · subst hc
              rw [zAw_q, hX5 54 j (by omega) (by omega), f454]
              unfold zG7
              rw [e551, e551, e551]
              omega
            · rw [f6 c j hc, hX5 c j a b, f4 c j hc a, hX c j a b]
          · rw [f6 50 8 (by omega)]
            exact h85
          · rw [f6 55 k (by omega), hoff5 k (fun x hx => hk x (by simp [hx])), f455 k (by have := hk g.toNat (by simp); omega)]
            exact hoff k hk
          · rw [hs1] at hs0
            have hn : zFp F i = none := by
              cases hc : zFp F i with
              | none => rfl
              | some l' =>
                have := hs0 hq
                rw [hc] at this
                have e1 : zB ((some l').isSome = true) = 1 := zB_p rfl
                exfalso
                omega
            rw [hFs, hn] at hl
            cases hc : F (zRA i) with
            | none =>
              rw [hc] at hl
              cases hl
            | some l' =>
              rw [hc] at hl
              have hl : zRA i :: l' = l := Option.some.inj hl
              subst hl
              refine ⟨?_, zRq_congr (fun k _ => f6 55 (k : Int) (by omega)) (hrun5 hq l' hc)⟩
              rw [eg2, f6 55 g (by omega), hoff5 g (fun x hx => hrest x hx), f455g]
        unfold f_X7_goes_47
        dsimp only
        refine z_7results h2.1.1.2.2 ?_
        have eR : (if m2 51 2 = 0 then (2 : Int) else 3) = (R : Int) := by
          rw [e51, ← hRd]
          split <;> rfl
        rw [eR]
        refine z_le (x := (R : Int)) (y := (i : Int)) rfl rfl (by omega) (by omega) (fun hle => ?_) (fun hle => ?_)
        · have : i = R := by omega
          exact hexit (by rw [this])
        · have h29 : m2 50 9 = m1 50 9 := hX 50 9 (by omega) (by omega)
          (first
    | (with_reducible apply z_nm; (case he => repeat (with_reducible first | exact zv_l _ | exact zv_r | apply zv_add | apply zv_sub | apply zv_mul | apply zv_neg | apply zv_or)))
    | (with_reducible apply z_b_ck; (case h => with_unfolding_all rfl))
    | (with_reducible apply z_I; (case h => first | with_unfolding_all rfl); (case hy => first | ((simp (disch := omega) only [zU_c, zU_e, zU_k, zF_c, zF_i, zF_o, zW_o, zW_i, zC_c, zC_i, zC_o]); rfl) | rfl))
    | (with_reducible apply z_b_R; (case h => first | with_unfolding_all rfl))
    | (with_reducible apply z_L; (case he => repeat (with_reducible first | exact zv_l _ | exact zv_r | apply zv_add | apply zv_sub | apply zv_mul | apply zv_neg | apply zv_or)); (case hn => with_reducible first | assumption | exact zl_2 | exact zl_5 | exact zl_6 | exact zl_8 | exact zl_9 | exact zl_51 | exact zl_53 | exact zl_54 | exact zl_55 | exact zl_60); (case h => omega); (case hy => first | ((simp (disch := omega) only [zU_c, zU_e, zU_k, zF_c, zF_i, zF_o, zW_o, zW_i, zC_c, zC_i, zC_o]); rfl) | rfl))
    | (with_reducible apply z_S; (case he => repeat (with_reducible first | exact zv_l _ | exact zv_r | apply zv_add | apply zv_sub | apply zv_mul | apply zv_neg | apply zv_or)); (case hg => repeat (with_reducible first | exact zv_l _ | exact zv_r | apply zv_add | apply zv_sub | apply zv_mul | apply zv_neg | apply zv_or)); (case hn => with_reducible first | assumption | exact zl_2 | exact zl_5 | exact zl_6 | exact zl_8 | exact zl_9 | exact zl_51 | exact zl_53 | exact zl_54 | exact zl_55 | exact zl_60); (case h => omega))
    | with_reducible refine z_bz ?_
    | with_reducible refine z_bzE ?_
    | (with_reducible apply z_bzl; (case h => omega))
    | (with_reducible apply z_7has; (case e1 => repeat (with_reducible first | exact zv_l _ | exact zv_r | apply zv_add | apply zv_sub | apply zv_mul | apply zv_neg | apply zv_or)); (case e2 => repeat (with_reducible first | exact zv_l _ | exact zv_r | apply zv_add | apply zv_sub | apply zv_mul | apply zv_neg | apply zv_or)); (case r1 => first | omega | ((simp (disch := omega) only [zU_c, zU_e, zU_k, zF_c, zF_i, zF_o, zW_o, zW_i, zC_c, zC_i, zC_o]); omega)); (case r2 => first | omega | ((simp (disch := omega) only [zU_c, zU_e, zU_k, zF_c, zF_i, zF_o, zW_o, zW_i, zC_c, zC_i, zC_o]); omega)))
    | (with_reducible apply z_7results; (case r1 => first | omega | ((simp (disch := omega) only [zU_c, zU_e, zU_k, zF_c, zF_i, zF_o, zW_o, zW_i, zC_c, zC_i, zC_o]); omega)))
    | (with_reducible apply z_7resultAt; (case e1 => repeat (with_reducible first | exact zv_l _ | exact zv_r | apply zv_add | apply zv_sub | apply zv_mul | apply zv_neg | apply zv_or)); (case r1 => first | omega | ((simp (disch := omega) only [zU_c, zU_e, zU_k, zF_c, zF_i, zF_o, zW_o, zW_i, zC_c, zC_i, zC_o]); omega)))
    | (with_reducible apply z_7brings; (case e1 => repeat (with_reducible first | exact zv_l _ | exact zv_r | apply zv_add | apply zv_sub | apply zv_mul | apply zv_neg | apply zv_or)); (case e2 => repeat (with_reducible first | exact zv_l _ | exact zv_r | apply zv_add | apply zv_sub | apply zv_mul | apply zv_neg | apply zv_or)); (case e3 => repeat (with_reducible first | exact zv_l _ | exact zv_r | apply zv_add | apply zv_sub | apply zv_mul | apply zv_neg | apply zv_or)); (case r1 => first | omega | ((simp (disch := omega) only [zU_c, zU_e, zU_k, zF_c, zF_i, zF_o, zW_o, zW_i, zC_c, zC_i, zC_o]); omega)); (case r2 => first | omega | ((simp (disch := omega) only [zU_c, zU_e, zU_k, zF_c, zF_i, zF_o, zW_o, zW_i, zC_c, zC_i, zC_o]); omega)); (case r3 => first | omega | ((simp (disch := omega) only [zU_c, zU_e, zU_k, zF_c, zF_i, zF_o, zW_o, zW_i, zC_c, zC_i, zC_o]); omega)); (case r4 => first | omega | ((simp (disch := omega) only [zU_c, zU_e, zU_k, zF_c, zF_i, zF_o, zW_o, zW_i, zC_c, zC_i, zC_o]); omega)); (case r5 => first | omega | ((simp (disch := omega) only [zU_c, zU_e, zU_k, zF_c, zF_i, zF_o, zW_o, zW_i, zC_c, zC_i, zC_o]); omega)); (case r6 => first | omega | ((simp (disch := omega) only [zU_c, zU_e, zU_k, zF_c, zF_i, zF_o, zW_o, zW_i, zC_c, zC_i, zC_o]); omega)))
    | (with_reducible apply z_7isTooMuch; (case r1 => first | omega | ((simp (disch := omega) only [zU_c, zU_e, zU_k, zF_c, zF_i, zF_o, zW_o, zW_i, zC_c, zC_i, zC_o]); omega)); intro _ _ _)
    | (with_reducible apply z_7notesDrawn; (case r1 => first | omega | ((simp (disch := omega) only [zU_c, zU_e, zU_k, zF_c, zF_i, zF_o, zW_o, zW_i, zC_c, zC_i, zC_o]); omega)); (case r2 => first | omega | ((simp (disch := omega) only [zU_c, zU_e, zU_k, zF_c, zF_i, zF_o, zW_o, zW_i, zC_c, zC_i, zC_o]); omega)); (case a1 => assumption); intro _ _ _))
          refine z_eq (x := m2 50 9) (y := 0) rfl rfl (by omega) (by omega) (fun hw => ?_) (fun hw => ?_)
          · refine z_eq (x := s) (y := 0) rfl rfl (by omega) (by omega) (fun h0 => ?_) (fun h0 => ?_)
            · exact hmain (by omega) (fun _ => h0)
            · refine hexit ?_
              cases hc : zFp F i with
              | none =>
                rw [hc] at hs1
                exact absurd hs1 (by rw [zB_n (by simp)]; exact h0)
              | some l => exact (zFp_mono hc iR).symm
          · exact hmain (by omega) (fun q => by exfalso; omega)
  · refine ⟨_, _, rfl, ?_, zGx_r _, h8, fun _ _ => rfl, fun _ l hl => ?_⟩
    · have : ¬ (zFo7 m1 set (m1 51 1 - g).toNat g.toNat).isSome = true := fun q => by
        obtain ⟨xs, hx⟩ := zFo_iff.mp q
        exact hnot (fun u u0 u1 => Int.le_trans (zTo_0 hK _ _) (hx.2.2 u u0 u1))
      rw [zB_n this]
      rfl
    · exfalso
      have hx := zFo_some hl
      exact hnot (fun u u0 u1 => Int.le_trans (zTo_0 hK _ _) (hx.2.2 u u0 u1))
theorem s7_goesA {m : zMe} {g : Int} {set : Nat} (h : zGa m set g) (hs : set < 512) : zOk (f_X7_goes 12 50 (zI g) (zI (set : Int)) (zM m)) (zGp m set g) := by
  have hN := h.1.1.1.2.1
  refine z_lp (fun n v m1 => ∃ g : Int, v = (50, zI g, zI (set : Int)) ∧ n = (m1 51 1 - g).toNat ∧ zGa m1 set g) (fun v m1 a m2 => ∀ g : Int, v = (50, zI g, zI (set : Int)) → (0 ≤ g ∧ g ≤ 9) → zGp m1 set g a m2) ?_ 12 (m 51 1 - g).toNat (50, zI g, zI (set : Int)) m (by have := h.2.1; omega) ⟨g, rfl, rfl, h⟩ |>.mono (fun v m' q => q g rfl (by have := h.2.1; omega))
  rintro n v m1 k ⟨i, rfl, rfl, hi⟩ hk
  have hgi := hi.2.1
  have hN1 := hi.1.1.1.2.1
  refine zOk.mono (s7_goes_r hi hs (fun m' hm he => ?_)) (fun a m2 q i' e' hi' => ?_)
  · have hgm := hm.2.1
    exact zOk.mono (hk _ _ _ (by omega) ⟨i + 1, rfl, rfl, hm⟩) (fun a m2 q => q (i + 1) rfl (by omega))
  · have e : i' = i := by
      have e1 : (zI i, zI (set : Int)) = (zI i', zI (set : Int)) := (Prod.mk.inj e').2
      have e'' : zI i = zI i' := (Prod.mk.inj e1).1
      exact ((zI_inj (by omega) (by omega)).mp e'').symm
    subst e
    exact q
