/-! the reference's search over all runs: the best drawn -/
def zDkp (m : zMe) (k : Nat) : Prop := (k : Int) < m 51 1 ∧ m 53 (k : Int) = -1 ∧ zI (m 55 (k : Int)) = 0
/-- drawn games of a run that goes on so from g -/
def zPd (m : zMe) (set n g : Nat) (b : Nat) : Prop := (∀ k : Nat, ¬ k ∈ zSg set n g → (b.testBit k = true ↔ zDkp m k)) ∧ ∃ xs, zFi (m 51 2) (if m 51 2 = 0 then 0 else 1) (zGl7 m (zSg set n g)) (zRm m) xs ∧ zAgr b (zSg set n g) xs
def zGb (m : zMe) (set : Nat) (g : Int) (v : Int32) (m2 : zMe) : Prop := (v = zI 0 ∨ v = zI 1) ∧ zGx m m2 ∧ (-1 ≤ m2 50 8 ∧ m2 50 8 < 512) ∧ (∀ k : Int, (∀ x, x ∈ zSg set (m 51 1 - g).toNat g.toNat → ¬ k = (x : Int)) → m2 55 k = m 55 k) ∧ zBb (zPd m set (m 51 1 - g).toNat g.toNat) (m 50 8) (m2 50 8)
def zGc (m : zMe) (set : Nat) (g : Int) : Prop := zGa m set g ∧ m 50 9 = 1 ∧ ∀ k : Nat, (k : Int) < m 51 1 → set.testBit k = true → m 53 (k : Int) = -1
theorem zDkn_b {m : zMe} (hN : 0 ≤ m 51 1) (b : Nat) : b = zBn (m 51 1).toNat (zDkn m) ↔ ∀ k, b.testBit k = true ↔ zDkp m k := by
  have h : ∀ k, (zBn (m 51 1).toNat (zDkn m)).testBit k = true ↔ zDkp m k := fun k => by
    rw [zBn_bit]
    unfold zDkn zDkp
    rw [Bool.and_eq_true, decide_eq_true_iff, decide_eq_true_iff]
    constructor
    · rintro ⟨a, b⟩
      exact ⟨by omega, b⟩
    · rintro ⟨a, b⟩
      exact ⟨by omega, b⟩
  constructor
  · intro e k
    rw [e]
    exact h k
  · intro e
    refine Nat.eq_of_testBit_eq (fun k => ?_)
    rw [Bool.eq_iff_iff, e k, h k]
theorem zRA_0 {i : Nat} (hi : i ≤ 2) : zI (zRA i) = 0 ↔ zRA i = 0 := by
  have h : 0 ≤ zRA i ∧ zRA i ≤ 3 := by
    unfold zRA
    split <;> omega
  exact zI_inj (y := 0) (by omega) (by omega)
set_option maxRecDepth 100000 in
set_option maxHeartbeats 2000000 in
theorem s7_best_r {m : zMe} {ks : Nat × Int32 × Int32 → Hp → Option (Int32 × Hp)} {g : Int} {set : Nat} (hc : zGc m set g) (hs : set < 512) (hrec : ∀ m', zGc m' set (g + 1) → m' 51 1 = m 51 1 → zOk (ks (50, zI (g + 1), zI (set : Int)) (zM m')) (zGb m' set (g + 1))) : zOk (f_X7_goes_r ks 50 (zI g) (zI (set : Int)) (zM m)) (zGb m set g) := by
  obtain ⟨h, h9w, hleft⟩ := id hc
  obtain ⟨hG, hg, hS, hP, hM, hF⟩ := id h
  obtain ⟨hR, hA, h8, h9⟩ := id hG
  have hN := hR.1.2.1
  have hT6 := hR.1.1
  have hK := hR.1.2.2
  unfold f_X7_goes_r
  (first
    | (with_reducible apply z_nm; (case he => repeat (with_reducible first | exact zv_l _ | exact zv_r | apply zv_add | apply zv_sub | apply zv_mul | apply zv_neg | apply zv_or)))
    | (with_reducible apply z_b_ck; (case h => with_unfolding_all rfl))
    | (with_reducible apply z_I; (case h => first | with_unfolding_all rfl); (case hy => first | ((simp (disch := omega) only [zU_c, zU_e, zU_k, zF_c, zF_i, zF_o, zW_o, zW_i, zC_c, zC_i, zC_o]); rfl) | rfl))
    | (with_reducible apply z_b_R; (case h => first | with_unfolding_all rfl))
    | (with_reducible apply z_L; (case he => repeat (with_reducible first | exact zv_l _ | exact zv_r | apply zv_add | apply zv_sub | apply zv_mul | apply zv_neg | apply zv_or)); (case hn => with_reducible first | assumption | exact zl_2 | exact zl_5 | exact zl_6 | exact zl_8 | exact zl_9 | exact zl_51 | exact zl_53 | exact zl_54 | exact zl_55 | exact zl_60); (case h => omega); (case hy => first | ((simp (disch := omega) only [zU_c, zU_e, zU_k, zF_c, zF_i, zF_o, zW_o, zW_i, zC_c, zC_i, zC_o]); rfl) | rfl))
    | (with_reducible apply z_S; (case he => repeat (with_reducible first | exact zv_l _ | exact zv_r | apply zv_add | apply zv_sub | apply zv_mul | apply zv_neg | apply zv_or)); (case hg => repeat (with_reducible first | exact zv_l _ | exact zv_r | apply zv_add | apply zv_sub | apply zv_mul | apply zv_neg | apply zv_or)); (case hn => with_reducible first | assumption | exact zl_2 | exact zl_5 | exact zl_6 | exact zl_8 | exact zl_9 | exact zl_51 | exact zl_53 | exact zl_54 | exact zl_55 | exact zl_60); (case h => omega))
    | with_reducible refine z_bz ?_
    | with_reducible refine z_bzE ?_
    | (with_reducible apply z_bzl; (case h => omega))
    | (with_reducible apply z_7has; (case e1 => repeat (with_reducible first | exact zv_l _ | exact zv_r | apply zv_add | apply zv_sub | apply zv_mul | apply zv_neg | apply zv_or)); (case e2 => repeat (with_reducible first | exact zv_l _ | exact zv_r | apply zv_add | apply zv_sub | apply zv_mul | apply zv_neg | apply zv_or)); (case r1 => first | omega | ((simp (disch := omega) only [zU_c, zU_e, zU_k, zF_c, zF_i, zF_o, zW_o, zW_i, zC_c, zC_i, zC_o]); omega)); (case r2 => first | omega | ((simp (disch := omega) only [zU_c, zU_e, zU_k, zF_c, zF_i, zF_o, zW_o, zW_i, zC_c, zC_i, zC_o]); omega)))
    | (with_reducible apply z_7results; (case r1 => first | omega | ((simp (disch := omega) only [zU_c, zU_e, zU_k, zF_c, zF_i, zF_o, zW_o, zW_i, zC_c, zC_i, zC_o]); omega)))
    | (with_reducible apply z_7resultAt; (case e1 => repeat (with_reducible first | exact zv_l _ | exact zv_r | apply zv_add | apply zv_sub | apply zv_mul | apply zv_neg | apply zv_or)); (case r1 => first | omega | ((simp (disch := omega) only [zU_c, zU_e, zU_k, zF_c, zF_i, zF_o, zW_o, zW_i, zC_c, zC_i, zC_o]); omega)))
    | (with_reducible apply z_7brings; (case e1 => repeat (with_reducible first | exact zv_l _ | exact zv_r | apply zv_add | apply zv_sub | apply zv_mul | apply zv_neg | apply zv_or)); (case e2 => repeat (with_reducible first | exact zv_l _ | exact zv_r | apply zv_add | apply zv_sub | apply zv_mul | apply zv_neg | apply zv_or)); (case e3 => repeat (with_reducible first | exact zv_l _ | exact zv_r | apply zv_add | apply zv_sub | apply zv_mul | apply zv_neg | apply zv_or)); (case r1 => first | omega | ((simp (disch := omega) only [zU_c, zU_e, zU_k, zF_c, zF_i, zF_o, zW_o, zW_i, zC_c, zC_i, zC_o]); omega)); (case r2 => first | omega | ((simp (disch := omega) only [zU_c, zU_e, zU_k, zF_c, zF_i, zF_o, zW_o, zW_i, zC_c, zC_i, zC_o]); omega)); (case r3 => first | omega | ((simp (disch := omega) only [zU_c, zU_e, zU_k, zF_c, zF_i, zF_o, zW_o, zW_i, zC_c, zC_i, zC_o]); omega)); (case r4 => first | omega | ((simp (disch := omega) only [zU_c, zU_e, zU_k, zF_c, zF_i, zF_o, zW_o, zW_i, zC_c, zC_i, zC_o]); omega)); (case r5 => first | omega | ((simp (disch := omega) only [zU_c, zU_e, zU_k, zF_c, zF_i, zF_o, zW_o, zW_i, zC_c, zC_i, zC_o]); omega)); (case r6 => first | omega | ((simp (disch := omega) only [zU_c, zU_e, zU_k, zF_c, zF_i, zF_o, zW_o, zW_i, zC_c, zC_i, zC_o]); omega)))
    | (with_reducible apply z_7isTooMuch; (case r1 => first | omega | ((simp (disch := omega) only [zU_c, zU_e, zU_k, zF_c, zF_i, zF_o, zW_o, zW_i, zC_c, zC_i, zC_o]); omega)); intro _ _ _)
    | (with_reducible apply z_7notesDrawn; (case r1 => first | omega | ((simp (disch := omega) only [zU_c, zU_e, zU_k, zF_c, zF_i, zF_o, zW_o, zW_i, zC_c, zC_i, zC_o]); omega)); (case r2 => first | omega | ((simp (disch := omega) only [zU_c, zU_e, zU_k, zF_c, zF_i, zF_o, zW_o, zW_i, zC_c, zC_i, zC_o]); omega)); (case a1 => assumption); intro _ _ _))
  refine z_call (s7_tooMuch hR.1.1 (fun u u0 u1 => by have := hP u u0 u1; omega) hM hF) (fun v m1 hv => ?_)
  obtain ⟨rfl, rfl⟩ := hv
  refine z_E (fun hall => ?_) (fun hnot => ?_)
  · have hall : ∀ u, 0 ≤ u → u < 6 → 0 ≤ zRm m1 u := Classical.not_not.mp hall
    (first
    | (with_reducible apply z_nm; (case he => repeat (with_reducible first | exact zv_l _ | exact zv_r | apply zv_add | apply zv_sub | apply zv_mul | apply zv_neg | apply zv_or)))
    | (with_reducible apply z_b_ck; (case h => with_unfolding_all rfl))
    | (with_reducible apply z_I; (case h => first | with_unfolding_all rfl); (case hy => first | ((simp (disch := omega) only [zU_c, zU_e, zU_k, zF_c, zF_i, zF_o, zW_o, zW_i, zC_c, zC_i, zC_o]); rfl) | rfl))
    | (with_reducible apply z_b_R; (case h => first | with_unfolding_all rfl))
    | (with_reducible apply z_L; (case he => repeat (with_reducible first | exact zv_l _ | exact zv_r | apply zv_add | apply zv_sub | apply zv_mul | apply zv_neg | apply zv_or)); (case hn => with_reducible first | assumption | exact zl_2 | exact zl_5 | exact zl_6 | exact zl_8 | exact zl_9 | exact zl_51 | exact zl_53 | exact zl_54 | exact zl_55 | exact zl_60); (case h => omega); (case hy => first | ((simp (disch := omega) only [zU_c, zU_e, zU_k, zF_c, zF_i, zF_o, zW_o, zW_i, zC_c, zC_i, zC_o]); rfl) | rfl))
    | (with_reducible apply z_S; (case he => repeat (with_reducible first | exact zv_l _ | exact zv_r | apply zv_add | apply zv_sub | apply zv_mul | apply zv_neg | apply zv_or)); (case hg => repeat (with_reducible first | exact zv_l _ | exact zv_r | apply zv_add | apply zv_sub | apply zv_mul | apply zv_neg | apply zv_or)); (case hn => with_reducible first | assumption | exact zl_2 | exact zl_5 | exact zl_6 | exact zl_8 | exact zl_9 | exact zl_51 | exact zl_53 | exact zl_54 | exact zl_55 | exact zl_60); (case h => omega))
    | with_reducible refine z_bz ?_
    | with_reducible refine z_bzE ?_
    | (with_reducible apply z_bzl; (case h => omega))
    | (with_reducible apply z_7has; (case e1 => repeat (with_reducible first | exact zv_l _ | exact zv_r | apply zv_add | apply zv_sub | apply zv_mul | apply zv_neg | apply zv_or)); (case e2 => repeat (with_reducible first | exact zv_l _ | exact zv_r | apply zv_add | apply zv_sub | apply zv_mul | apply zv_neg | apply zv_or)); (case r1 => first | omega | ((simp (disch := omega) only [zU_c, zU_e, zU_k, zF_c, zF_i, zF_o, zW_o, zW_i, zC_c, zC_i, zC_o]); omega)); (case r2 => first | omega | ((simp (disch := omega) only [zU_c, zU_e, zU_k, zF_c, zF_i, zF_o, zW_o, zW_i, zC_c, zC_i, zC_o]); omega)))
    | (with_reducible apply z_7results; (case r1 => first | omega | ((simp (disch := omega) only [zU_c, zU_e, zU_k, zF_c, zF_i, zF_o, zW_o, zW_i, zC_c, zC_i, zC_o]); omega)))
    | (with_reducible apply z_7resultAt; (case e1 => repeat (with_reducible first | exact zv_l _ | exact zv_r | apply zv_add | apply zv_sub | apply zv_mul | apply zv_neg | apply zv_or)); (case r1 => first | omega | ((simp (disch := omega) only [zU_c, zU_e, zU_k, zF_c, zF_i, zF_o, zW_o, zW_i, zC_c, zC_i, zC_o]); omega)))
    | (with_reducible apply z_7brings; (case e1 => repeat (with_reducible first | exact zv_l _ | exact zv_r | apply zv_add | apply zv_sub | apply zv_mul | apply zv_neg | apply zv_or)); (case e2 => repeat (with_reducible first | exact zv_l _ | exact zv_r | apply zv_add | apply zv_sub | apply zv_mul | apply zv_neg | apply zv_or)); (case e3 => repeat (with_reducible first | exact zv_l _ | exact zv_r | apply zv_add | apply zv_sub | apply zv_mul | apply zv_neg | apply zv_or)); (case r1 => first | omega | ((simp (disch := omega) only [zU_c, zU_e, zU_k, zF_c, zF_i, zF_o, zW_o, zW_i, zC_c, zC_i, zC_o]); omega)); (case r2 => first | omega | ((simp (disch := omega) only [zU_c, zU_e, zU_k, zF_c, zF_i, zF_o, zW_o, zW_i, zC_c, zC_i, zC_o]); omega)); (case r3 => first | omega | ((simp (disch := omega) only [zU_c, zU_e, zU_k, zF_c, zF_i, zF_o, zW_o, zW_i, zC_c, zC_i, zC_o]); omega)); (case r4 => first | omega | ((simp (disch := omega) only [zU_c, zU_e, zU_k, zF_c, zF_i, zF_o, zW_o, zW_i, zC_c, zC_i, zC_o]); omega)); (case r5 => first | omega | ((simp (disch := omega) only [zU_c, zU_e, zU_k, zF_c, zF_i, zF_o, zW_o, zW_i, zC_c, zC_i, zC_o]); omega)); (case r6 => first | omega | ((simp (disch := omega) only [zU_c, zU_e, zU_k, zF_c, zF_i, zF_o, zW_o, zW_i, zC_c, zC_i, zC_o]); omega)))
    | (with_reducible apply z_7isTooMuch; (case r1 => first | omega | ((simp (disch := omega) only [zU_c, zU_e, zU_k, zF_c, zF_i, zF_o, zW_o, zW_i, zC_c, zC_i, zC_o]); omega)); intro _ _ _)
    | (with_reducible apply z_7notesDrawn; (case r1 => first | omega | ((simp (disch := omega) only [zU_c, zU_e, zU_k, zF_c, zF_i, zF_o, zW_o, zW_i, zC_c, zC_i, zC_o]); omega)); (case r2 => first | omega | ((simp (disch := omega) only [zU_c, zU_e, zU_k, zF_c, zF_i, zF_o, zW_o, zW_i, zC_c, zC_i, zC_o]); omega)); (case a1 => assumption); intro _ _ _))
    (first
    | (with_reducible apply z_nm; (case he => repeat (with_reducible first | exact zv_l _ | exact zv_r | apply zv_add | apply zv_sub | apply zv_mul | apply zv_neg | apply zv_or)))
    | (with_reducible apply z_b_ck; (case h => with_unfolding_all rfl))
    | (with_reducible apply z_I; (case h => first | with_unfolding_all rfl); (case hy => first | ((simp (disch := omega) only [zU_c, zU_e, zU_k, zF_c, zF_i, zF_o, zW_o, zW_i, zC_c, zC_i, zC_o]); rfl) | rfl))
    | (with_reducible apply z_b_R; (case h => first | with_unfolding_all rfl))
    | (with_reducible apply z_L; (case he => repeat (with_reducible first | exact zv_l _ | exact zv_r | apply zv_add | apply zv_sub | apply zv_mul | apply zv_neg | apply zv_or)); (case hn => with_reducible first | assumption | exact zl_2 | exact zl_5 | exact zl_6 | exact zl_8 | exact zl_9 | exact zl_51 | exact zl_53 | exact zl_54 | exact zl_55 | exact zl_60); (case h => omega); (case hy => first | ((simp (disch := omega) only [zU_c, zU_e, zU_k, zF_c, zF_i, zF_o, zW_o, zW_i, zC_c, zC_i, zC_o]); rfl) | rfl))
    | (with_reducible apply z_S; (case he => repeat (with_reducible first | exact zv_l _ | exact zv_r | apply zv_add | apply zv_sub | apply zv_mul | apply zv_neg | apply zv_or)); (case hg => repeat (with_reducible first | exact zv_l _ | exact zv_r | apply zv_add | apply zv_sub | apply zv_mul | apply zv_neg | apply zv_or)); (case hn => with_reducible first | assumption | exact zl_2 | exact zl_5 | exact zl_6 | exact zl_8 | exact zl_9 | exact zl_51 | exact zl_53 | exact zl_54 | exact zl_55 | exact zl_60); (case h => omega))
    | with_reducible refine z_bz ?_
    | with_reducible refine z_bzE ?_
    | (with_reducible apply z_bzl; (case h => omega))
    | (with_reducible apply z_7has; (case e1 => repeat (with_reducible first | exact zv_l _ | exact zv_r | apply zv_add | apply zv_sub | apply zv_mul | apply zv_neg | apply zv_or)); (case e2 => repeat (with_reducible first | exact zv_l _ | exact zv_r | apply zv_add | apply zv_sub | apply zv_mul | apply zv_neg | apply zv_or)); (case r1 => first | omega | ((simp (disch := omega) only [zU_c, zU_e, zU_k, zF_c, zF_i, zF_o, zW_o, zW_i, zC_c, zC_i, zC_o]); omega)); (case r2 => first | omega | ((simp (disch := omega) only [zU_c, zU_e, zU_k, zF_c, zF_i, zF_o, zW_o, zW_i, zC_c, zC_i, zC_o]); omega)))
    | (with_reducible apply z_7results; (case r1 => first | omega | ((simp (disch := omega) only [zU_c, zU_e, zU_k, zF_c, zF_i, zF_o, zW_o, zW_i, zC_c, zC_i, zC_o]); omega)))
    | (with_reducible apply z_7resultAt; (case e1 => repeat (with_reducible first | exact zv_l _ | exact zv_r | apply zv_add | apply zv_sub | apply zv_mul | apply zv_neg | apply zv_or)); (case r1 => first | omega | ((simp (disch := omega) only [zU_c, zU_e, zU_k, zF_c, zF_i, zF_o, zW_o, zW_i, zC_c, zC_i, zC_o]); omega)))
    | (with_reducible apply z_7brings; (case e1 => repeat (with_reducible first | exact zv_l _ | exact zv_r | apply zv_add | apply zv_sub | apply zv_mul | apply zv_neg | apply zv_or)); (case e2 => repeat (with_reducible first | exact zv_l _ | exact zv_r | apply zv_add | apply zv_sub | apply zv_mul | apply zv_neg | apply zv_or)); (case e3 => repeat (with_reducible first | exact zv_l _ | exact zv_r | apply zv_add | apply zv_sub | apply zv_mul | apply zv_neg | apply zv_or)); (case r1 => first | omega | ((simp (disch := omega) only [zU_c, zU_e, zU_k, zF_c, zF_i, zF_o, zW_o, zW_i, zC_c, zC_i, zC_o]); omega)); (case r2 => first | omega | ((simp (disch := omega) only [zU_c, zU_e, zU_k, zF_c, zF_i, zF_o, zW_o, zW_i, zC_c, zC_i, zC_o]); omega)); (case r3 => first | omega | ((simp (disch := omega) only [zU_c, zU_e, zU_k, zF_c, zF_i, zF_o, zW_o, zW_i, zC_c, zC_i, zC_o]); omega)); (case r4 => first | omega | ((simp (disch := omega) only [zU_c, zU_e, zU_k, zF_c, zF_i, zF_o, zW_o, zW_i, zC_c, zC_i, zC_o]); omega)); (case r5 => first | omega | ((simp (disch := omega) only [zU_c, zU_e, zU_k, zF_c, zF_i, zF_o, zW_o, zW_i, zC_c, zC_i, zC_o]); omega)); (case r6 => first | omega | ((simp (disch := omega) only [zU_c, zU_e, zU_k, zF_c, zF_i, zF_o, zW_o, zW_i, zC_c, zC_i, zC_o]); omega)))
    | (with_reducible apply z_7isTooMuch; (case r1 => first | omega | ((simp (disch := omega) only [zU_c, zU_e, zU_k, zF_c, zF_i, zF_o, zW_o, zW_i, zC_c, zC_i, zC_o]); omega)); intro _ _ _)
    | (with_reducible apply z_7notesDrawn; (case r1 => first | omega | ((simp (disch := omega) only [zU_c, zU_e, zU_k, zF_c, zF_i, zF_o, zW_o, zW_i, zC_c, zC_i, zC_o]); omega)); (case r2 => first | omega | ((simp (disch := omega) only [zU_c, zU_e, zU_k, zF_c, zF_i, zF_o, zW_o, zW_i, zC_c, zC_i, zC_o]); omega)); (case a1 => assumption); intro _ _ _))
    (first
    | (with_reducible apply z_B; all_goals (intro _; try (exfalso; omega)))
    | (with_reducible apply z_E; all_goals intro _)
    | (with_reducible apply z_lt; (case ha => repeat (with_reducible first | exact zv_l _ | exact zv_r | apply zv_add | apply zv_sub | apply zv_mul | apply zv_neg | apply zv_or)); (case hb => repeat (with_reducible first | exact zv_l _ | exact zv_r | apply zv_add | apply zv_sub | apply zv_mul | apply zv_neg | apply zv_or)); (case hx => omega); (case hy => omega); all_goals (intro _; try (exfalso; omega)))
    | (with_reducible apply z_le; (case ha => repeat (with_reducible first | exact zv_l _ | exact zv_r | apply zv_add | apply zv_sub | apply zv_mul | apply zv_neg | apply zv_or)); (case hb => repeat (with_reducible first | exact zv_l _ | exact zv_r | apply zv_add | apply zv_sub | apply zv_mul | apply zv_neg | apply zv_or)); (case hx => omega); (case hy => omega); all_goals (intro _; try (exfalso; omega)))
    | (with_reducible apply z_eq; (case ha => repeat (with_reducible first | exact zv_l _ | exact zv_r | apply zv_add | apply zv_sub | apply zv_mul | apply zv_neg | apply zv_or)); (case hb => repeat (with_reducible first | exact zv_l _ | exact zv_r | apply zv_add | apply zv_sub | apply zv_mul | apply zv_neg | apply zv_or)); (case hx => omega); (case hy => omega); all_goals (intro _; try (exfalso; omega))))
    · rename_i hgN
      have en : (m1 51 1 - g).toNat = 0 := by omega
      refine z_call (s7_notesE hN h8 hA) (fun _ m2 hm => ?_)
      obtain ⟨x, rfl, hx, hbb⟩ := hm
      refine ⟨_, _, rfl, Or.inr rfl, fun c j a b => ?_, by rw [zU_e]; exact hx, fun k _ => zU_c (by omega), ?_⟩
      · by_cases hc : c = 50
        · subst hc
          exact zU_k (by omega)
        · exact zU_c hc
      · rw [en, zU_e]
        refine zBb_iff (fun b _ => ?_) hbb
        rw [zDkn_b hN.1]
        constructor
        · intro q
          exact ⟨fun k _ => q k, [], zFi_n.mpr ⟨rfl, hall⟩, trivial⟩
        · intro q k
          exact q.1 k (fun w => by cases w)
    · have hlt : g < m1 51 1 := by omega
      obtain ⟨n', en⟩ : ∃ n', (m1 51 1 - g).toNat = n' + 1 := ⟨(m1 51 1 - g).toNat - 1, by omega⟩
      have en2 : (m1 51 1 - (g + 1)).toNat = n' := by omega
      have eg : (g + 1).toNat = g.toNat + 1 := by omega
      have eg2 : ((g.toNat : Nat) : Int) = g := by omega
      refine z_7has rfl (i := g.toNat) (by rw [Int.toNat_of_nonneg hg.1]) hs (by omega) ?_
      refine z_B (fun hb => ?_) (fun hb => ?_)
      · have eL : zSg set (n' + 1) g.toNat = zSg set n' (g.toNat + 1) := if_neg hb
        (first
    | (with_reducible apply z_nm; (case he => repeat (with_reducible first | exact zv_l _ | exact zv_r | apply zv_add | apply zv_sub | apply zv_mul | apply zv_neg | apply zv_or)))
    | (with_reducible apply z_b_ck; (case h => with_unfolding_all rfl))
    | (with_reducible apply z_I; (case h => first | with_unfolding_all rfl); (case hy => first | ((simp (disch := omega) only [zU_c, zU_e, zU_k, zF_c, zF_i, zF_o, zW_o, zW_i, zC_c, zC_i, zC_o]); rfl) | rfl))
    | (with_reducible apply z_b_R; (case h => first | with_unfolding_all rfl))
    | (with_reducible apply z_L; (case he => repeat (with_reducible first | exact zv_l _ | exact zv_r | apply zv_add | apply zv_sub | apply zv_mul | apply zv_neg | apply zv_or)); (case hn => with_reducible first | assumption | exact zl_2 | exact zl_5 | exact zl_6 | exact zl_8 | exact zl_9 | exact zl_51 | exact zl_53 | exact zl_54 | exact zl_55 | exact zl_60); (case h => omega); (case hy => first | ((simp (disch := omega) only [zU_c, zU_e, zU_k, zF_c, zF_i, zF_o, zW_o, zW_i, zC_c, zC_i, zC_o]); rfl) | rfl))
    | (with_reducible apply z_S; (case he => repeat (with_reducible first | exact zv_l _ | exact zv_r | apply zv_add | apply zv_sub | apply zv_mul | apply zv_neg | apply zv_or)); (case hg => repeat (with_reducible first | exact zv_l _ | exact zv_r | apply zv_add | apply zv_sub | apply zv_mul | apply zv_neg | apply zv_or)); (case hn => with_reducible first | assumption | exact zl_2 | exact zl_5 | exact zl_6 | exact zl_8 | exact zl_9 | exact zl_51 | exact zl_53 | exact zl_54 | exact zl_55 | exact zl_60); (case h => omega))
    | with_reducible refine z_bz ?_
    | with_reducible refine z_bzE ?_
    | (with_reducible apply z_bzl; (case h => omega))
    | (with_reducible apply z_7has; (case e1 => repeat (with_reducible first | exact zv_l _ | exact zv_r | apply zv_add | apply zv_sub | apply zv_mul | apply zv_neg | apply zv_or)); (case e2 => repeat (with_reducible first | exact zv_l _ | exact zv_r | apply zv_add | apply zv_sub | apply zv_mul | apply zv_neg | apply zv_or)); (case r1 => first | omega | ((simp (disch := omega) only [zU_c, zU_e, zU_k, zF_c, zF_i, zF_o, zW_o, zW_i, zC_c, zC_i, zC_o]); omega)); (case r2 => first | omega | ((simp (disch := omega) only [zU_c, zU_e, zU_k, zF_c, zF_i, zF_o, zW_o, zW_i, zC_c, zC_i, zC_o]); omega)))
    | (with_reducible apply z_7results; (case r1 => first | omega | ((simp (disch := omega) only [zU_c, zU_e, zU_k, zF_c, zF_i, zF_o, zW_o, zW_i, zC_c, zC_i, zC_o]); omega)))
    | (with_reducible apply z_7resultAt; (case e1 => repeat (with_reducible first | exact zv_l _ | exact zv_r | apply zv_add | apply zv_sub | apply zv_mul | apply zv_neg | apply zv_or)); (case r1 => first | omega | ((simp (disch := omega) only [zU_c, zU_e, zU_k, zF_c, zF_i, zF_o, zW_o, zW_i, zC_c, zC_i, zC_o]); omega)))
    | (with_reducible apply z_7brings; (case e1 => repeat (with_reducible first | exact zv_l _ | exact zv_r | apply zv_add | apply zv_sub | apply zv_mul | apply zv_neg | apply zv_or)); (case e2 => repeat (with_reducible first | exact zv_l _ | exact zv_r | apply zv_add | apply zv_sub | apply zv_mul | apply zv_neg | apply zv_or)); (case e3 => repeat (with_reducible first | exact zv_l _ | exact zv_r | apply zv_add | apply zv_sub | apply zv_mul | apply zv_neg | apply zv_or)); (case r1 => first | omega | ((simp (disch := omega) only [zU_c, zU_e, zU_k, zF_c, zF_i, zF_o, zW_o, zW_i, zC_c, zC_i, zC_o]); omega)); (case r2 => first | omega | ((simp (disch := omega) only [zU_c, zU_e, zU_k, zF_c, zF_i, zF_o, zW_o, zW_i, zC_c, zC_i, zC_o]); omega)); (case r3 => first | omega | ((simp (disch := omega) only [zU_c, zU_e, zU_k, zF_c, zF_i, zF_o, zW_o, zW_i, zC_c, zC_i, zC_o]); omega)); (case r4 => first | omega | ((simp (disch := omega) only [zU_c, zU_e, zU_k, zF_c, zF_i, zF_o, zW_o, zW_i, zC_c, zC_i, zC_o]); omega)); (case r5 => first | omega | ((simp (disch := omega) only [zU_c, zU_e, zU_k, zF_c, zF_i, zF_o, zW_o, zW_i, zC_c, zC_i, zC_o]); omega)); (case r6 => first | omega | ((simp (disch := omega) only [zU_c, zU_e, zU_k, zF_c, zF_i, zF_o, zW_o, zW_i, zC_c, zC_i, zC_o]); omega)))
    | (with_reducible apply z_7isTooMuch; (case r1 => first | omega | ((simp (disch := omega) only [zU_c, zU_e, zU_k, zF_c, zF_i, zF_o, zW_o, zW_i, zC_c, zC_i, zC_o]); omega)); intro _ _ _)
    | (with_reducible apply z_7notesDrawn; (case r1 => first | omega | ((simp (disch := omega) only [zU_c, zU_e, zU_k, zF_c, zF_i, zF_o, zW_o, zW_i, zC_c, zC_i, zC_o]); omega)); (case r2 => first | omega | ((simp (disch := omega) only [zU_c, zU_e, zU_k, zF_c, zF_i, zF_o, zW_o, zW_i, zC_c, zC_i, zC_o]); omega)); (case a1 => assumption); intro _ _ _))
        rw [show zI g + 1 = zI (g + 1) from zv_add rfl (zv_l 1)]
        refine z_call (hrec m1 ⟨⟨hG, by omega, hS, fun u u0 u1 => by have := hP u u0 u1; omega, hM, hF⟩, h9w, hleft⟩ rfl) (fun v m2 hv => ?_)
        unfold zGb zPd at hv ⊢
        rw [en2, eg] at hv
        rw [en, eL]
        obtain ⟨hv01, hv⟩ := hv
        obtain ⟨v', hv', hw01⟩ : ∃ v' : Int, v = zI v' ∧ (v' = 0 ∨ v' = 1) := by
          rcases hv01 with q | q
          · exact ⟨0, q, Or.inl rfl⟩
          · exact ⟨1, q, Or.inr rfl⟩
        rw [hv']
        refine z_bzl2 hw01 ?_
        refine ⟨_, _, rfl, ?_, hv⟩
        rcases hw01 with q | q
        · exact Or.inl (by rw [q])
        · exact Or.inr (by rw [q])
      · obtain ⟨ho, hp⟩ := hS g.toNat (by omega) hb
        have h53g := hleft g.toNat (by omega) hb
        rw [eg2] at ho hp h53g
        obtain ⟨g1, g2, g3, g4, g5⟩ := hR.2.2 g hg.1 hlt
        have eL : zSg set (n' + 1) g.toNat = g.toNat :: zSg set n' (g.toNat + 1) := if_pos hb
        have hrest : ∀ x, x ∈ zSg set n' (g.toNat + 1) → ¬ g = (x : Int) := fun x hx => by
          have := zSg_in hx
          omega
        have hgS : ¬ g.toNat ∈ zSg set n' (g.toNat + 1) := fun q => hrest _ q eg2.symm
        generalize hPd : (fun (x : Int) (b : Nat) => (∀ k : Nat, ¬ k ∈ g.toNat :: zSg set n' (g.toNat + 1) → (b.testBit k = true ↔ zDkp m1 k)) ∧ (b.testBit g.toNat = true ↔ x = 0) ∧ ∃ xs, zFi (m1 51 2) (if m1 51 2 = 0 then 0 else 1) (zGl7 m1 (zSg set n' (g.toNat + 1))) (fun u => zRm m1 u - zGn (m1 51 2) (m1 51 (51 + g)) (m1 51 (60 + g)) x u) xs ∧ zAgr b (zSg set n' (g.toNat + 1)) xs) = P
        have hP' : ∀ x b, P x b ↔ ((∀ k : Nat, ¬ k ∈ g.toNat :: zSg set n' (g.toNat + 1) → (b.testBit k = true ↔ zDkp m1 k)) ∧ (b.testBit g.toNat = true ↔ x = 0) ∧ ∃ xs, zFi (m1 51 2) (if m1 51 2 = 0 then 0 else 1) (zGl7 m1 (zSg set n' (g.toNat + 1))) (fun u => zRm m1 u - zGn (m1 51 2) (m1 51 (51 + g)) (m1 51 (60 + g)) x u) xs ∧ zAgr b (zSg set n' (g.toNat + 1)) xs) := fun x b => by rw [← hPd]
        have hall2 : ∀ b, (∃ j : Nat, j < (if m1 51 2 = 0 then 2 else 3) ∧ P (zRA j) b) ↔ zPd m1 set (n' + 1) g.toNat b := fun b => by
          have e1 : (∃ j : Nat, j < (if m1 51 2 = 0 then 2 else 3) ∧ P (zRA j) b) ↔ ∃ x, zOx (if m1 51 2 = 0 then 0 else 1) x ∧ P x b := by
            rw [zOx_RA (P := fun x => P x b)]
            by_cases hk0 : m1 51 2 = 0
            · rw [if_pos hk0, if_pos hk0, if_pos rfl]
            · rw [if_neg hk0, if_neg hk0, if_neg (by omega)]
          have eG : zGl7 m1 (g.toNat :: zSg set n' (g.toNat + 1)) = (m1 51 (51 + g), m1 51 (60 + g)) :: zGl7 m1 (zSg set n' (g.toNat + 1)) := by
            show (m1 51 (51 + ((g.toNat : Nat) : Int)), m1 51 (60 + ((g.toNat : Nat) : Int))) :: zGl7 m1 (zSg set n' (g.toNat + 1)) = _
            rw [eg2]
          rw [e1]
          unfold zPd
          rw [eL, eG]
          constructor
          · rintro ⟨x, hx, hp⟩
            obtain ⟨p1, p2, xs, p3, p4⟩ := (hP' x b).mp hp
            exact ⟨p1, x :: xs, zFi_c.mpr ⟨hx, p3⟩, p2, p4⟩
          · rintro ⟨p1, ys, p3, p4⟩
            obtain ⟨x, xs, rfl, hx, p5⟩ := zFi_l p3
            exact ⟨x, hx, (hP' x b).mpr ⟨p1, p4.1, xs, p5, p4.2⟩⟩
        unfold zGb
        rw [en]
        generalize hRd : (if m1 51 2 = 0 then 2 else 3) = R at hall2
        have hR23 : R = 2 ∨ R = 3 := by
          rw [← hRd]
          split
          · exact Or.inl rfl
          · exact Or.inr rfl
        refine z_lp (fun n v m2 => ∃ (s : Int) (i : Nat), v = (50, zI g, zI (set : Int), zI s, zI (i : Int)) ∧ i ≤ R ∧ n = 3 - i ∧ (s = 0 ∨ s = 1) ∧ zGx m1 m2 ∧ (-1 ≤ m2 50 8 ∧ m2 50 8 < 512) ∧ (∀ k : Int, (∀ x, x ∈ g.toNat :: zSg set n' (g.toNat + 1) → ¬ k = (x : Int)) → m2 55 k = m1 55 k) ∧ zBb (fun b => ∃ j : Nat, j < i ∧ P (zRA j) b) (m1 50 8) (m2 50 8)) (fun _ _ v m2 => (v = zI 0 ∨ v = zI 1) ∧ zGx m1 m2 ∧ (-1 ≤ m2 50 8 ∧ m2 50 8 < 512) ∧ (∀ k : Int, (∀ x, x ∈ zSg set (n' + 1) g.toNat → ¬ k = (x : Int)) → m2 55 k = m1 55 k) ∧ zBb (zPd m1 set (n' + 1) g.toNat) (m1 50 8) (m2 50 8)) ?_ 600 3 _ _ (by omega) ⟨0, 0, rfl, by omega, rfl, Or.inl rfl, zGx_r _, h8, fun _ _ => rfl, zBb_r (fun b q => by obtain ⟨j, hj, -⟩ := q; omega)⟩
        rintro n v m2 k2 ⟨s, i, rfl, iR, rfl, hs01, hX, h82, hoff, hbb⟩ hk2
        have h2 := zGx_s hX hG h82
        have e51 : ∀ j, m2 51 j = m1 51 j := fun j => hX 51 j (by omega) (by omega)
        have hmain : i < R → zOk (f_X7_goes_67 ks k2 50 (zI g) (zI (set : Int)) (zI s) (zI (i : Int)) (zM m2)) (fun v m2 => (v = zI 0 ∨ v = zI 1) ∧ zGx m1 m2 ∧ (-1 ≤ m2 50 8 ∧ m2 50 8 < 512) ∧ (∀ k : Int, (∀ x, x ∈ zSg set (n' + 1) g.toNat → ¬ k = (x : Int)) → m2 55 k = m1 55 k) ∧ zBb (zPd m1 set (n' + 1) g.toNat) (m1 50 8) (m2 50 8)) := fun hiR => by
          unfold f_X7_goes_67
          refine z_7resultAt rfl (by omega) ?_
          have hra : 0 ≤ zRA i ∧ zRA i ≤ 2 := by
            unfold zRA
            split <;> omega
          have era : (if (i : Int) = 2 then (0 : Int) else (i : Int) + 1) = zRA i := by
            unfold zRA
            by_cases hq : i = 2
            · rw [if_pos hq, if_pos (by omega)]
            · rw [if_neg hq, if_neg (by omega)]
          rw [era]
          refine z_7brings (k := g) (res := zRA i) (x := 1) rfl rfl (zv_l 1) (by omega) hra (by rw [e51]; omega) (by rw [e51]; omega) (by rw [e51, e51]; exact g4) (by rw [e51]; exact hK) ?_
          (first
    | (with_reducible apply z_nm; (case he => repeat (with_reducible first | exact zv_l _ | exact zv_r | apply zv_add | apply zv_sub | apply zv_mul | apply zv_neg | apply zv_or)))
    | (with_reducible apply z_b_ck; (case h => with_unfolding_all rfl))
    | (with_reducible apply z_I; (case h => first | with_unfolding_all rfl); (case hy => first | ((simp (disch := omega) only [zU_c, zU_e, zU_k, zF_c, zF_i, zF_o, zW_o, zW_i, zC_c, zC_i, zC_o]); rfl) | rfl))
    | (with_reducible apply z_b_R; (case h => first | with_unfolding_all rfl))
    | (with_reducible apply z_L; (case he => repeat (with_reducible first | exact zv_l _ | exact zv_r | apply zv_add | apply zv_sub | apply zv_mul | apply zv_neg | apply zv_or)); (case hn => with_reducible first | assumption | exact zl_2 | exact zl_5 | exact zl_6 | exact zl_8 | exact zl_9 | exact zl_51 | exact zl_53 | exact zl_54 | exact zl_55 | exact zl_60); (case h => omega); (case hy => first | ((simp (disch := omega) only [zU_c, zU_e, zU_k, zF_c, zF_i, zF_o, zW_o, zW_i, zC_c, zC_i, zC_o]); rfl) | rfl))
    | (with_reducible apply z_S; (case he => repeat (with_reducible first | exact zv_l _ | exact zv_r | apply zv_add | apply zv_sub | apply zv_mul | apply zv_neg | apply zv_or)); (case hg => repeat (with_reducible first | exact zv_l _ | exact zv_r | apply zv_add | apply zv_sub | apply zv_mul | apply zv_neg | apply zv_or)); (case hn => with_reducible first | assumption | exact zl_2 | exact zl_5 | exact zl_6 | exact zl_8 | exact zl_9 | exact zl_51 | exact zl_53 | exact zl_54 | exact zl_55 | exact zl_60); (case h => omega))
    | with_reducible refine z_bz ?_
    | with_reducible refine z_bzE ?_
    | (with_reducible apply z_bzl; (case h => omega))
    | (with_reducible apply z_7has; (case e1 => repeat (with_reducible first | exact zv_l _ | exact zv_r | apply zv_add | apply zv_sub | apply zv_mul | apply zv_neg | apply zv_or)); (case e2 => repeat (with_reducible first | exact zv_l _ | exact zv_r | apply zv_add | apply zv_sub | apply zv_mul | apply zv_neg | apply zv_or)); (case r1 => first | omega | ((simp (disch := omega) only [zU_c, zU_e, zU_k, zF_c, zF_i, zF_o, zW_o, zW_i, zC_c, zC_i, zC_o]); omega)); (case r2 => first | omega | ((simp (disch := omega) only [zU_c, zU_e, zU_k, zF_c, zF_i, zF_o, zW_o, zW_i, zC_c, zC_i, zC_o]); omega)))
    | (with_reducible apply z_7results; (case r1 => first | omega | ((simp (disch := omega) only [zU_c, zU_e, zU_k, zF_c, zF_i, zF_o, zW_o, zW_i, zC_c, zC_i, zC_o]); omega)))
    | (with_reducible apply z_7resultAt; (case e1 => repeat (with_reducible first | exact zv_l _ | exact zv_r | apply zv_add | apply zv_sub | apply zv_mul | apply zv_neg | apply zv_or)); (case r1 => first | omega | ((simp (disch := omega) only [zU_c, zU_e, zU_k, zF_c, zF_i, zF_o, zW_o, zW_i, zC_c, zC_i, zC_o]); omega)))
    | (with_reducible apply z_7brings; (case e1 => repeat (with_reducible first | exact zv_l _ | exact zv_r | apply zv_add | apply zv_sub | apply zv_mul | apply zv_neg | apply zv_or)); (case e2 => repeat (with_reducible first | exact zv_l _ | exact zv_r | apply zv_add | apply zv_sub | apply zv_mul | apply zv_neg | apply zv_or)); (case e3 => repeat (with_reducible first | exact zv_l _ | exact zv_r | apply zv_add | apply zv_sub | apply zv_mul | apply zv_neg | apply zv_or)); (case r1 => first | omega | ((simp (disch := omega) only [zU_c, zU_e, zU_k, zF_c, zF_i, zF_o, zW_o, zW_i, zC_c, zC_i, zC_o]); omega)); (case r2 => first | omega | ((simp (disch := omega) only [zU_c, zU_e, zU_k, zF_c, zF_i, zF_o, zW_o, zW_i, zC_c, zC_i, zC_o]); omega)); (case r3 => first | omega | ((simp (disch := omega) only [zU_c, zU_e, zU_k, zF_c, zF_i, zF_o, zW_o, zW_i, zC_c, zC_i, zC_o]); omega)); (case r4 => first | omega | ((simp (disch := omega) only [zU_c, zU_e, zU_k, zF_c, zF_i, zF_o, zW_o, zW_i, zC_c, zC_i, zC_o]); omega)); (case r5 => first | omega | ((simp (disch := omega) only [zU_c, zU_e, zU_k, zF_c, zF_i, zF_o, zW_o, zW_i, zC_c, zC_i, zC_o]); omega)); (case r6 => first | omega | ((simp (disch := omega) only [zU_c, zU_e, zU_k, zF_c, zF_i, zF_o, zW_o, zW_i, zC_c, zC_i, zC_o]); omega)))
    | (with_reducible apply z_7isTooMuch; (case r1 => first | omega | ((simp (disch := omega) only [zU_c, zU_e, zU_k, zF_c, zF_i, zF_o, zW_o, zW_i, zC_c, zC_i, zC_o]); omega)); intro _ _ _)
    | (with_reducible apply z_7notesDrawn; (case r1 => first | omega | ((simp (disch := omega) only [zU_c, zU_e, zU_k, zF_c, zF_i, zF_o, zW_o, zW_i, zC_c, zC_i, zC_o]); omega)); (case r2 => first | omega | ((simp (disch := omega) only [zU_c, zU_e, zU_k, zF_c, zF_i, zF_o, zW_o, zW_i, zC_c, zC_i, zC_o]); omega)); (case a1 => assumption); intro _ _ _))
          refine z_S (x := g) (y := zRA i) rfl rfl zl_55 (by omega) ?_
          generalize h4d : zU (zAw m2 54 (fun t => zG7 m2 g (zRA i) t * 1)) 55 g (zRA i) = m4
          have f4 : ∀ c j, ¬ c = 54 → ¬ c = 55 → m4 c j = m2 c j := fun c j a b => by
            rw [← h4d, zU_c b, zAw_c a]
          have f451 : ∀ j, m4 51 j = m1 51 j := fun j => by rw [f4 51 j (by omega) (by omega), e51]
          have f453 : ∀ j, m4 53 j = m1 53 j := fun j => by rw [f4 53 j (by omega) (by omega), hX 53 j (by omega) (by omega)]
          have f454 : ∀ j, m4 54 j = m1 54 j + zG7 m1 g (zRA i) j * 1 := fun j => by
            rw [← h4d, zU_c (by omega), zAw_q, hX 54 j (by omega) (by omega)]
            unfold zG7
            rw [e51, e51, e51]
          have f455 : ∀ j, ¬ j = g → m4 55 j = m2 55 j := fun j hj => by
            rw [← h4d, zU_k hj, zAw_c (by omega)]
          have f455g : m4 55 g = zRA i := by rw [← h4d, zU_e]
          have f45 : m4 50 5 = m1 50 5 := by rw [f4 50 5 (by omega) (by omega), hX 50 5 (by omega) (by omega)]
          have f46 : m4 50 6 = m1 50 6 := by rw [f4 50 6 (by omega) (by omega), hX 50 6 (by omega) (by omega)]
          have f48 : m4 50 8 = m2 50 8 := f4 50 8 (by omega) (by omega)
          have f49 : m4 50 9 = m1 50 9 := by rw [f4 50 9 (by omega) (by omega), hX 50 9 (by omega) (by omega)]
          have hgr : ∀ u, 0 ≤ zG7 m1 g (zRA i) u ∧ zG7 m1 g (zRA i) u ≤ 3 := fun u => by
            have := zGn_0 (o := m1 51 (51 + g)) (p := m1 51 (60 + g)) (x := zRA i) (u := u) hK
            have := zGn_le (x := zRA i) (u := u) hK g4
            unfold zG7
            split at this <;> omega
          have h4 : zGc m4 set (g + 1) := by
            refine ⟨⟨⟨zRw_X f451 hR, fun k k0 k1 => ?_, by rw [f48]; exact h82, by rw [f49]; exact h9⟩, by rw [f451]; omega, fun k k1 k2 => ?_, fun u u0 u1 => ?_, by rw [f46]; exact hM, by rw [f45]; exact hF⟩, by rw [f49]; exact h9w, fun k k1 k2 => ?_⟩
            · rw [f451] at k1
              rw [f453]
              exact hA k k0 k1
            · rw [f451] at k1
              rw [f451, f451, f45]
              exact hS k k1 k2
            · rw [f451] at u1
              have q1 := hP u u0 u1
              have q2 := hgr u
              rw [f454, f451]
              omega
            · rw [f451] at k1
              rw [f453]
              exact hleft k k1 k2
          have ePd : ∀ b, zPd m4 set n' (g.toNat + 1) b ↔ P (zRA i) b := fun b => by
            rw [hP']
            unfold zPd
            rw [f451, zGl7_51 f451]
            have hDg : zDkp m4 g.toNat ↔ zRA i = 0 := by
              unfold zDkp
              rw [eg2, f451, f453, f455g, zRA_0 (by omega)]
              exact ⟨fun q => q.2.2, fun q => ⟨hlt, h53g, q⟩⟩
            have hDk : ∀ k : Nat, ¬ k ∈ g.toNat :: zSg set n' (g.toNat + 1) → (zDkp m4 k ↔ zDkp m1 k) := fun k hk => by
              have hkg : ¬ (k : Int) = g := fun q => hk (by rw [show k = g.toNat by omega]; simp)
              unfold zDkp
              rw [f451, f453, f455 _ hkg, hoff (k : Int) (fun x hx q => hk (by rw [show k = x by omega]; exact hx))]
            have hrm : ∀ u, zRm m4 u = zRm m1 u - zGn (m1 51 2) (m1 51 (51 + g)) (m1 51 (60 + g)) (zRA i) u := fun u => zRm_b hR f451 f45 f46 f454 ⟨hg.1, hlt⟩ ho hp
            constructor
            · rintro ⟨p1, xs, p3, p4⟩
              refine ⟨fun k hk => ?_, ?_, xs, zFi_congr (fun u _ _ => hrm u) p3, p4⟩
              · rw [p1 k (fun q => hk (List.mem_cons_of_mem _ q))]
                exact hDk k hk
              · rw [p1 g.toNat hgS]
                exact hDg
            · rintro ⟨p1, p2, xs, p3, p4⟩
              refine ⟨fun k hk => ?_, xs, zFi_congr (fun u _ _ => (hrm u).symm) p3, p4⟩
              by_cases hkg : k = g.toNat
              · subst hkg
                rw [p2]
                exact hDg.symm
              · have hk' : ¬ k ∈ g.toNat :: zSg set n' (g.toNat + 1) := fun q => by
                  rcases List.mem_cons.mp q with q | q
                  · exact hkg q
                  · exact hk q
                rw [p1 k hk']
                exact (hDk k hk').symm
          (first
    | (with_reducible apply z_nm; (case he => repeat (with_reducible first | exact zv_l _ | exact zv_r | apply zv_add | apply zv_sub | apply zv_mul | apply zv_neg | apply zv_or)))
    | (with_reducible apply z_b_ck; (case h => with_unfolding_all rfl))
    | (with_reducible apply z_I; (case h => first | with_unfolding_all rfl); (case hy => first | ((simp (disch := omega) only [zU_c, zU_e, zU_k, zF_c, zF_i, zF_o, zW_o, zW_i, zC_c, zC_i, zC_o]); rfl) | rfl))
    | (with_reducible apply z_b_R; (case h => first | with_unfolding_all rfl))
    | (with_reducible apply z_L; (case he => repeat (with_reducible first | exact zv_l _ | exact zv_r | apply zv_add | apply zv_sub | apply zv_mul | apply zv_neg | apply zv_or)); (case hn => with_reducible first | assumption | exact zl_2 | exact zl_5 | exact zl_6 | exact zl_8 | exact zl_9 | exact zl_51 | exact zl_53 | exact zl_54 | exact zl_55 | exact zl_60); (case h => omega); (case hy => first | ((simp (disch := omega) only [zU_c, zU_e, zU_k, zF_c, zF_i, zF_o, zW_o, zW_i, zC_c, zC_i, zC_o]); rfl) | rfl))
    | (with_reducible apply z_S; (case he => repeat (with_reducible first | exact zv_l _ | exact zv_r | apply zv_add | apply zv_sub | apply zv_mul | apply zv_neg | apply zv_or)); (case hg => repeat (with_reducible first | exact zv_l _ | exact zv_r | apply zv_add | apply zv_sub | apply zv_mul | apply zv_neg | apply zv_or)); (case hn => with_reducible first | assumption | exact zl_2 | exact zl_5 | exact zl_6 | exact zl_8 | exact zl_9 | exact zl_51 | exact zl_53 | exact zl_54 | exact zl_55 | exact zl_60); (case h => omega))
    | with_reducible refine z_bz ?_
    | with_reducible refine z_bzE ?_
    | (with_reducible apply z_bzl; (case h => omega))
    | (with_reducible apply z_7has; (case e1 => repeat (with_reducible first | exact zv_l _ | exact zv_r | apply zv_add | apply zv_sub | apply zv_mul | apply zv_neg | apply zv_or)); (case e2 => repeat (with_reducible first | exact zv_l _ | exact zv_r | apply zv_add | apply zv_sub | apply zv_mul | apply zv_neg | apply zv_or)); (case r1 => first | omega | ((simp (disch := omega) only [zU_c, zU_e, zU_k, zF_c, zF_i, zF_o, zW_o, zW_i, zC_c, zC_i, zC_o]); omega)); (case r2 => first | omega | ((simp (disch := omega) only [zU_c, zU_e, zU_k, zF_c, zF_i, zF_o, zW_o, zW_i, zC_c, zC_i, zC_o]); omega)))
    | (with_reducible apply z_7results; (case r1 => first | omega | ((simp (disch := omega) only [zU_c, zU_e, zU_k, zF_c, zF_i, zF_o, zW_o, zW_i, zC_c, zC_i, zC_o]); omega)))
    | (with_reducible apply z_7resultAt; (case e1 => repeat (with_reducible first | exact zv_l _ | exact zv_r | apply zv_add | apply zv_sub | apply zv_mul | apply zv_neg | apply zv_or)); (case r1 => first | omega | ((simp (disch := omega) only [zU_c, zU_e, zU_k, zF_c, zF_i, zF_o, zW_o, zW_i, zC_c, zC_i, zC_o]); omega)))
    | (with_reducible apply z_7brings; (case e1 => repeat (with_reducible first | exact zv_l _ | exact zv_r | apply zv_add | apply zv_sub | apply zv_mul | apply zv_neg | apply zv_or)); (case e2 => repeat (with_reducible first | exact zv_l _ | exact zv_r | apply zv_add | apply zv_sub | apply zv_mul | apply zv_neg | apply zv_or)); (case e3 => repeat (with_reducible first | exact zv_l _ | exact zv_r | apply zv_add | apply zv_sub | apply zv_mul | apply zv_neg | apply zv_or)); (case r1 => first | omega | ((simp (disch := omega) only [zU_c, zU_e, zU_k, zF_c, zF_i, zF_o, zW_o, zW_i, zC_c, zC_i, zC_o]); omega)); (case r2 => first | omega | ((simp (disch := omega) only [zU_c, zU_e, zU_k, zF_c, zF_i, zF_o, zW_o, zW_i, zC_c, zC_i, zC_o]); omega)); (case r3 => first | omega | ((simp (disch := omega) only [zU_c, zU_e, zU_k, zF_c, zF_i, zF_o, zW_o, zW_i, zC_c, zC_i, zC_o]); omega)); (case r4 => first | omega | ((simp (disch := omega) only [zU_c, zU_e, zU_k, zF_c, zF_i, zF_o, zW_o, zW_i, zC_c, zC_i, zC_o]); omega)); (case r5 => first | omega | ((simp (disch := omega) only [zU_c, zU_e, zU_k, zF_c, zF_i, zF_o, zW_o, zW_i, zC_c, zC_i, zC_o]); omega)); (case r6 => first | omega | ((simp (disch := omega) only [zU_c, zU_e, zU_k, zF_c, zF_i, zF_o, zW_o, zW_i, zC_c, zC_i, zC_o]); omega)))
    | (with_reducible apply z_7isTooMuch; (case r1 => first | omega | ((simp (disch := omega) only [zU_c, zU_e, zU_k, zF_c, zF_i, zF_o, zW_o, zW_i, zC_c, zC_i, zC_o]); omega)); intro _ _ _)
    | (with_reducible apply z_7notesDrawn; (case r1 => first | omega | ((simp (disch := omega) only [zU_c, zU_e, zU_k, zF_c, zF_i, zF_o, zW_o, zW_i, zC_c, zC_i, zC_o]); omega)); (case r2 => first | omega | ((simp (disch := omega) only [zU_c, zU_e, zU_k, zF_c, zF_i, zF_o, zW_o, zW_i, zC_c, zC_i, zC_o]); omega)); (case a1 => assumption); intro _ _ _))
          rw [show zI g + 1 = zI (g + 1) from zv_add rfl (zv_l 1)]
          refine z_call (hrec m4 h4 (f451 1)) (fun v m5 hv => ?_)
          unfold zGb at hv
          rw [f451, en2, eg, f48] at hv
          obtain ⟨hv01, hX5, h85, hoff5, hbb5⟩ := hv
          have e551 : ∀ j, m5 51 j = m1 51 j := fun j => by rw [hX5 51 j (by omega) (by omega), f451]
          obtain ⟨v', hv', hw01⟩ : ∃ v' : Int, v = zI v' ∧ (v' = 0 ∨ v' = 1) := by
            rcases hv01 with q | q
            · exact ⟨0, q, Or.inl rfl⟩
            · exact ⟨1, q, Or.inr rfl⟩
          rw [hv']
          refine z_nm (x := zOr s v') (zv_or rfl rfl) ?_
          refine z_7brings (k := g) (res := zRA i) (x := -1) rfl rfl (show (-1 : Int32) = zI (-1) from rfl) (by omega) hra (by rw [e551]; omega) (by rw [e551]; omega) (by rw [e551, e551]; exact g4) (by rw [e551]; exact hK) ?_
          repeat' (first
    | (with_reducible apply z_nm; (case he => repeat (with_reducible first | exact zv_l _ | exact zv_r | apply zv_add | apply zv_sub | apply zv_mul | apply zv_neg | apply zv_or)))
    | (with_reducible apply z_b_ck; (case h => with_unfolding_all rfl))
    | (with_reducible apply z_I; (case h => first | with_unfolding_all rfl); (case hy => first | ((simp (disch := omega) only [zU_c, zU_e, zU_k, zF_c, zF_i, zF_o, zW_o, zW_i, zC_c, zC_i, zC_o]); rfl) | rfl))
    | (with_reducible apply z_b_R; (case h => first | with_unfolding_all rfl))
    | (with_reducible apply z_L; (case he => repeat (with_reducible first | exact zv_l _ | exact zv_r | apply zv_add | apply zv_sub | apply zv_mul | apply zv_neg | apply zv_or)); (case hn => with_reducible first | assumption | exact zl_2 | exact zl_5 | exact zl_6 | exact zl_8 | exact zl_9 | exact zl_51 | exact zl_53 | exact zl_54 | exact zl_55 | exact zl_60); (case h => omega); (case hy => first | ((simp (disch := omega) only [zU_c, zU_e, zU_k, zF_c, zF_i, zF_o, zW_o, zW_i, zC_c, zC_i, zC_o]); rfl) | rfl))
    | (with_reducible apply z_S; (case he => repeat (with_reducible first | exact zv_l _ | exact zv_r | apply zv_add | apply zv_sub | apply zv_mul | apply zv_neg | apply zv_or)); (case hg => repeat (with_reducible first | exact zv_l _ | exact zv_r | apply zv_add | apply zv_sub | apply zv_mul | apply zv_neg | apply zv_or)); (case hn => with_reducible first | assumption | exact zl_2 | exact zl_5 | exact zl_6 | exact zl_8 | exact zl_9 | exact zl_51 | exact zl_53 | exact zl_54 | exact zl_55 | exact zl_60); (case h => omega))
    | with_reducible refine z_bz ?_
    | with_reducible refine z_bzE ?_
    | (with_reducible apply z_bzl; (case h => omega))
    | (with_reducible apply z_7has; (case e1 => repeat (with_reducible first | exact zv_l _ | exact zv_r | apply zv_add | apply zv_sub | apply zv_mul | apply zv_neg | apply zv_or)); (case e2 => repeat (with_reducible first | exact zv_l _ | exact zv_r | apply zv_add | apply zv_sub | apply zv_mul | apply zv_neg | apply zv_or)); (case r1 => first | omega | ((simp (disch := omega) only [zU_c, zU_e, zU_k, zF_c, zF_i, zF_o, zW_o, zW_i, zC_c, zC_i, zC_o]); omega)); (case r2 => first | omega | ((simp (disch := omega) only [zU_c, zU_e, zU_k, zF_c, zF_i, zF_o, zW_o, zW_i, zC_c, zC_i, zC_o]); omega)))
    | (with_reducible apply z_7results; (case r1 => first | omega | ((simp (disch := omega) only [zU_c, zU_e, zU_k, zF_c, zF_i, zF_o, zW_o, zW_i, zC_c, zC_i, zC_o]); omega)))
    | (with_reducible apply z_7resultAt; (case e1 => repeat (with_reducible first | exact zv_l _ | exact zv_r | apply zv_add | apply zv_sub | apply zv_mul | apply zv_neg | apply zv_or)); (case r1 => first | omega | ((simp (disch := omega) only [zU_c, zU_e, zU_k, zF_c, zF_i, zF_o, zW_o, zW_i, zC_c, zC_i, zC_o]); omega)))
    | (with_reducible apply z_7brings; (case e1 => repeat (with_reducible first | exact zv_l _ | exact zv_r | apply zv_add | apply zv_sub | apply zv_mul | apply zv_neg | apply zv_or)); (case e2 => repeat (with_reducible first | exact zv_l _ | exact zv_r | apply zv_add | apply zv_sub | apply zv_mul | apply zv_neg | apply zv_or)); (case e3 => repeat (with_reducible first | exact zv_l _ | exact zv_r | apply zv_add | apply zv_sub | apply zv_mul | apply zv_neg | apply zv_or)); (case r1 => first | omega | ((simp (disch := omega) only [zU_c, zU_e, zU_k, zF_c, zF_i, zF_o, zW_o, zW_i, zC_c, zC_i, zC_o]); omega)); (case r2 => first | omega | ((simp (disch := omega) only [zU_c, zU_e, zU_k, zF_c, zF_i, zF_o, zW_o, zW_i, zC_c, zC_i, zC_o]); omega)); (case r3 => first | omega | ((simp (disch := omega) only [zU_c, zU_e, zU_k, zF_c, zF_i, zF_o, zW_o, zW_i, zC_c, zC_i, zC_o]); omega)); (case r4 => first | omega | ((simp (disch := omega) only [zU_c, zU_e, zU_k, zF_c, zF_i, zF_o, zW_o, zW_i, zC_c, zC_i, zC_o]); omega)); (case r5 => first | omega | ((simp (disch := omega) only [zU_c, zU_e, zU_k, zF_c, zF_i, zF_o, zW_o, zW_i, zC_c, zC_i, zC_o]); omega)); (case r6 => first | omega | ((simp (disch := omega) only [zU_c, zU_e, zU_k, zF_c, zF_i, zF_o, zW_o, zW_i, zC_c, zC_i, zC_o]); omega)))
    | (with_reducible apply z_7isTooMuch; (case r1 => first | omega | ((simp (disch := omega) only [zU_c, zU_e, zU_k, zF_c, zF_i, zF_o, zW_o, zW_i, zC_c, zC_i, zC_o]); omega)); intro _ _ _)
    | (with_reducible apply z_7notesDrawn; (case r1 => first | omega | ((simp (disch := omega) only [zU_c, zU_e, zU_k, zF_c, zF_i, zF_o, zW_o, zW_i, zC_c, zC_i, zC_o]); omega)); (case r2 => first | omega | ((simp (disch := omega) only [zU_c, zU_e, zU_k, zF_c, zF_i, zF_o, zW_o, zW_i, zC_c, zC_i, zC_o]); omega)); (case a1 => assumption); intro _ _ _))
          have f6 : ∀ c j, ¬ c = 54 → zAw m5 54 (fun t => zG7 m5 g (zRA i) t * -1) c j = m5 c j := fun c j a => zAw_c a
          refine hk2 _ _ _ (by omega) ⟨zOr s v', i + 1, rfl, by omega, rfl, ?_, fun c j a b => ?_, ?_, fun k hk => ?_, ?_⟩
          · rcases hs01 with q | q <;> rcases hw01 with q' | q' <;> rw [q, q'] <;> decide
          · by_cases hc : c = 54
            · subst hc
              rw [zAw_q, hX5 54 j (by omega) (by omega), f454]
              unfold zG7
              rw [e551, e551, e551]
              omega
            · rw [f6 c j hc, hX5 c j a b, f4 c j hc a, hX c j a b]
          · rw [f6 50 8 (by omega)]
            exact h85
          · rw [f6 55 k (by omega), hoff5 k (fun x hx => hk x (by simp [hx])), f455 k (by have := hk g.toNat (by simp); omega)]
            exact hoff k hk
          · rw [f6 50 8 (by omega)]
            refine zBb_t hbb (zBb_iff (fun b _ => ePd b) hbb5) h82.2 (fun b _ => ?_)
            constructor
            · rintro ⟨j, hj, q⟩
              by_cases hji : j = i
              · subst hji
                exact Or.inr q
              · exact Or.inl ⟨j, by omega, q⟩
            · rintro (⟨j, hj, q⟩ | q)
              · exact ⟨j, by omega, q⟩
              · exact ⟨i, by omega, q⟩
        unfold f_X7_goes_47
        dsimp only
        refine z_7results h2.1.1.2.2 ?_
        have eR : (if m2 51 2 = 0 then (2 : Int) else 3) = (R : Int) := by
          rw [e51, ← hRd]
          split <;> rfl
        rw [eR]
        refine z_le (x := (R : Int)) (y := (i : Int)) rfl rfl (by omega) (by omega) (fun hle => ?_) (fun hle => ?_)
        · have : i = R := by omega
          subst this
          refine z_bzl2 hs01 ?_
          refine ⟨_, _, rfl, ?_, hX, h82, fun k hk => hoff k (fun x hx => hk x (by rw [eL]; exact hx)), zBb_iff (fun b _ => hall2 b) hbb⟩
          rcases hs01 with rfl | rfl
          · exact Or.inl rfl
          · exact Or.inr rfl
        · have h29 : m2 50 9 = m1 50 9 := hX 50 9 (by omega) (by omega)
          (first
    | (with_reducible apply z_nm; (case he => repeat (with_reducible first | exact zv_l _ | exact zv_r | apply zv_add | apply zv_sub | apply zv_mul | apply zv_neg | apply zv_or)))
    | (with_reducible apply z_b_ck; (case h => with_unfolding_all rfl))
    | (with_reducible apply z_I; (case h => first | with_unfolding_all rfl); (case hy => first | ((simp (disch := omega) only [zU_c, zU_e, zU_k, zF_c, zF_i, zF_o, zW_o, zW_i, zC_c, zC_i, zC_o]); rfl) | rfl))
    | (with_reducible apply z_b_R; (case h => first | with_unfolding_all rfl))
    | (with_reducible apply z_L; (case he => repeat (with_reducible first | exact zv_l _ | exact zv_r | apply zv_add | apply zv_sub | apply zv_mul | apply zv_neg | apply zv_or)); (case hn => with_reducible first | assumption | exact zl_2 | exact zl_5 | exact zl_6 | exact zl_8 | exact zl_9 | exact zl_51 | exact zl_53 | exact zl_54 | exact zl_55 | exact zl_60); (case h => omega); (case hy => first | ((simp (disch := omega) only [zU_c, zU_e, zU_k, zF_c, zF_i, zF_o, zW_o, zW_i, zC_c, zC_i, zC_o]); rfl) | rfl))
    | (with_reducible apply z_S; (case he => repeat (with_reducible first | exact zv_l _ | exact zv_r | apply zv_add | apply zv_sub | apply zv_mul | apply zv_neg | apply zv_or)); (case hg => repeat (with_reducible first | exact zv_l _ | exact zv_r | apply zv_add | apply zv_sub | apply zv_mul | apply zv_neg | apply zv_or)); (case hn => with_reducible first | assumption | exact zl_2 | exact zl_5 | exact zl_6 | exact zl_8 | exact zl_9 | exact zl_51 | exact zl_53 | exact zl_54 | exact zl_55 | exact zl_60); (case h => omega))
    | with_reducible refine z_bz ?_
    | with_reducible refine z_bzE ?_
    | (with_reducible apply z_bzl; (case h => omega))
    | (with_reducible apply z_7has; (case e1 => repeat (with_reducible first | exact zv_l _ | exact zv_r | apply zv_add | apply zv_sub | apply zv_mul | apply zv_neg | apply zv_or)); (case e2 => repeat (with_reducible first | exact zv_l _ | exact zv_r | apply zv_add | apply zv_sub | apply zv_mul | apply zv_neg | apply zv_or)); (case r1 => first | omega | ((simp (disch := omega) only [zU_c, zU_e, zU_k, zF_c, zF_i, zF_o, zW_o, zW_i, zC_c, zC_i, zC_o]); omega)); (case r2 => first | omega | ((simp (disch := omega) only [zU_c, zU_e, zU_k, zF_c, zF_i, zF_o, zW_o, zW_i, zC_c, zC_i, zC_o]); omega)))
    | (with_reducible apply z_7results; (case r1 => first | omega | ((simp (disch := omega) only [zU_c, zU_e, zU_k, zF_c, zF_i, zF_o, zW_o, zW_i, zC_c, zC_i, zC_o]); omega)))
    | (with_reducible apply z_7resultAt; (case e1 => repeat (with_reducible first | exact zv_l _ | exact zv_r | apply zv_add | apply zv_sub | apply zv_mul | apply zv_neg | apply zv_or)); (case r1 => first | omega | ((simp (disch := omega) only [zU_c, zU_e, zU_k, zF_c, zF_i, zF_o, zW_o, zW_i, zC_c, zC_i, zC_o]); omega)))
    | (with_reducible apply z_7brings; (case e1 => repeat (with_reducible first | exact zv_l _ | exact zv_r | apply zv_add | apply zv_sub | apply zv_mul | apply zv_neg | apply zv_or)); (case e2 => repeat (with_reducible first | exact zv_l _ | exact zv_r | apply zv_add | apply zv_sub | apply zv_mul | apply zv_neg | apply zv_or)); (case e3 => repeat (with_reducible first | exact zv_l _ | exact zv_r | apply zv_add | apply zv_sub | apply zv_mul | apply zv_neg | apply zv_or)); (case r1 => first | omega | ((simp (disch := omega) only [zU_c, zU_e, zU_k, zF_c, zF_i, zF_o, zW_o, zW_i, zC_c, zC_i, zC_o]); omega)); (case r2 => first | omega | ((simp (disch := omega) only [zU_c, zU_e, zU_k, zF_c, zF_i, zF_o, zW_o, zW_i, zC_c, zC_i, zC_o]); omega)); (case r3 => first | omega | ((simp (disch := omega) only [zU_c, zU_e, zU_k, zF_c, zF_i, zF_o, zW_o, zW_i, zC_c, zC_i, zC_o]); omega)); (case r4 => first | omega | ((simp (disch := omega) only [zU_c, zU_e, zU_k, zF_c, zF_i, zF_o, zW_o, zW_i, zC_c, zC_i, zC_o]); omega)); (case r5 => first | omega | ((simp (disch := omega) only [zU_c, zU_e, zU_k, zF_c, zF_i, zF_o, zW_o, zW_i, zC_c, zC_i, zC_o]); omega)); (case r6 => first | omega | ((simp (disch := omega) only [zU_c, zU_e, zU_k, zF_c, zF_i, zF_o, zW_o, zW_i, zC_c, zC_i, zC_o]); omega)))
    | (with_reducible apply z_7isTooMuch; (case r1 => first | omega | ((simp (disch := omega) only [zU_c, zU_e, zU_k, zF_c, zF_i, zF_o, zW_o, zW_i, zC_c, zC_i, zC_o]); omega)); intro _ _ _)
    | (with_reducible apply z_7notesDrawn; (case r1 => first | omega | ((simp (disch := omega) only [zU_c, zU_e, zU_k, zF_c, zF_i, zF_o, zW_o, zW_i, zC_c, zC_i, zC_o]); omega)); (case r2 => first | omega | ((simp (disch := omega) only [zU_c, zU_e, zU_k, zF_c, zF_i, zF_o, zW_o, zW_i, zC_c, zC_i, zC_o]); omega)); (case a1 => assumption); intro _ _ _))
          refine z_eq (x := m2 50 9) (y := 0) rfl rfl (by omega) (by omega) (fun hw => by exfalso; omega) (fun _ => ?_)
          exact hmain (by omega)
  · refine ⟨_, _, rfl, Or.inl rfl, zGx_r _, h8, fun _ _ => rfl, zBb_r (fun b q => ?_)⟩
    obtain ⟨-, xs, hx, -⟩ := q
    exact hnot (fun u u0 u1 => Int.le_trans (zTo_0 hK _ _) (hx.2.2 u u0 u1))
theorem s7_bestA {m : zMe} {g : Int} {set : Nat} (h : zGc m set g) (hs : set < 512) : zOk (f_X7_goes 12 50 (zI g) (zI (set : Int)) (zM m)) (zGb m set g) := by
  have hN := h.1.1.1.1.2.1
  refine z_lp (fun n v m1 => ∃ g : Int, v = (50, zI g, zI (set : Int)) ∧ n = (m1 51 1 - g).toNat ∧ zGc m1 set g) (fun v m1 a m2 => ∀ g : Int, v = (50, zI g, zI (set : Int)) → (0 ≤ g ∧ g ≤ 9) → zGb m1 set g a m2) ?_ 12 (m 51 1 - g).toNat (50, zI g, zI (set : Int)) m (by have := h.1.2.1; omega) ⟨g, rfl, rfl, h⟩ |>.mono (fun v m' q => q g rfl (by have := h.1.2.1; omega))
  rintro n v m1 k ⟨i, rfl, rfl, hi⟩ hk
  have hgi := hi.1.2.1
  have hN1 := hi.1.1.1.1.2.1
  refine zOk.mono (s7_best_r hi hs (fun m' hm he => ?_)) (fun a m2 q i' e' hi' => ?_)
  · have hgm := hm.1.2.1
    exact zOk.mono (hk _ _ _ (by omega) ⟨i + 1, rfl, rfl, hm⟩) (fun a m2 q => q (i + 1) rfl (by omega))
  · have e : i' = i := by
      have e1 : (zI i, zI (set : Int)) = (zI i', zI (set : Int)) := (Prod.mk.inj e').2
      have e'' : zI i = zI i' := (Prod.mk.inj e1).1
      exact ((zI_inj (by omega) (by omega)).mp e'').symm
    subst e
    exact q
