/-! the reference's best drawn, as all runs are looked at -/
def zLqb (v : Int) (b : Nat) : Prop := ∃ c : Nat, v = (c : Int) ∧ (zPop c < zPop b ∨ (zPop c = zPop b ∧ c ≤ b))
/-- of v and of all with P the best is w -/
def zBb (P : Nat → Prop) (v w : Int) : Prop := (w = v ∨ ∃ b : Nat, b < 512 ∧ w = (b : Int) ∧ P b) ∧ (∀ b : Nat, b < 512 → P b → zLqb w b) ∧ ∀ b : Nat, b < 512 → v = (b : Int) → zLqb w b
theorem zLqb_r (b : Nat) : zLqb (b : Int) b := ⟨b, rfl, Or.inr ⟨rfl, Nat.le_refl _⟩⟩
theorem zLqb_t {v : Int} {b c : Nat} (h1 : zLqb v c) (h2 : zLqb (c : Int) b) : zLqb v b := by
  obtain ⟨d, e, h1⟩ := h1
  obtain ⟨c', e', h2⟩ := h2
  have : c' = c := by omega
  subst this
  exact ⟨d, e, by omega⟩
theorem zBb_r {P : Nat → Prop} {v : Int} (h : ∀ b, ¬ P b) : zBb P v v := ⟨Or.inl rfl, fun b _ q => absurd q (h b), fun b _ e => by rw [e]; exact zLqb_r b⟩
theorem zBb_t {P Q R : Nat → Prop} {v w x : Int} (h1 : zBb P v w) (h2 : zBb Q w x) (hw : w < 512) (hR : ∀ b, b < 512 → (R b ↔ P b ∨ Q b)) : zBb R v x := by
  obtain ⟨a1, a2, a3⟩ := h1
  obtain ⟨b1, b2, b3⟩ := h2
  have hgo : ∀ b : Nat, zLqb w b → zLqb x b := fun b q => by
    obtain ⟨c, e, q'⟩ := q
    exact zLqb_t (b3 c (by omega) e) ⟨c, rfl, q'⟩
  refine ⟨?_, fun b hb q => ?_, fun b hb e => hgo b (a3 b hb e)⟩
  · rcases b1 with e | ⟨b, hb, e, q⟩
    · rw [e]
      rcases a1 with e' | ⟨b, hb, e', q⟩
      · exact Or.inl e'
      · exact Or.inr ⟨b, hb, e', (hR b hb).mpr (Or.inl q)⟩
    · exact Or.inr ⟨b, hb, e, (hR b hb).mpr (Or.inr q)⟩
  · rcases (hR b hb).mp q with q | q
    · exact hgo b (a2 b hb q)
    · exact b2 b hb q
theorem zBb_iff {P Q : Nat → Prop} {v w : Int} (h : ∀ b, b < 512 → (P b ↔ Q b)) (hb : zBb P v w) : zBb Q v w := by
  obtain ⟨a1, a2, a3⟩ := hb
  refine ⟨?_, fun b hb q => a2 b hb ((h b hb).mpr q), a3⟩
  rcases a1 with e | ⟨b, hb, e, q⟩
  · exact Or.inl e
  · exact Or.inr ⟨b, hb, e, (h b hb).mp q⟩
theorem zBb_Mn {P : Nat → Prop} {v : Int} (h : zBb P (-1) v) : zMn P v := by
  obtain ⟨a1, a2, a3⟩ := h
  rcases a1 with rfl | ⟨b, hb, rfl, q⟩
  · refine Or.inl ⟨rfl, fun c hc q => ?_⟩
    obtain ⟨d, e, -⟩ := a2 c hc q
    omega
  · refine Or.inr ⟨b, rfl, hb, q, fun c hc q => ?_⟩
    obtain ⟨d, e, h⟩ := a2 c hc q
    have : d = b := by omega
    subst this
    exact h
theorem s7_noteT {m : zMe} {x : Int} {P : Nat → Prop} (hx : -1 ≤ x ∧ x < 512) (h : zBb P (m 50 8) x) : zOk (f_X7_notesDrawn_92 50 (zI x) (zM m)) (fun (_ : Unit) m1 => ∃ x, m1 = zU m 50 8 x ∧ (-1 ≤ x ∧ x < 512) ∧ zBb P (m 50 8) x) := by
  unfold f_X7_notesDrawn_92 f_X7_notesDrawn_97 f_X7_notesDrawn_111
  refine z_eq (x := 1) (y := 0) rfl rfl (by omega) (by omega) (fun q => by exfalso; omega) (fun _ => ?_)
  (first
    | (with_reducible apply z_I; (case h => first | with_unfolding_all rfl); (case hy => first | ((simp (disch := omega) only [zU_c, zU_e, zU_k, zF_c, zF_i, zF_o, zW_o, zW_i, zC_c, zC_i, zC_o]); rfl) | rfl))
    | (with_reducible apply z_PU; (case he => repeat (with_reducible first | exact zv_l _ | exact zv_r | apply zv_neg)); (case h => with_reducible first | exact zp_50_8 _)))
  exact ⟨_, _, rfl, x, rfl, hx, h⟩
theorem s7_noteK {m : zMe} {x : Int} {P : Nat → Prop} (h8 : -1 ≤ m 50 8 ∧ m 50 8 < 512) (h : zBb P (m 50 8) (m 50 8)) : zOk (f_X7_notesDrawn_96 50 (zI x) (zM m)) (fun (_ : Unit) m1 => ∃ x, m1 = zU m 50 8 x ∧ (-1 ≤ x ∧ x < 512) ∧ zBb P (m 50 8) x) := by
  unfold f_X7_notesDrawn_96 f_X7_notesDrawn_97 f_X7_notesDrawn_111
  refine z_eq (x := 0) (y := 0) rfl rfl (by omega) (by omega) (fun _ => ?_) (fun q => absurd rfl q)
  (first
    | (with_reducible apply z_I; (case h => first | with_unfolding_all rfl); (case hy => first | ((simp (disch := omega) only [zU_c, zU_e, zU_k, zF_c, zF_i, zF_o, zW_o, zW_i, zC_c, zC_i, zC_o]); rfl) | rfl))
    | (with_reducible apply z_PU; (case he => repeat (with_reducible first | exact zv_l _ | exact zv_r | apply zv_neg)); (case h => with_reducible first | exact zp_50_8 _)))
  (first
    | (with_reducible apply z_I; (case h => first | with_unfolding_all rfl); (case hy => first | ((simp (disch := omega) only [zU_c, zU_e, zU_k, zF_c, zF_i, zF_o, zW_o, zW_i, zC_c, zC_i, zC_o]); rfl) | rfl))
    | (with_reducible apply z_PU; (case he => repeat (with_reducible first | exact zv_l _ | exact zv_r | apply zv_neg)); (case h => with_reducible first | exact zp_50_8 _)))
  exact ⟨_, _, rfl, m 50 8, rfl, h8, h⟩
/-- a game that is drawn by now -/
def zDkn (m : zMe) (k : Nat) : Bool := decide (m 53 (k : Int) = -1 ∧ zI (m 55 (k : Int)) = 0)
set_option maxRecDepth 100000 in
set_option maxHeartbeats 1000000 in
theorem s7_notesE {m : zMe} (r1 : 0 ≤ m 51 1 ∧ m 51 1 ≤ 9) (r2 : -1 ≤ m 50 8 ∧ m 50 8 < 512) (a1 : zAs m) : zOk (f_X7_notesDrawn 50 (zM m)) (fun (_ : Unit) m1 => ∃ x, m1 = zU m 50 8 x ∧ (-1 ≤ x ∧ x < 512) ∧ zBb (fun b => b = zBn (m 51 1).toNat (zDkn m)) (m 50 8) x) := by
  unfold f_X7_notesDrawn
  (first
    | (with_reducible apply z_nm; (case he => repeat (with_reducible first | exact zv_l _ | exact zv_r | apply zv_add | apply zv_sub | apply zv_neg | apply zv_or | apply zv_shl | apply zv_and)))
    | (with_reducible apply z_b_ck; (case h => with_unfolding_all rfl))
    | (with_reducible apply z_I; (case h => first | with_unfolding_all rfl); (case hy => first | ((simp (disch := omega) only [zU_c, zU_e, zU_k, zF_c, zF_i, zF_o, zW_o, zW_i, zC_c, zC_i, zC_o]); rfl) | rfl))
    | (with_reducible apply z_b_R; (case h => first | with_unfolding_all rfl))
    | (with_reducible apply z_L; (case he => repeat (with_reducible first | exact zv_l _ | exact zv_r | apply zv_add | apply zv_sub | apply zv_neg | apply zv_or | apply zv_shl | apply zv_and)); (case hn => with_reducible first | assumption | exact zl_2 | exact zl_8 | exact zl_9 | exact zl_51 | exact zl_53 | exact zl_55); (case h => omega); (case hy => first | ((simp (disch := omega) only [zU_c, zU_e, zU_k, zF_c, zF_i, zF_o, zW_o, zW_i, zC_c, zC_i, zC_o]); rfl) | rfl))
    | (with_reducible apply z_7ones; (case e1 => repeat (with_reducible first | exact zv_l _ | exact zv_r | apply zv_add | apply zv_sub | apply zv_neg | apply zv_or | apply zv_shl | apply zv_and)); (case r1 => first | omega | ((simp (disch := omega) only [zU_c, zU_e, zU_k, zF_c, zF_i, zF_o, zW_o, zW_i, zC_c, zC_i, zC_o]); omega)))
    | (with_reducible apply z_7notesDrawn; (case r1 => first | omega | ((simp (disch := omega) only [zU_c, zU_e, zU_k, zF_c, zF_i, zF_o, zW_o, zW_i, zC_c, zC_i, zC_o]); omega)); (case r2 => first | omega | ((simp (disch := omega) only [zU_c, zU_e, zU_k, zF_c, zF_i, zF_o, zW_o, zW_i, zC_c, zC_i, zC_o]); omega)); (case a1 => assumption); intro _ _ _))
  refine z_lp (fun n v m1 => ∃ i : Nat, v = (50, zI (zBn i (zDkn m) : Nat), zI (i : Int)) ∧ (i : Int) ≤ m 51 1 ∧ n = (m 51 1 - i).toNat ∧ m1 = m) (fun _ _ _ m1 => ∃ x, m1 = zU m 50 8 x ∧ (-1 ≤ x ∧ x < 512) ∧ zBb (fun b => b = zBn (m 51 1).toNat (zDkn m)) (m 50 8) x) ?_ 600 (m 51 1).toNat _ _ (by omega) ⟨0, rfl, by omega, by omega, rfl⟩
  rintro n v m1 k ⟨i, rfl, h1, rfl, rfl⟩ hk
  have hi := a1 i (by omega)
  have hb : zBn i (zDkn m1) < 2 ^ i := zBn_lt _ _
  have h512 : zBn i (zDkn m1) < 512 := by
    have : 2 ^ i ≤ 2 ^ 9 := Nat.pow_le_pow_right (by omega) (by omega)
    omega
  unfold f_X7_notesDrawn_4
  dsimp only
  (first
    | (with_reducible apply z_nm; (case he => repeat (with_reducible first | exact zv_l _ | exact zv_r | apply zv_add | apply zv_sub | apply zv_neg | apply zv_or | apply zv_shl | apply zv_and)))
    | (with_reducible apply z_b_ck; (case h => with_unfolding_all rfl))
    | (with_reducible apply z_I; (case h => first | with_unfolding_all rfl); (case hy => first | ((simp (disch := omega) only [zU_c, zU_e, zU_k, zF_c, zF_i, zF_o, zW_o, zW_i, zC_c, zC_i, zC_o]); rfl) | rfl))
    | (with_reducible apply z_b_R; (case h => first | with_unfolding_all rfl))
    | (with_reducible apply z_L; (case he => repeat (with_reducible first | exact zv_l _ | exact zv_r | apply zv_add | apply zv_sub | apply zv_neg | apply zv_or | apply zv_shl | apply zv_and)); (case hn => with_reducible first | assumption | exact zl_2 | exact zl_8 | exact zl_9 | exact zl_51 | exact zl_53 | exact zl_55); (case h => omega); (case hy => first | ((simp (disch := omega) only [zU_c, zU_e, zU_k, zF_c, zF_i, zF_o, zW_o, zW_i, zC_c, zC_i, zC_o]); rfl) | rfl))
    | (with_reducible apply z_7ones; (case e1 => repeat (with_reducible first | exact zv_l _ | exact zv_r | apply zv_add | apply zv_sub | apply zv_neg | apply zv_or | apply zv_shl | apply zv_and)); (case r1 => first | omega | ((simp (disch := omega) only [zU_c, zU_e, zU_k, zF_c, zF_i, zF_o, zW_o, zW_i, zC_c, zC_i, zC_o]); omega)))
    | (with_reducible apply z_7notesDrawn; (case r1 => first | omega | ((simp (disch := omega) only [zU_c, zU_e, zU_k, zF_c, zF_i, zF_o, zW_o, zW_i, zC_c, zC_i, zC_o]); omega)); (case r2 => first | omega | ((simp (disch := omega) only [zU_c, zU_e, zU_k, zF_c, zF_i, zF_o, zW_o, zW_i, zC_c, zC_i, zC_o]); omega)); (case a1 => assumption); intro _ _ _))
  (first
    | (with_reducible apply z_nm; (case he => repeat (with_reducible first | exact zv_l _ | exact zv_r | apply zv_add | apply zv_sub | apply zv_neg | apply zv_or | apply zv_shl | apply zv_and)))
    | (with_reducible apply z_b_ck; (case h => with_unfolding_all rfl))
    | (with_reducible apply z_I; (case h => first | with_unfolding_all rfl); (case hy => first | ((simp (disch := omega) only [zU_c, zU_e, zU_k, zF_c, zF_i, zF_o, zW_o, zW_i, zC_c, zC_i, zC_o]); rfl) | rfl))
    | (with_reducible apply z_b_R; (case h => first | with_unfolding_all rfl))
    | (with_reducible apply z_L; (case he => repeat (with_reducible first | exact zv_l _ | exact zv_r | apply zv_add | apply zv_sub | apply zv_neg | apply zv_or | apply zv_shl | apply zv_and)); (case hn => with_reducible first | assumption | exact zl_2 | exact zl_8 | exact zl_9 | exact zl_51 | exact zl_53 | exact zl_55); (case h => omega); (case hy => first | ((simp (disch := omega) only [zU_c, zU_e, zU_k, zF_c, zF_i, zF_o, zW_o, zW_i, zC_c, zC_i, zC_o]); rfl) | rfl))
    | (with_reducible apply z_7ones; (case e1 => repeat (with_reducible first | exact zv_l _ | exact zv_r | apply zv_add | apply zv_sub | apply zv_neg | apply zv_or | apply zv_shl | apply zv_and)); (case r1 => first | omega | ((simp (disch := omega) only [zU_c, zU_e, zU_k, zF_c, zF_i, zF_o, zW_o, zW_i, zC_c, zC_i, zC_o]); omega)))
    | (with_reducible apply z_7notesDrawn; (case r1 => first | omega | ((simp (disch := omega) only [zU_c, zU_e, zU_k, zF_c, zF_i, zF_o, zW_o, zW_i, zC_c, zC_i, zC_o]); omega)); (case r2 => first | omega | ((simp (disch := omega) only [zU_c, zU_e, zU_k, zF_c, zF_i, zF_o, zW_o, zW_i, zC_c, zC_i, zC_o]); omega)); (case a1 => assumption); intro _ _ _))
  (first
    | (with_reducible apply z_B; all_goals (intro _; try (exfalso; omega)))
    | (with_reducible apply z_E; all_goals intro _)
    | (with_reducible apply z_lt; (case ha => repeat (with_reducible first | exact zv_l _ | exact zv_r | apply zv_add | apply zv_sub | apply zv_neg | apply zv_or | apply zv_shl | apply zv_and)); (case hb => repeat (with_reducible first | exact zv_l _ | exact zv_r | apply zv_add | apply zv_sub | apply zv_neg | apply zv_or | apply zv_shl | apply zv_and)); (case hx => omega); (case hy => omega); all_goals (intro _; try (exfalso; omega)))
    | (with_reducible apply z_le; (case ha => repeat (with_reducible first | exact zv_l _ | exact zv_r | apply zv_add | apply zv_sub | apply zv_neg | apply zv_or | apply zv_shl | apply zv_and)); (case hb => repeat (with_reducible first | exact zv_l _ | exact zv_r | apply zv_add | apply zv_sub | apply zv_neg | apply zv_or | apply zv_shl | apply zv_and)); (case hx => omega); (case hy => omega); all_goals (intro _; try (exfalso; omega)))
    | (with_reducible apply z_eq; (case ha => repeat (with_reducible first | exact zv_l _ | exact zv_r | apply zv_add | apply zv_sub | apply zv_neg | apply zv_or | apply zv_shl | apply zv_and)); (case hb => repeat (with_reducible first | exact zv_l _ | exact zv_r | apply zv_add | apply zv_sub | apply zv_neg | apply zv_or | apply zv_shl | apply zv_and)); (case hx => omega); (case hy => omega); all_goals (intro _; try (exfalso; omega))))
  · have hiN : i = (m1 51 1).toNat := by omega
    rw [hiN] at h512
    rw [hiN]
    generalize zBn (m1 51 1).toNat (zDkn m1) = set at h512
    (first
    | (with_reducible apply z_nm; (case he => repeat (with_reducible first | exact zv_l _ | exact zv_r | apply zv_add | apply zv_sub | apply zv_neg | apply zv_or | apply zv_shl | apply zv_and)))
    | (with_reducible apply z_b_ck; (case h => with_unfolding_all rfl))
    | (with_reducible apply z_I; (case h => first | with_unfolding_all rfl); (case hy => first | ((simp (disch := omega) only [zU_c, zU_e, zU_k, zF_c, zF_i, zF_o, zW_o, zW_i, zC_c, zC_i, zC_o]); rfl) | rfl))
    | (with_reducible apply z_b_R; (case h => first | with_unfolding_all rfl))
    | (with_reducible apply z_L; (case he => repeat (with_reducible first | exact zv_l _ | exact zv_r | apply zv_add | apply zv_sub | apply zv_neg | apply zv_or | apply zv_shl | apply zv_and)); (case hn => with_reducible first | assumption | exact zl_2 | exact zl_8 | exact zl_9 | exact zl_51 | exact zl_53 | exact zl_55); (case h => omega); (case hy => first | ((simp (disch := omega) only [zU_c, zU_e, zU_k, zF_c, zF_i, zF_o, zW_o, zW_i, zC_c, zC_i, zC_o]); rfl) | rfl))
    | (with_reducible apply z_7ones; (case e1 => repeat (with_reducible first | exact zv_l _ | exact zv_r | apply zv_add | apply zv_sub | apply zv_neg | apply zv_or | apply zv_shl | apply zv_and)); (case r1 => first | omega | ((simp (disch := omega) only [zU_c, zU_e, zU_k, zF_c, zF_i, zF_o, zW_o, zW_i, zC_c, zC_i, zC_o]); omega)))
    | (with_reducible apply z_7notesDrawn; (case r1 => first | omega | ((simp (disch := omega) only [zU_c, zU_e, zU_k, zF_c, zF_i, zF_o, zW_o, zW_i, zC_c, zC_i, zC_o]); omega)); (case r2 => first | omega | ((simp (disch := omega) only [zU_c, zU_e, zU_k, zF_c, zF_i, zF_o, zW_o, zW_i, zC_c, zC_i, zC_o]); omega)); (case a1 => assumption); intro _ _ _))
    refine z_lt (x := m1 50 8) (y := 0) rfl rfl (by omega) (by omega) (fun h0 => ?_) (fun h0 => ?_)
    · exact s7_noteT (by omega) ⟨Or.inr ⟨set, h512, rfl, rfl⟩, fun b _ e => by rw [e]; exact zLqb_r set, fun b _ e => by exfalso; omega⟩
    · obtain ⟨c, hc, ec⟩ : ∃ c : Nat, c < 512 ∧ m1 50 8 = (c : Int) := ⟨(m1 50 8).toNat, by omega, by omega⟩
      have p1 := zPop_le set
      have p2 := zPop_le c
      refine z_7ones rfl h512 ?_
      (first
    | (with_reducible apply z_nm; (case he => repeat (with_reducible first | exact zv_l _ | exact zv_r | apply zv_add | apply zv_sub | apply zv_neg | apply zv_or | apply zv_shl | apply zv_and)))
    | (with_reducible apply z_b_ck; (case h => with_unfolding_all rfl))
    | (with_reducible apply z_I; (case h => first | with_unfolding_all rfl); (case hy => first | ((simp (disch := omega) only [zU_c, zU_e, zU_k, zF_c, zF_i, zF_o, zW_o, zW_i, zC_c, zC_i, zC_o]); rfl) | rfl))
    | (with_reducible apply z_b_R; (case h => first | with_unfolding_all rfl))
    | (with_reducible apply z_L; (case he => repeat (with_reducible first | exact zv_l _ | exact zv_r | apply zv_add | apply zv_sub | apply zv_neg | apply zv_or | apply zv_shl | apply zv_and)); (case hn => with_reducible first | assumption | exact zl_2 | exact zl_8 | exact zl_9 | exact zl_51 | exact zl_53 | exact zl_55); (case h => omega); (case hy => first | ((simp (disch := omega) only [zU_c, zU_e, zU_k, zF_c, zF_i, zF_o, zW_o, zW_i, zC_c, zC_i, zC_o]); rfl) | rfl))
    | (with_reducible apply z_7ones; (case e1 => repeat (with_reducible first | exact zv_l _ | exact zv_r | apply zv_add | apply zv_sub | apply zv_neg | apply zv_or | apply zv_shl | apply zv_and)); (case r1 => first | omega | ((simp (disch := omega) only [zU_c, zU_e, zU_k, zF_c, zF_i, zF_o, zW_o, zW_i, zC_c, zC_i, zC_o]); omega)))
    | (with_reducible apply z_7notesDrawn; (case r1 => first | omega | ((simp (disch := omega) only [zU_c, zU_e, zU_k, zF_c, zF_i, zF_o, zW_o, zW_i, zC_c, zC_i, zC_o]); omega)); (case r2 => first | omega | ((simp (disch := omega) only [zU_c, zU_e, zU_k, zF_c, zF_i, zF_o, zW_o, zW_i, zC_c, zC_i, zC_o]); omega)); (case a1 => assumption); intro _ _ _))
      refine z_7ones (x := c) (by rw [ec]) hc ?_
      have htake : (zPop set < zPop c ∨ (zPop set = zPop c ∧ set ≤ c)) → zBb (fun b => b = set) (m1 50 8) (set : Int) := fun q => ⟨Or.inr ⟨set, h512, rfl, rfl⟩, fun b _ e => by rw [e]; exact zLqb_r set, fun b _ e => by
        have : b = c := by omega
        subst this
        exact ⟨set, rfl, q⟩⟩
      have hkeep : (zPop c < zPop set ∨ (zPop c = zPop set ∧ c ≤ set)) → zBb (fun b => b = set) (m1 50 8) (m1 50 8) := fun q => ⟨Or.inl rfl, fun b _ e => by rw [e]; exact ⟨c, ec, q⟩, fun b _ e => by rw [e]; exact zLqb_r b⟩
      refine z_lt (x := (zPop set : Int)) (y := (zPop c : Int)) rfl rfl (by omega) (by omega) (fun hl => ?_) (fun hl => ?_)
      · exact s7_noteT (by omega) (htake (by omega))
      · refine z_7ones rfl h512 ?_
        (first
    | (with_reducible apply z_nm; (case he => repeat (with_reducible first | exact zv_l _ | exact zv_r | apply zv_add | apply zv_sub | apply zv_neg | apply zv_or | apply zv_shl | apply zv_and)))
    | (with_reducible apply z_b_ck; (case h => with_unfolding_all rfl))
    | (with_reducible apply z_I; (case h => first | with_unfolding_all rfl); (case hy => first | ((simp (disch := omega) only [zU_c, zU_e, zU_k, zF_c, zF_i, zF_o, zW_o, zW_i, zC_c, zC_i, zC_o]); rfl) | rfl))
    | (with_reducible apply z_b_R; (case h => first | with_unfolding_all rfl))
    | (with_reducible apply z_L; (case he => repeat (with_reducible first | exact zv_l _ | exact zv_r | apply zv_add | apply zv_sub | apply zv_neg | apply zv_or | apply zv_shl | apply zv_and)); (case hn => with_reducible first | assumption | exact zl_2 | exact zl_8 | exact zl_9 | exact zl_51 | exact zl_53 | exact zl_55); (case h => omega); (case hy => first | ((simp (disch := omega) only [zU_c, zU_e, zU_k, zF_c, zF_i, zF_o, zW_o, zW_i, zC_c, zC_i, zC_o]); rfl) | rfl))
    | (with_reducible apply z_7ones; (case e1 => repeat (with_reducible first | exact zv_l _ | exact zv_r | apply zv_add | apply zv_sub | apply zv_neg | apply zv_or | apply zv_shl | apply zv_and)); (case r1 => first | omega | ((simp (disch := omega) only [zU_c, zU_e, zU_k, zF_c, zF_i, zF_o, zW_o, zW_i, zC_c, zC_i, zC_o]); omega)))
    | (with_reducible apply z_7notesDrawn; (case r1 => first | omega | ((simp (disch := omega) only [zU_c, zU_e, zU_k, zF_c, zF_i, zF_o, zW_o, zW_i, zC_c, zC_i, zC_o]); omega)); (case r2 => first | omega | ((simp (disch := omega) only [zU_c, zU_e, zU_k, zF_c, zF_i, zF_o, zW_o, zW_i, zC_c, zC_i, zC_o]); omega)); (case a1 => assumption); intro _ _ _))
        refine z_7ones (x := c) (by rw [ec]) hc ?_
        refine z_eq (x := (zPop set : Int)) (y := (zPop c : Int)) rfl rfl (by omega) (by omega) (fun he => ?_) (fun he => ?_)
        · (first
    | (with_reducible apply z_nm; (case he => repeat (with_reducible first | exact zv_l _ | exact zv_r | apply zv_add | apply zv_sub | apply zv_neg | apply zv_or | apply zv_shl | apply zv_and)))
    | (with_reducible apply z_b_ck; (case h => with_unfolding_all rfl))
    | (with_reducible apply z_I; (case h => first | with_unfolding_all rfl); (case hy => first | ((simp (disch := omega) only [zU_c, zU_e, zU_k, zF_c, zF_i, zF_o, zW_o, zW_i, zC_c, zC_i, zC_o]); rfl) | rfl))
    | (with_reducible apply z_b_R; (case h => first | with_unfolding_all rfl))
    | (with_reducible apply z_L; (case he => repeat (with_reducible first | exact zv_l _ | exact zv_r | apply zv_add | apply zv_sub | apply zv_neg | apply zv_or | apply zv_shl | apply zv_and)); (case hn => with_reducible first | assumption | exact zl_2 | exact zl_8 | exact zl_9 | exact zl_51 | exact zl_53 | exact zl_55); (case h => omega); (case hy => first | ((simp (disch := omega) only [zU_c, zU_e, zU_k, zF_c, zF_i, zF_o, zW_o, zW_i, zC_c, zC_i, zC_o]); rfl) | rfl))
    | (with_reducible apply z_7ones; (case e1 => repeat (with_reducible first | exact zv_l _ | exact zv_r | apply zv_add | apply zv_sub | apply zv_neg | apply zv_or | apply zv_shl | apply zv_and)); (case r1 => first | omega | ((simp (disch := omega) only [zU_c, zU_e, zU_k, zF_c, zF_i, zF_o, zW_o, zW_i, zC_c, zC_i, zC_o]); omega)))
    | (with_reducible apply z_7notesDrawn; (case r1 => first | omega | ((simp (disch := omega) only [zU_c, zU_e, zU_k, zF_c, zF_i, zF_o, zW_o, zW_i, zC_c, zC_i, zC_o]); omega)); (case r2 => first | omega | ((simp (disch := omega) only [zU_c, zU_e, zU_k, zF_c, zF_i, zF_o, zW_o, zW_i, zC_c, zC_i, zC_o]); omega)); (case a1 => assumption); intro _ _ _))
          refine z_le (x := m1 50 8) (y := (set : Int)) rfl rfl (by omega) (by omega) (fun hle => ?_) (fun hle => ?_)
          · exact s7_noteK r2 (hkeep (by omega))
          · exact s7_noteT (by omega) (htake (by omega))
        · exact s7_noteK r2 (hkeep (by omega))
  · have hno : ¬ zDkn m1 i = true → zOk (f_X7_notesDrawn_40 k 50 (zI (i : Int)) (zI (zBn i (zDkn m1) : Nat)) (zM m1)) (fun (_ : Unit) m2 => ∃ x, m2 = zU m1 50 8 x ∧ (-1 ≤ x ∧ x < 512) ∧ zBb (fun b => b = zBn (m1 51 1).toNat (zDkn m1)) (m1 50 8) x) := fun hq => by
      unfold f_X7_notesDrawn_40
      repeat' (first
    | (with_reducible apply z_nm; (case he => repeat (with_reducible first | exact zv_l _ | exact zv_r | apply zv_add | apply zv_sub | apply zv_neg | apply zv_or | apply zv_shl | apply zv_and)))
    | (with_reducible apply z_b_ck; (case h => with_unfolding_all rfl))
    | (with_reducible apply z_I; (case h => first | with_unfolding_all rfl); (case hy => first | ((simp (disch := omega) only [zU_c, zU_e, zU_k, zF_c, zF_i, zF_o, zW_o, zW_i, zC_c, zC_i, zC_o]); rfl) | rfl))
    | (with_reducible apply z_b_R; (case h => first | with_unfolding_all rfl))
    | (with_reducible apply z_L; (case he => repeat (with_reducible first | exact zv_l _ | exact zv_r | apply zv_add | apply zv_sub | apply zv_neg | apply zv_or | apply zv_shl | apply zv_and)); (case hn => with_reducible first | assumption | exact zl_2 | exact zl_8 | exact zl_9 | exact zl_51 | exact zl_53 | exact zl_55); (case h => omega); (case hy => first | ((simp (disch := omega) only [zU_c, zU_e, zU_k, zF_c, zF_i, zF_o, zW_o, zW_i, zC_c, zC_i, zC_o]); rfl) | rfl))
    | (with_reducible apply z_7ones; (case e1 => repeat (with_reducible first | exact zv_l _ | exact zv_r | apply zv_add | apply zv_sub | apply zv_neg | apply zv_or | apply zv_shl | apply zv_and)); (case r1 => first | omega | ((simp (disch := omega) only [zU_c, zU_e, zU_k, zF_c, zF_i, zF_o, zW_o, zW_i, zC_c, zC_i, zC_o]); omega)))
    | (with_reducible apply z_7notesDrawn; (case r1 => first | omega | ((simp (disch := omega) only [zU_c, zU_e, zU_k, zF_c, zF_i, zF_o, zW_o, zW_i, zC_c, zC_i, zC_o]); omega)); (case r2 => first | omega | ((simp (disch := omega) only [zU_c, zU_e, zU_k, zF_c, zF_i, zF_o, zW_o, zW_i, zC_c, zC_i, zC_o]); omega)); (case a1 => assumption); intro _ _ _))
      rw [zOr_0 h512]
      exact hk _ _ _ (by omega) ⟨i + 1, by rw [zBn_f hq]; rfl, by omega, rfl, rfl⟩
    (first
    | (with_reducible apply z_nm; (case he => repeat (with_reducible first | exact zv_l _ | exact zv_r | apply zv_add | apply zv_sub | apply zv_neg | apply zv_or | apply zv_shl | apply zv_and)))
    | (with_reducible apply z_b_ck; (case h => with_unfolding_all rfl))
    | (with_reducible apply z_I; (case h => first | with_unfolding_all rfl); (case hy => first | ((simp (disch := omega) only [zU_c, zU_e, zU_k, zF_c, zF_i, zF_o, zW_o, zW_i, zC_c, zC_i, zC_o]); rfl) | rfl))
    | (with_reducible apply z_b_R; (case h => first | with_unfolding_all rfl))
    | (with_reducible apply z_L; (case he => repeat (with_reducible first | exact zv_l _ | exact zv_r | apply zv_add | apply zv_sub | apply zv_neg | apply zv_or | apply zv_shl | apply zv_and)); (case hn => with_reducible first | assumption | exact zl_2 | exact zl_8 | exact zl_9 | exact zl_51 | exact zl_53 | exact zl_55); (case h => omega); (case hy => first | ((simp (disch := omega) only [zU_c, zU_e, zU_k, zF_c, zF_i, zF_o, zW_o, zW_i, zC_c, zC_i, zC_o]); rfl) | rfl))
    | (with_reducible apply z_7ones; (case e1 => repeat (with_reducible first | exact zv_l _ | exact zv_r | apply zv_add | apply zv_sub | apply zv_neg | apply zv_or | apply zv_shl | apply zv_and)); (case r1 => first | omega | ((simp (disch := omega) only [zU_c, zU_e, zU_k, zF_c, zF_i, zF_o, zW_o, zW_i, zC_c, zC_i, zC_o]); omega)))
    | (with_reducible apply z_7notesDrawn; (case r1 => first | omega | ((simp (disch := omega) only [zU_c, zU_e, zU_k, zF_c, zF_i, zF_o, zW_o, zW_i, zC_c, zC_i, zC_o]); omega)); (case r2 => first | omega | ((simp (disch := omega) only [zU_c, zU_e, zU_k, zF_c, zF_i, zF_o, zW_o, zW_i, zC_c, zC_i, zC_o]); omega)); (case a1 => assumption); intro _ _ _))
    (first
    | (with_reducible apply z_nm; (case he => repeat (with_reducible first | exact zv_l _ | exact zv_r | apply zv_add | apply zv_sub | apply zv_neg | apply zv_or | apply zv_shl | apply zv_and)))
    | (with_reducible apply z_b_ck; (case h => with_unfolding_all rfl))
    | (with_reducible apply z_I; (case h => first | with_unfolding_all rfl); (case hy => first | ((simp (disch := omega) only [zU_c, zU_e, zU_k, zF_c, zF_i, zF_o, zW_o, zW_i, zC_c, zC_i, zC_o]); rfl) | rfl))
    | (with_reducible apply z_b_R; (case h => first | with_unfolding_all rfl))
    | (with_reducible apply z_L; (case he => repeat (with_reducible first | exact zv_l _ | exact zv_r | apply zv_add | apply zv_sub | apply zv_neg | apply zv_or | apply zv_shl | apply zv_and)); (case hn => with_reducible first | assumption | exact zl_2 | exact zl_8 | exact zl_9 | exact zl_51 | exact zl_53 | exact zl_55); (case h => omega); (case hy => first | ((simp (disch := omega) only [zU_c, zU_e, zU_k, zF_c, zF_i, zF_o, zW_o, zW_i, zC_c, zC_i, zC_o]); rfl) | rfl))
    | (with_reducible apply z_7ones; (case e1 => repeat (with_reducible first | exact zv_l _ | exact zv_r | apply zv_add | apply zv_sub | apply zv_neg | apply zv_or | apply zv_shl | apply zv_and)); (case r1 => first | omega | ((simp (disch := omega) only [zU_c, zU_e, zU_k, zF_c, zF_i, zF_o, zW_o, zW_i, zC_c, zC_i, zC_o]); omega)))
    | (with_reducible apply z_7notesDrawn; (case r1 => first | omega | ((simp (disch := omega) only [zU_c, zU_e, zU_k, zF_c, zF_i, zF_o, zW_o, zW_i, zC_c, zC_i, zC_o]); omega)); (case r2 => first | omega | ((simp (disch := omega) only [zU_c, zU_e, zU_k, zF_c, zF_i, zF_o, zW_o, zW_i, zC_c, zC_i, zC_o]); omega)); (case a1 => assumption); intro _ _ _))
    refine z_eq (x := m1 53 (i : Int)) (y := -1) rfl rfl (by omega) (by omega) (fun h53 => ?_) (fun h53 => ?_)
    · (first
    | (with_reducible apply z_nm; (case he => repeat (with_reducible first | exact zv_l _ | exact zv_r | apply zv_add | apply zv_sub | apply zv_neg | apply zv_or | apply zv_shl | apply zv_and)))
    | (with_reducible apply z_b_ck; (case h => with_unfolding_all rfl))
    | (with_reducible apply z_I; (case h => first | with_unfolding_all rfl); (case hy => first | ((simp (disch := omega) only [zU_c, zU_e, zU_k, zF_c, zF_i, zF_o, zW_o, zW_i, zC_c, zC_i, zC_o]); rfl) | rfl))
    | (with_reducible apply z_b_R; (case h => first | with_unfolding_all rfl))
    | (with_reducible apply z_L; (case he => repeat (with_reducible first | exact zv_l _ | exact zv_r | apply zv_add | apply zv_sub | apply zv_neg | apply zv_or | apply zv_shl | apply zv_and)); (case hn => with_reducible first | assumption | exact zl_2 | exact zl_8 | exact zl_9 | exact zl_51 | exact zl_53 | exact zl_55); (case h => omega); (case hy => first | ((simp (disch := omega) only [zU_c, zU_e, zU_k, zF_c, zF_i, zF_o, zW_o, zW_i, zC_c, zC_i, zC_o]); rfl) | rfl))
    | (with_reducible apply z_7ones; (case e1 => repeat (with_reducible first | exact zv_l _ | exact zv_r | apply zv_add | apply zv_sub | apply zv_neg | apply zv_or | apply zv_shl | apply zv_and)); (case r1 => first | omega | ((simp (disch := omega) only [zU_c, zU_e, zU_k, zF_c, zF_i, zF_o, zW_o, zW_i, zC_c, zC_i, zC_o]); omega)))
    | (with_reducible apply z_7notesDrawn; (case r1 => first | omega | ((simp (disch := omega) only [zU_c, zU_e, zU_k, zF_c, zF_i, zF_o, zW_o, zW_i, zC_c, zC_i, zC_o]); omega)); (case r2 => first | omega | ((simp (disch := omega) only [zU_c, zU_e, zU_k, zF_c, zF_i, zF_o, zW_o, zW_i, zC_c, zC_i, zC_o]); omega)); (case a1 => assumption); intro _ _ _))
      (first
    | (with_reducible apply z_nm; (case he => repeat (with_reducible first | exact zv_l _ | exact zv_r | apply zv_add | apply zv_sub | apply zv_neg | apply zv_or | apply zv_shl | apply zv_and)))
    | (with_reducible apply z_b_ck; (case h => with_unfolding_all rfl))
    | (with_reducible apply z_I; (case h => first | with_unfolding_all rfl); (case hy => first | ((simp (disch := omega) only [zU_c, zU_e, zU_k, zF_c, zF_i, zF_o, zW_o, zW_i, zC_c, zC_i, zC_o]); rfl) | rfl))
    | (with_reducible apply z_b_R; (case h => first | with_unfolding_all rfl))
    | (with_reducible apply z_L; (case he => repeat (with_reducible first | exact zv_l _ | exact zv_r | apply zv_add | apply zv_sub | apply zv_neg | apply zv_or | apply zv_shl | apply zv_and)); (case hn => with_reducible first | assumption | exact zl_2 | exact zl_8 | exact zl_9 | exact zl_51 | exact zl_53 | exact zl_55); (case h => omega); (case hy => first | ((simp (disch := omega) only [zU_c, zU_e, zU_k, zF_c, zF_i, zF_o, zW_o, zW_i, zC_c, zC_i, zC_o]); rfl) | rfl))
    | (with_reducible apply z_7ones; (case e1 => repeat (with_reducible first | exact zv_l _ | exact zv_r | apply zv_add | apply zv_sub | apply zv_neg | apply zv_or | apply zv_shl | apply zv_and)); (case r1 => first | omega | ((simp (disch := omega) only [zU_c, zU_e, zU_k, zF_c, zF_i, zF_o, zW_o, zW_i, zC_c, zC_i, zC_o]); omega)))
    | (with_reducible apply z_7notesDrawn; (case r1 => first | omega | ((simp (disch := omega) only [zU_c, zU_e, zU_k, zF_c, zF_i, zF_o, zW_o, zW_i, zC_c, zC_i, zC_o]); omega)); (case r2 => first | omega | ((simp (disch := omega) only [zU_c, zU_e, zU_k, zF_c, zF_i, zF_o, zW_o, zW_i, zC_c, zC_i, zC_o]); omega)); (case a1 => assumption); intro _ _ _))
      refine z_ite (fun h55 => ?_) (fun h55 => ?_)
      · repeat' (first
    | (with_reducible apply z_nm; (case he => repeat (with_reducible first | exact zv_l _ | exact zv_r | apply zv_add | apply zv_sub | apply zv_neg | apply zv_or | apply zv_shl | apply zv_and)))
    | (with_reducible apply z_b_ck; (case h => with_unfolding_all rfl))
    | (with_reducible apply z_I; (case h => first | with_unfolding_all rfl); (case hy => first | ((simp (disch := omega) only [zU_c, zU_e, zU_k, zF_c, zF_i, zF_o, zW_o, zW_i, zC_c, zC_i, zC_o]); rfl) | rfl))
    | (with_reducible apply z_b_R; (case h => first | with_unfolding_all rfl))
    | (with_reducible apply z_L; (case he => repeat (with_reducible first | exact zv_l _ | exact zv_r | apply zv_add | apply zv_sub | apply zv_neg | apply zv_or | apply zv_shl | apply zv_and)); (case hn => with_reducible first | assumption | exact zl_2 | exact zl_8 | exact zl_9 | exact zl_51 | exact zl_53 | exact zl_55); (case h => omega); (case hy => first | ((simp (disch := omega) only [zU_c, zU_e, zU_k, zF_c, zF_i, zF_o, zW_o, zW_i, zC_c, zC_i, zC_o]); rfl) | rfl))
    | (with_reducible apply z_7ones; (case e1 => repeat (with_reducible first | exact zv_l _ | exact zv_r | apply zv_add | apply zv_sub | apply zv_neg | apply zv_or | apply zv_shl | apply zv_and)); (case r1 => first | omega | ((simp (disch := omega) only [zU_c, zU_e, zU_k, zF_c, zF_i, zF_o, zW_o, zW_i, zC_c, zC_i, zC_o]); omega)))
    | (with_reducible apply z_7notesDrawn; (case r1 => first | omega | ((simp (disch := omega) only [zU_c, zU_e, zU_k, zF_c, zF_i, zF_o, zW_o, zW_i, zC_c, zC_i, zC_o]); omega)); (case r2 => first | omega | ((simp (disch := omega) only [zU_c, zU_e, zU_k, zF_c, zF_i, zF_o, zW_o, zW_i, zC_c, zC_i, zC_o]); omega)); (case a1 => assumption); intro _ _ _))
        rw [zOr_bit (by omega) hb]
        exact hk _ _ _ (by omega) ⟨i + 1, by rw [zBn_t (decide_eq_true ⟨h53, h55⟩)]; rfl, by omega, rfl, rfl⟩
      · exact hno (fun q => h55 (of_decide_eq_true q).2)
    · exact hno (fun q => h53 (of_decide_eq_true q).1)
