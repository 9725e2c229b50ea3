/-! needs: the reference's loop; the pair -/
/-- the fewest of all below s -/
def zMl (P : Nat → Prop) (s : Nat) (v : Int) : Prop := (v = -1 ∧ ∀ c, c < s → ¬ P c) ∨ ∃ b : Nat, v = (b : Int) ∧ b < s ∧ P b ∧ ∀ c, c < s → P c → zPop b < zPop c ∨ (zPop b = zPop c ∧ b ≤ c)
theorem zMl_skip {P : Nat → Prop} {s : Nat} {v : Int} (h : zMl P s v) (hs : P s → ∃ b : Nat, v = (b : Int) ∧ zPop b ≤ zPop s) : zMl P (s + 1) v := by
  rcases h with ⟨rfl, h1⟩ | ⟨b, rfl, hb, pb, h1⟩
  · refine Or.inl ⟨rfl, fun c hc q => ?_⟩
    by_cases hcs : c = s
    · subst hcs
      obtain ⟨b, hb, -⟩ := hs q
      omega
    · exact h1 c (by omega) q
  · refine Or.inr ⟨b, rfl, by omega, pb, fun c hc q => ?_⟩
    by_cases hcs : c = s
    · subst hcs
      obtain ⟨b', hb', hp⟩ := hs q
      have : b = b' := by omega
      subst this
      omega
    · exact h1 c (by omega) q
theorem zMl_take {P : Nat → Prop} {s : Nat} {v : Int} (h : zMl P s v) (ps : P s) (hs : ∀ b : Nat, v = (b : Int) → zPop s < zPop b) : zMl P (s + 1) (s : Int) := by
  refine Or.inr ⟨s, rfl, by omega, ps, fun c hc q => ?_⟩
  by_cases hcs : c = s
  · subst hcs
    exact Or.inr ⟨rfl, Nat.le_refl _⟩
  · rcases h with ⟨rfl, h1⟩ | ⟨b, rfl, hb, pb, h1⟩
    · exact absurd q (h1 c (by omega))
    · have := h1 c (by omega) q
      have := hs b rfl
      omega
theorem zSb_and {s own b : Nat} (hbit : ∀ k, b.testBit k = (s.testBit k && !own.testBit k)) : b = 0 ↔ s &&& own = s := by
  constructor
  · intro h
    subst h
    refine zSb_of (fun k hk => ?_)
    have := hbit k
    rw [hk, Nat.zero_testBit] at this
    cases hw : own.testBit k with
    | true => rfl
    | false => rw [hw] at this; cases this
  · intro h
    refine Nat.eq_of_testBit_eq (fun k => ?_)
    rw [hbit, Nat.zero_testBit]
    cases hk : s.testBit k with
    | false => rfl
    | true => rw [zSb_bit h hk]; rfl
set_option maxRecDepth 100000 in
set_option maxHeartbeats 2000000 in
theorem s7_needsE {mc m : zMe} {e1 e2 : Int32} {t x : Int} (e3 : e1 = zI t) (e4 : e2 = zI x) (r1 : -2147483648 ≤ t ∧ t < 2147483648) (r2 : -2147483648 ≤ x ∧ x < 2147483648) (hW : zWf mc 3) (hE : zEq2 mc m 3 51) (r4 : -1 ≤ m 50 8 ∧ m 50 8 < 512) : zOk (f_X7_needs 50 e1 e2 (zM m)) (fun v m1 => (∃ y, v = zI y ∧ zNe mc t x y) ∧ zY m m1) := by
  subst e3; subst e4
  have hR := zRw_E hW hE
  have hT := hW.1.1
  have hN := hW.1.2.1
  have e0 : m 51 0 = mc 3 0 := hE.1.1
  unfold f_X7_needs
  (first
    | (with_reducible apply z_nm; (case he => repeat (with_reducible first | exact zv_l _ | exact zv_r | apply zv_add | apply zv_sub | apply zv_neg | apply zv_and | apply zv_xor)))
    | (with_reducible apply z_b_ck; (case h => with_unfolding_all rfl))
    | (with_reducible apply z_in; (case hA => first | with_reducible exact zj_l _ (by decide) | with_reducible exact zj_m1 | (with_reducible apply zj_e; repeat (with_reducible first | exact zv_l _ | exact zv_r | apply zv_add | apply zv_sub | apply zv_neg | apply zv_and | apply zv_xor))); (case hL => first | with_reducible exact zj_l _ (by decide) | with_reducible exact zj_m1 | (with_reducible apply zj_e; repeat (with_reducible first | exact zv_l _ | exact zv_r | apply zv_add | apply zv_sub | apply zv_neg | apply zv_and | apply zv_xor))); (case hH => first | with_reducible exact zj_l _ (by decide) | with_reducible exact zj_m1 | (with_reducible apply zj_e; repeat (with_reducible first | exact zv_l _ | exact zv_r | apply zv_add | apply zv_sub | apply zv_neg | apply zv_and | apply zv_xor))); (case rx => omega); (case rl => omega); (case rh => omega))
    | (with_reducible apply z_7ones; (case e1 => repeat (with_reducible first | exact zv_l _ | exact zv_r | apply zv_add | apply zv_sub | apply zv_neg | apply zv_and | apply zv_xor)); (case r1 => first | omega | ((simp (disch := omega) only [zU_c, zU_e, zU_k, zF_c, zF_i, zF_o, zW_o, zW_i, zC_c, zC_i, zC_o]); omega)))
    | (with_reducible apply z_7isTeam; (case e1 => repeat (with_reducible first | exact zv_l _ | exact zv_r | apply zv_add | apply zv_sub | apply zv_neg | apply zv_and | apply zv_xor)); (case r1 => first | omega | ((simp (disch := omega) only [zU_c, zU_e, zU_k, zF_c, zF_i, zF_o, zW_o, zW_i, zC_c, zC_i, zC_o]); omega)); (case r2 => first | omega | ((simp (disch := omega) only [zU_c, zU_e, zU_k, zF_c, zF_i, zF_o, zW_o, zW_i, zC_c, zC_i, zC_o]); omega)))
    | (with_reducible apply z_7ownLeft; (case e1 => repeat (with_reducible first | exact zv_l _ | exact zv_r | apply zv_add | apply zv_sub | apply zv_neg | apply zv_and | apply zv_xor)); (case r2 => first | omega | ((simp (disch := omega) only [zU_c, zU_e, zU_k, zF_c, zF_i, zF_o, zW_o, zW_i, zC_c, zC_i, zC_o]); omega)); (case a2 => assumption); (case a1 => assumption))
    | (with_reducible apply z_7looks; (case a2 => assumption))
    | (with_reducible apply z_7isEnough; (case e4 => repeat (with_reducible first | exact zv_l _ | exact zv_r | apply zv_add | apply zv_sub | apply zv_neg | apply zv_and | apply zv_xor)); (case e5 => repeat (with_reducible first | exact zv_l _ | exact zv_r | apply zv_add | apply zv_sub | apply zv_neg | apply zv_and | apply zv_xor)); (case e6 => repeat (with_reducible first | exact zv_l _ | exact zv_r | apply zv_add | apply zv_sub | apply zv_neg | apply zv_and | apply zv_xor)); (case r1 => first | omega | ((simp (disch := omega) only [zU_c, zU_e, zU_k, zF_c, zF_i, zF_o, zW_o, zW_i, zC_c, zC_i, zC_o]); omega)); (case r2 => first | omega | ((simp (disch := omega) only [zU_c, zU_e, zU_k, zF_c, zF_i, zF_o, zW_o, zW_i, zC_c, zC_i, zC_o]); omega)); (case r3 => first | omega | ((simp (disch := omega) only [zU_c, zU_e, zU_k, zF_c, zF_i, zF_o, zW_o, zW_i, zC_c, zC_i, zC_o]); omega)); (case a1 => assumption); (case r4 => first | omega | ((simp (disch := omega) only [zU_c, zU_e, zU_k, zF_c, zF_i, zF_o, zW_o, zW_i, zC_c, zC_i, zC_o]); omega)); intro _ _ _)
    | (with_reducible apply z_7needs; (case e3 => repeat (with_reducible first | exact zv_l _ | exact zv_r | apply zv_add | apply zv_sub | apply zv_neg | apply zv_and | apply zv_xor)); (case e4 => repeat (with_reducible first | exact zv_l _ | exact zv_r | apply zv_add | apply zv_sub | apply zv_neg | apply zv_and | apply zv_xor)); (case r1 => first | omega | ((simp (disch := omega) only [zU_c, zU_e, zU_k, zF_c, zF_i, zF_o, zW_o, zW_i, zC_c, zC_i, zC_o]); omega)); (case r2 => first | omega | ((simp (disch := omega) only [zU_c, zU_e, zU_k, zF_c, zF_i, zF_o, zW_o, zW_i, zC_c, zC_i, zC_o]); omega)); (case a1 => assumption); (case r4 => first | omega | ((simp (disch := omega) only [zU_c, zU_e, zU_k, zF_c, zF_i, zF_o, zW_o, zW_i, zC_c, zC_i, zC_o]); omega)); intro _ _ _))
  refine z_7isTeam rfl r1 hR.1.1 ?_
  rw [e0]
  refine z_B (fun hq => ?_) (fun hq => ?_)
  · exact ⟨_, _, rfl, ⟨-2, rfl, Or.inl ⟨fun w => hq w.1, rfl⟩⟩, zY_r _⟩
  · (first
    | (with_reducible apply z_nm; (case he => repeat (with_reducible first | exact zv_l _ | exact zv_r | apply zv_add | apply zv_sub | apply zv_neg | apply zv_and | apply zv_xor)))
    | (with_reducible apply z_b_ck; (case h => with_unfolding_all rfl))
    | (with_reducible apply z_in; (case hA => first | with_reducible exact zj_l _ (by decide) | with_reducible exact zj_m1 | (with_reducible apply zj_e; repeat (with_reducible first | exact zv_l _ | exact zv_r | apply zv_add | apply zv_sub | apply zv_neg | apply zv_and | apply zv_xor))); (case hL => first | with_reducible exact zj_l _ (by decide) | with_reducible exact zj_m1 | (with_reducible apply zj_e; repeat (with_reducible first | exact zv_l _ | exact zv_r | apply zv_add | apply zv_sub | apply zv_neg | apply zv_and | apply zv_xor))); (case hH => first | with_reducible exact zj_l _ (by decide) | with_reducible exact zj_m1 | (with_reducible apply zj_e; repeat (with_reducible first | exact zv_l _ | exact zv_r | apply zv_add | apply zv_sub | apply zv_neg | apply zv_and | apply zv_xor))); (case rx => omega); (case rl => omega); (case rh => omega))
    | (with_reducible apply z_7ones; (case e1 => repeat (with_reducible first | exact zv_l _ | exact zv_r | apply zv_add | apply zv_sub | apply zv_neg | apply zv_and | apply zv_xor)); (case r1 => first | omega | ((simp (disch := omega) only [zU_c, zU_e, zU_k, zF_c, zF_i, zF_o, zW_o, zW_i, zC_c, zC_i, zC_o]); omega)))
    | (with_reducible apply z_7isTeam; (case e1 => repeat (with_reducible first | exact zv_l _ | exact zv_r | apply zv_add | apply zv_sub | apply zv_neg | apply zv_and | apply zv_xor)); (case r1 => first | omega | ((simp (disch := omega) only [zU_c, zU_e, zU_k, zF_c, zF_i, zF_o, zW_o, zW_i, zC_c, zC_i, zC_o]); omega)); (case r2 => first | omega | ((simp (disch := omega) only [zU_c, zU_e, zU_k, zF_c, zF_i, zF_o, zW_o, zW_i, zC_c, zC_i, zC_o]); omega)))
    | (with_reducible apply z_7ownLeft; (case e1 => repeat (with_reducible first | exact zv_l _ | exact zv_r | apply zv_add | apply zv_sub | apply zv_neg | apply zv_and | apply zv_xor)); (case r2 => first | omega | ((simp (disch := omega) only [zU_c, zU_e, zU_k, zF_c, zF_i, zF_o, zW_o, zW_i, zC_c, zC_i, zC_o]); omega)); (case a2 => assumption); (case a1 => assumption))
    | (with_reducible apply z_7looks; (case a2 => assumption))
    | (with_reducible apply z_7isEnough; (case e4 => repeat (with_reducible first | exact zv_l _ | exact zv_r | apply zv_add | apply zv_sub | apply zv_neg | apply zv_and | apply zv_xor)); (case e5 => repeat (with_reducible first | exact zv_l _ | exact zv_r | apply zv_add | apply zv_sub | apply zv_neg | apply zv_and | apply zv_xor)); (case e6 => repeat (with_reducible first | exact zv_l _ | exact zv_r | apply zv_add | apply zv_sub | apply zv_neg | apply zv_and | apply zv_xor)); (case r1 => first | omega | ((simp (disch := omega) only [zU_c, zU_e, zU_k, zF_c, zF_i, zF_o, zW_o, zW_i, zC_c, zC_i, zC_o]); omega)); (case r2 => first | omega | ((simp (disch := omega) only [zU_c, zU_e, zU_k, zF_c, zF_i, zF_o, zW_o, zW_i, zC_c, zC_i, zC_o]); omega)); (case r3 => first | omega | ((simp (disch := omega) only [zU_c, zU_e, zU_k, zF_c, zF_i, zF_o, zW_o, zW_i, zC_c, zC_i, zC_o]); omega)); (case a1 => assumption); (case r4 => first | omega | ((simp (disch := omega) only [zU_c, zU_e, zU_k, zF_c, zF_i, zF_o, zW_o, zW_i, zC_c, zC_i, zC_o]); omega)); intro _ _ _)
    | (with_reducible apply z_7needs; (case e3 => repeat (with_reducible first | exact zv_l _ | exact zv_r | apply zv_add | apply zv_sub | apply zv_neg | apply zv_and | apply zv_xor)); (case e4 => repeat (with_reducible first | exact zv_l _ | exact zv_r | apply zv_add | apply zv_sub | apply zv_neg | apply zv_and | apply zv_xor)); (case r1 => first | omega | ((simp (disch := omega) only [zU_c, zU_e, zU_k, zF_c, zF_i, zF_o, zW_o, zW_i, zC_c, zC_i, zC_o]); omega)); (case r2 => first | omega | ((simp (disch := omega) only [zU_c, zU_e, zU_k, zF_c, zF_i, zF_o, zW_o, zW_i, zC_c, zC_i, zC_o]); omega)); (case a1 => assumption); (case r4 => first | omega | ((simp (disch := omega) only [zU_c, zU_e, zU_k, zF_c, zF_i, zF_o, zW_o, zW_i, zC_c, zC_i, zC_o]); omega)); intro _ _ _))
    (first
    | (with_reducible apply z_B; all_goals (intro _; try (exfalso; omega)))
    | (with_reducible apply z_E; all_goals intro _)
    | (with_reducible apply z_lt; (case ha => repeat (with_reducible first | exact zv_l _ | exact zv_r | apply zv_add | apply zv_sub | apply zv_neg | apply zv_and | apply zv_xor)); (case hb => repeat (with_reducible first | exact zv_l _ | exact zv_r | apply zv_add | apply zv_sub | apply zv_neg | apply zv_and | apply zv_xor)); (case hx => omega); (case hy => omega); all_goals (intro _; try (exfalso; omega)))
    | (with_reducible apply z_le; (case ha => repeat (with_reducible first | exact zv_l _ | exact zv_r | apply zv_add | apply zv_sub | apply zv_neg | apply zv_and | apply zv_xor)); (case hb => repeat (with_reducible first | exact zv_l _ | exact zv_r | apply zv_add | apply zv_sub | apply zv_neg | apply zv_and | apply zv_xor)); (case hx => omega); (case hy => omega); all_goals (intro _; try (exfalso; omega)))
    | (with_reducible apply z_eq; (case ha => repeat (with_reducible first | exact zv_l _ | exact zv_r | apply zv_add | apply zv_sub | apply zv_neg | apply zv_and | apply zv_xor)); (case hb => repeat (with_reducible first | exact zv_l _ | exact zv_r | apply zv_add | apply zv_sub | apply zv_neg | apply zv_and | apply zv_xor)); (case hx => omega); (case hy => omega); all_goals (intro _; try (exfalso; omega))))
    · rename_i hx
      exact ⟨_, _, rfl, ⟨-2, rfl, Or.inl ⟨fun w => hx (by omega), rfl⟩⟩, zY_r _⟩
    · rename_i hx
      refine z_7looks hR ?_
      have hC := zCr_L7 hW hE
      have hY : zY m (zL7 m (zRs m)) := zL7_Y
      have hA := zL7_A hR
      have hR2 : zRw (zL7 m (zRs m)) := zRw_X (zX_51 hY.1) hR
      generalize zL7 m (zRs m) = M at hC hY hA hR2
      refine z_7ownLeft rfl r1 hR2 hA ?_
      rw [zOwn_Cr (t := t) hC hW]
      have hown := zOwn_lt (m := mc) (r := 3) (t := t) hN
      generalize hPd : (fun b => b &&& zOwn mc 3 t = b ∧ zCn mc 3 t b) = P
      have hP : ∀ b, P b ↔ (b &&& zOwn mc 3 t = b ∧ zCn mc 3 t b) := fun b => by rw [← hPd]
      have hfin : ∀ y z, zMl P 512 z → (y = if x = 0 ∧ ¬ z = -1 then (zPop z.toNat : Int) else z) → zNe mc t x y := fun y z hz hy => by
        refine Or.inr ⟨⟨hq, by omega⟩, z, ?_, hy⟩
        rw [hPd]
        exact hz
      refine z_lp (fun n v m1 => ∃ (b : Int) (s : Nat), v = (50, zI t, zI x, zI (zOwn mc 3 t : Nat), zI b, zI (s : Int)) ∧ zMl P s b ∧ s ≤ 512 ∧ n = 512 - s ∧ zY m m1) (fun _ _ v m1 => (∃ y, v = zI y ∧ zNe mc t x y) ∧ zY m m1) ?_ 600 512 _ _ (by omega) ⟨-1, 0, rfl, Or.inl ⟨rfl, fun c hc => absurd hc (by omega)⟩, by omega, by omega, hY⟩
      rintro n v m1 k ⟨b, s, rfl, hb, hs, rfl, hY1⟩ hk
      have hE1 : zEq2 mc m1 3 51 := zEq2_c (fun _ _ _ _ => rfl) (zX_51 hY1.1) hE
      have h8 := hY1.2 r4
      have hbr : -1 ≤ b ∧ b < 512 := by
        rcases hb with ⟨rfl, -⟩ | ⟨c, rfl, hc, -⟩ <;> omega
      have h76 : s < 512 → (P s → ∃ c : Nat, b = (c : Int) ∧ zPop c ≤ zPop s) → zOk (f_X7_needs_76 k 50 (zI t) (zI x) (zI (zOwn mc 3 t : Nat)) (zI b) (zI (s : Int)) (zM m1)) (fun v m1 => (∃ y, v = zI y ∧ zNe mc t x y) ∧ zY m m1) := fun hs hsk => by
        unfold f_X7_needs_76 f_X7_needs_77
        (first
    | (with_reducible apply z_B; all_goals (intro _; try (exfalso; omega)))
    | (with_reducible apply z_E; all_goals intro _)
    | (with_reducible apply z_lt; (case ha => repeat (with_reducible first | exact zv_l _ | exact zv_r | apply zv_add | apply zv_sub | apply zv_neg | apply zv_and | apply zv_xor)); (case hb => repeat (with_reducible first | exact zv_l _ | exact zv_r | apply zv_add | apply zv_sub | apply zv_neg | apply zv_and | apply zv_xor)); (case hx => omega); (case hy => omega); all_goals (intro _; try (exfalso; omega)))
    | (with_reducible apply z_le; (case ha => repeat (with_reducible first | exact zv_l _ | exact zv_r | apply zv_add | apply zv_sub | apply zv_neg | apply zv_and | apply zv_xor)); (case hb => repeat (with_reducible first | exact zv_l _ | exact zv_r | apply zv_add | apply zv_sub | apply zv_neg | apply zv_and | apply zv_xor)); (case hx => omega); (case hy => omega); all_goals (intro _; try (exfalso; omega)))
    | (with_reducible apply z_eq; (case ha => repeat (with_reducible first | exact zv_l _ | exact zv_r | apply zv_add | apply zv_sub | apply zv_neg | apply zv_and | apply zv_xor)); (case hb => repeat (with_reducible first | exact zv_l _ | exact zv_r | apply zv_add | apply zv_sub | apply zv_neg | apply zv_and | apply zv_xor)); (case hx => omega); (case hy => omega); all_goals (intro _; try (exfalso; omega))))
        repeat' (first
    | (with_reducible apply z_nm; (case he => repeat (with_reducible first | exact zv_l _ | exact zv_r | apply zv_add | apply zv_sub | apply zv_neg | apply zv_and | apply zv_xor)))
    | (with_reducible apply z_b_ck; (case h => with_unfolding_all rfl))
    | (with_reducible apply z_in; (case hA => first | with_reducible exact zj_l _ (by decide) | with_reducible exact zj_m1 | (with_reducible apply zj_e; repeat (with_reducible first | exact zv_l _ | exact zv_r | apply zv_add | apply zv_sub | apply zv_neg | apply zv_and | apply zv_xor))); (case hL => first | with_reducible exact zj_l _ (by decide) | with_reducible exact zj_m1 | (with_reducible apply zj_e; repeat (with_reducible first | exact zv_l _ | exact zv_r | apply zv_add | apply zv_sub | apply zv_neg | apply zv_and | apply zv_xor))); (case hH => first | with_reducible exact zj_l _ (by decide) | with_reducible exact zj_m1 | (with_reducible apply zj_e; repeat (with_reducible first | exact zv_l _ | exact zv_r | apply zv_add | apply zv_sub | apply zv_neg | apply zv_and | apply zv_xor))); (case rx => omega); (case rl => omega); (case rh => omega))
    | (with_reducible apply z_7ones; (case e1 => repeat (with_reducible first | exact zv_l _ | exact zv_r | apply zv_add | apply zv_sub | apply zv_neg | apply zv_and | apply zv_xor)); (case r1 => first | omega | ((simp (disch := omega) only [zU_c, zU_e, zU_k, zF_c, zF_i, zF_o, zW_o, zW_i, zC_c, zC_i, zC_o]); omega)))
    | (with_reducible apply z_7isTeam; (case e1 => repeat (with_reducible first | exact zv_l _ | exact zv_r | apply zv_add | apply zv_sub | apply zv_neg | apply zv_and | apply zv_xor)); (case r1 => first | omega | ((simp (disch := omega) only [zU_c, zU_e, zU_k, zF_c, zF_i, zF_o, zW_o, zW_i, zC_c, zC_i, zC_o]); omega)); (case r2 => first | omega | ((simp (disch := omega) only [zU_c, zU_e, zU_k, zF_c, zF_i, zF_o, zW_o, zW_i, zC_c, zC_i, zC_o]); omega)))
    | (with_reducible apply z_7ownLeft; (case e1 => repeat (with_reducible first | exact zv_l _ | exact zv_r | apply zv_add | apply zv_sub | apply zv_neg | apply zv_and | apply zv_xor)); (case r2 => first | omega | ((simp (disch := omega) only [zU_c, zU_e, zU_k, zF_c, zF_i, zF_o, zW_o, zW_i, zC_c, zC_i, zC_o]); omega)); (case a2 => assumption); (case a1 => assumption))
    | (with_reducible apply z_7looks; (case a2 => assumption))
    | (with_reducible apply z_7isEnough; (case e4 => repeat (with_reducible first | exact zv_l _ | exact zv_r | apply zv_add | apply zv_sub | apply zv_neg | apply zv_and | apply zv_xor)); (case e5 => repeat (with_reducible first | exact zv_l _ | exact zv_r | apply zv_add | apply zv_sub | apply zv_neg | apply zv_and | apply zv_xor)); (case e6 => repeat (with_reducible first | exact zv_l _ | exact zv_r | apply zv_add | apply zv_sub | apply zv_neg | apply zv_and | apply zv_xor)); (case r1 => first | omega | ((simp (disch := omega) only [zU_c, zU_e, zU_k, zF_c, zF_i, zF_o, zW_o, zW_i, zC_c, zC_i, zC_o]); omega)); (case r2 => first | omega | ((simp (disch := omega) only [zU_c, zU_e, zU_k, zF_c, zF_i, zF_o, zW_o, zW_i, zC_c, zC_i, zC_o]); omega)); (case r3 => first | omega | ((simp (disch := omega) only [zU_c, zU_e, zU_k, zF_c, zF_i, zF_o, zW_o, zW_i, zC_c, zC_i, zC_o]); omega)); (case a1 => assumption); (case r4 => first | omega | ((simp (disch := omega) only [zU_c, zU_e, zU_k, zF_c, zF_i, zF_o, zW_o, zW_i, zC_c, zC_i, zC_o]); omega)); intro _ _ _)
    | (with_reducible apply z_7needs; (case e3 => repeat (with_reducible first | exact zv_l _ | exact zv_r | apply zv_add | apply zv_sub | apply zv_neg | apply zv_and | apply zv_xor)); (case e4 => repeat (with_reducible first | exact zv_l _ | exact zv_r | apply zv_add | apply zv_sub | apply zv_neg | apply zv_and | apply zv_xor)); (case r1 => first | omega | ((simp (disch := omega) only [zU_c, zU_e, zU_k, zF_c, zF_i, zF_o, zW_o, zW_i, zC_c, zC_i, zC_o]); omega)); (case r2 => first | omega | ((simp (disch := omega) only [zU_c, zU_e, zU_k, zF_c, zF_i, zF_o, zW_o, zW_i, zC_c, zC_i, zC_o]); omega)); (case a1 => assumption); (case r4 => first | omega | ((simp (disch := omega) only [zU_c, zU_e, zU_k, zF_c, zF_i, zF_o, zW_o, zW_i, zC_c, zC_i, zC_o]); omega)); intro _ _ _))
        exact hk _ _ _ (by omega) ⟨b, s + 1, rfl, zMl_skip hb hsk, by omega, rfl, hY1⟩
      have h72 : s < 512 → s &&& zOwn mc 3 t = s → (∀ c : Nat, b = (c : Int) → zPop s < zPop c) → zOk (f_X7_needs_72 k 50 (zI t) (zI x) (zI (zOwn mc 3 t : Nat)) (zI b) (zI (s : Int)) (zM m1)) (fun v m1 => (∃ y, v = zI y ∧ zNe mc t x y) ∧ zY m m1) := fun hs hsub hlt => by
        unfold f_X7_needs_72 f_X7_needs_77
        (first
    | (with_reducible apply z_B; all_goals (intro _; try (exfalso; omega)))
    | (with_reducible apply z_E; all_goals intro _)
    | (with_reducible apply z_lt; (case ha => repeat (with_reducible first | exact zv_l _ | exact zv_r | apply zv_add | apply zv_sub | apply zv_neg | apply zv_and | apply zv_xor)); (case hb => repeat (with_reducible first | exact zv_l _ | exact zv_r | apply zv_add | apply zv_sub | apply zv_neg | apply zv_and | apply zv_xor)); (case hx => omega); (case hy => omega); all_goals (intro _; try (exfalso; omega)))
    | (with_reducible apply z_le; (case ha => repeat (with_reducible first | exact zv_l _ | exact zv_r | apply zv_add | apply zv_sub | apply zv_neg | apply zv_and | apply zv_xor)); (case hb => repeat (with_reducible first | exact zv_l _ | exact zv_r | apply zv_add | apply zv_sub | apply zv_neg | apply zv_and | apply zv_xor)); (case hx => omega); (case hy => omega); all_goals (intro _; try (exfalso; omega)))
    | (with_reducible apply z_eq; (case ha => repeat (with_reducible first | exact zv_l _ | exact zv_r | apply zv_add | apply zv_sub | apply zv_neg | apply zv_and | apply zv_xor)); (case hb => repeat (with_reducible first | exact zv_l _ | exact zv_r | apply zv_add | apply zv_sub | apply zv_neg | apply zv_and | apply zv_xor)); (case hx => omega); (case hy => omega); all_goals (intro _; try (exfalso; omega))))
        refine z_call (s7_isEnoughE hW hE1 hq hs hsub h8) (fun v m2 hv => ?_)
        obtain ⟨rfl, hX2, h82⟩ := hv
        have hY2 := zY_t hY1 ⟨hX2, fun _ => h82⟩
        refine z_E (fun hno => ?_) (fun hyes => ?_)
        · repeat' (first
    | (with_reducible apply z_nm; (case he => repeat (with_reducible first | exact zv_l _ | exact zv_r | apply zv_add | apply zv_sub | apply zv_neg | apply zv_and | apply zv_xor)))
    | (with_reducible apply z_b_ck; (case h => with_unfolding_all rfl))
    | (with_reducible apply z_in; (case hA => first | with_reducible exact zj_l _ (by decide) | with_reducible exact zj_m1 | (with_reducible apply zj_e; repeat (with_reducible first | exact zv_l _ | exact zv_r | apply zv_add | apply zv_sub | apply zv_neg | apply zv_and | apply zv_xor))); (case hL => first | with_reducible exact zj_l _ (by decide) | with_reducible exact zj_m1 | (with_reducible apply zj_e; repeat (with_reducible first | exact zv_l _ | exact zv_r | apply zv_add | apply zv_sub | apply zv_neg | apply zv_and | apply zv_xor))); (case hH => first | with_reducible exact zj_l _ (by decide) | with_reducible exact zj_m1 | (with_reducible apply zj_e; repeat (with_reducible first | exact zv_l _ | exact zv_r | apply zv_add | apply zv_sub | apply zv_neg | apply zv_and | apply zv_xor))); (case rx => omega); (case rl => omega); (case rh => omega))
    | (with_reducible apply z_7ones; (case e1 => repeat (with_reducible first | exact zv_l _ | exact zv_r | apply zv_add | apply zv_sub | apply zv_neg | apply zv_and | apply zv_xor)); (case r1 => first | omega | ((simp (disch := omega) only [zU_c, zU_e, zU_k, zF_c, zF_i, zF_o, zW_o, zW_i, zC_c, zC_i, zC_o]); omega)))
    | (with_reducible apply z_7isTeam; (case e1 => repeat (with_reducible first | exact zv_l _ | exact zv_r | apply zv_add | apply zv_sub | apply zv_neg | apply zv_and | apply zv_xor)); (case r1 => first | omega | ((simp (disch := omega) only [zU_c, zU_e, zU_k, zF_c, zF_i, zF_o, zW_o, zW_i, zC_c, zC_i, zC_o]); omega)); (case r2 => first | omega | ((simp (disch := omega) only [zU_c, zU_e, zU_k, zF_c, zF_i, zF_o, zW_o, zW_i, zC_c, zC_i, zC_o]); omega)))
    | (with_reducible apply z_7ownLeft; (case e1 => repeat (with_reducible first | exact zv_l _ | exact zv_r | apply zv_add | apply zv_sub | apply zv_neg | apply zv_and | apply zv_xor)); (case r2 => first | omega | ((simp (disch := omega) only [zU_c, zU_e, zU_k, zF_c, zF_i, zF_o, zW_o, zW_i, zC_c, zC_i, zC_o]); omega)); (case a2 => assumption); (case a1 => assumption))
    | (with_reducible apply z_7looks; (case a2 => assumption))
    | (with_reducible apply z_7isEnough; (case e4 => repeat (with_reducible first | exact zv_l _ | exact zv_r | apply zv_add | apply zv_sub | apply zv_neg | apply zv_and | apply zv_xor)); (case e5 => repeat (with_reducible first | exact zv_l _ | exact zv_r | apply zv_add | apply zv_sub | apply zv_neg | apply zv_and | apply zv_xor)); (case e6 => repeat (with_reducible first | exact zv_l _ | exact zv_r | apply zv_add | apply zv_sub | apply zv_neg | apply zv_and | apply zv_xor)); (case r1 => first | omega | ((simp (disch := omega) only [zU_c, zU_e, zU_k, zF_c, zF_i, zF_o, zW_o, zW_i, zC_c, zC_i, zC_o]); omega)); (case r2 => first | omega | ((simp (disch := omega) only [zU_c, zU_e, zU_k, zF_c, zF_i, zF_o, zW_o, zW_i, zC_c, zC_i, zC_o]); omega)); (case r3 => first | omega | ((simp (disch := omega) only [zU_c, zU_e, zU_k, zF_c, zF_i, zF_o, zW_o, zW_i, zC_c, zC_i, zC_o]); omega)); (case a1 => assumption); (case r4 => first | omega | ((simp (disch := omega) only [zU_c, zU_e, zU_k, zF_c, zF_i, zF_o, zW_o, zW_i, zC_c, zC_i, zC_o]); omega)); intro _ _ _)
    | (with_reducible apply z_7needs; (case e3 => repeat (with_reducible first | exact zv_l _ | exact zv_r | apply zv_add | apply zv_sub | apply zv_neg | apply zv_and | apply zv_xor)); (case e4 => repeat (with_reducible first | exact zv_l _ | exact zv_r | apply zv_add | apply zv_sub | apply zv_neg | apply zv_and | apply zv_xor)); (case r1 => first | omega | ((simp (disch := omega) only [zU_c, zU_e, zU_k, zF_c, zF_i, zF_o, zW_o, zW_i, zC_c, zC_i, zC_o]); omega)); (case r2 => first | omega | ((simp (disch := omega) only [zU_c, zU_e, zU_k, zF_c, zF_i, zF_o, zW_o, zW_i, zC_c, zC_i, zC_o]); omega)); (case a1 => assumption); (case r4 => first | omega | ((simp (disch := omega) only [zU_c, zU_e, zU_k, zF_c, zF_i, zF_o, zW_o, zW_i, zC_c, zC_i, zC_o]); omega)); intro _ _ _))
          exact hk _ _ _ (by omega) ⟨b, s + 1, rfl, zMl_skip hb (fun q => absurd ((hP s).mp q).2 hno), by omega, rfl, hY2⟩
        · repeat' (first
    | (with_reducible apply z_nm; (case he => repeat (with_reducible first | exact zv_l _ | exact zv_r | apply zv_add | apply zv_sub | apply zv_neg | apply zv_and | apply zv_xor)))
    | (with_reducible apply z_b_ck; (case h => with_unfolding_all rfl))
    | (with_reducible apply z_in; (case hA => first | with_reducible exact zj_l _ (by decide) | with_reducible exact zj_m1 | (with_reducible apply zj_e; repeat (with_reducible first | exact zv_l _ | exact zv_r | apply zv_add | apply zv_sub | apply zv_neg | apply zv_and | apply zv_xor))); (case hL => first | with_reducible exact zj_l _ (by decide) | with_reducible exact zj_m1 | (with_reducible apply zj_e; repeat (with_reducible first | exact zv_l _ | exact zv_r | apply zv_add | apply zv_sub | apply zv_neg | apply zv_and | apply zv_xor))); (case hH => first | with_reducible exact zj_l _ (by decide) | with_reducible exact zj_m1 | (with_reducible apply zj_e; repeat (with_reducible first | exact zv_l _ | exact zv_r | apply zv_add | apply zv_sub | apply zv_neg | apply zv_and | apply zv_xor))); (case rx => omega); (case rl => omega); (case rh => omega))
    | (with_reducible apply z_7ones; (case e1 => repeat (with_reducible first | exact zv_l _ | exact zv_r | apply zv_add | apply zv_sub | apply zv_neg | apply zv_and | apply zv_xor)); (case r1 => first | omega | ((simp (disch := omega) only [zU_c, zU_e, zU_k, zF_c, zF_i, zF_o, zW_o, zW_i, zC_c, zC_i, zC_o]); omega)))
    | (with_reducible apply z_7isTeam; (case e1 => repeat (with_reducible first | exact zv_l _ | exact zv_r | apply zv_add | apply zv_sub | apply zv_neg | apply zv_and | apply zv_xor)); (case r1 => first | omega | ((simp (disch := omega) only [zU_c, zU_e, zU_k, zF_c, zF_i, zF_o, zW_o, zW_i, zC_c, zC_i, zC_o]); omega)); (case r2 => first | omega | ((simp (disch := omega) only [zU_c, zU_e, zU_k, zF_c, zF_i, zF_o, zW_o, zW_i, zC_c, zC_i, zC_o]); omega)))
    | (with_reducible apply z_7ownLeft; (case e1 => repeat (with_reducible first | exact zv_l _ | exact zv_r | apply zv_add | apply zv_sub | apply zv_neg | apply zv_and | apply zv_xor)); (case r2 => first | omega | ((simp (disch := omega) only [zU_c, zU_e, zU_k, zF_c, zF_i, zF_o, zW_o, zW_i, zC_c, zC_i, zC_o]); omega)); (case a2 => assumption); (case a1 => assumption))
    | (with_reducible apply z_7looks; (case a2 => assumption))
    | (with_reducible apply z_7isEnough; (case e4 => repeat (with_reducible first | exact zv_l _ | exact zv_r | apply zv_add | apply zv_sub | apply zv_neg | apply zv_and | apply zv_xor)); (case e5 => repeat (with_reducible first | exact zv_l _ | exact zv_r | apply zv_add | apply zv_sub | apply zv_neg | apply zv_and | apply zv_xor)); (case e6 => repeat (with_reducible first | exact zv_l _ | exact zv_r | apply zv_add | apply zv_sub | apply zv_neg | apply zv_and | apply zv_xor)); (case r1 => first | omega | ((simp (disch := omega) only [zU_c, zU_e, zU_k, zF_c, zF_i, zF_o, zW_o, zW_i, zC_c, zC_i, zC_o]); omega)); (case r2 => first | omega | ((simp (disch := omega) only [zU_c, zU_e, zU_k, zF_c, zF_i, zF_o, zW_o, zW_i, zC_c, zC_i, zC_o]); omega)); (case r3 => first | omega | ((simp (disch := omega) only [zU_c, zU_e, zU_k, zF_c, zF_i, zF_o, zW_o, zW_i, zC_c, zC_i, zC_o]); omega)); (case a1 => assumption); (case r4 => first | omega | ((simp (disch := omega) only [zU_c, zU_e, zU_k, zF_c, zF_i, zF_o, zW_o, zW_i, zC_c, zC_i, zC_o]); omega)); intro _ _ _)
    | (with_reducible apply z_7needs; (case e3 => repeat (with_reducible first | exact zv_l _ | exact zv_r | apply zv_add | apply zv_sub | apply zv_neg | apply zv_and | apply zv_xor)); (case e4 => repeat (with_reducible first | exact zv_l _ | exact zv_r | apply zv_add | apply zv_sub | apply zv_neg | apply zv_and | apply zv_xor)); (case r1 => first | omega | ((simp (disch := omega) only [zU_c, zU_e, zU_k, zF_c, zF_i, zF_o, zW_o, zW_i, zC_c, zC_i, zC_o]); omega)); (case r2 => first | omega | ((simp (disch := omega) only [zU_c, zU_e, zU_k, zF_c, zF_i, zF_o, zW_o, zW_i, zC_c, zC_i, zC_o]); omega)); (case a1 => assumption); (case r4 => first | omega | ((simp (disch := omega) only [zU_c, zU_e, zU_k, zF_c, zF_i, zF_o, zW_o, zW_i, zC_c, zC_i, zC_o]); omega)); intro _ _ _))
          exact hk _ _ _ (by omega) ⟨(s : Int), s + 1, rfl, zMl_take hb ((hP s).mpr ⟨hsub, hyes⟩) hlt, by omega, rfl, hY2⟩
      unfold f_X7_needs_37
      dsimp only
      refine z_le (x := 512) (y := (s : Int)) (zv_l 512) rfl (by omega) (by omega) (fun h512 => ?_) (fun h512 => ?_)
      · have : s = 512 := by omega
        subst this
        refine z_eq (x := x) (y := 1) rfl (zv_l 1) (by omega) (by omega) (fun hx1 => ?_) (fun hx1 => ?_)
        · exact ⟨_, _, rfl, ⟨b, rfl, hfin b b hb (by rw [if_neg (fun w => by have := w.1; omega)])⟩, hY1⟩
        · refine z_le (x := 0) (y := b) rfl rfl (by omega) (by omega) (fun hb0 => ?_) (fun hb0 => ?_)
          · refine z_7ones (x := b.toNat) (by rw [Int.toNat_of_nonneg hb0]) (by omega) ?_
            exact ⟨_, _, rfl, ⟨_, rfl, hfin _ b hb (by rw [if_pos ⟨by omega, by omega⟩])⟩, hY1⟩
          · exact ⟨_, _, rfl, ⟨b, rfl, hfin b b hb (by rw [if_neg (fun w => by have := w.2; omega)])⟩, hY1⟩
      · obtain ⟨w, hw, ew, hbit⟩ := zAndN (x := s) (w := zOwn mc 3 t) (by omega) hown
        have hsb := zSb_and hbit
        refine z_eq (x := (w : Int)) (y := 0) (by rw [← ew]; exact zv_and rfl (zv_xor rfl rfl)) rfl (by omega) (by omega) (fun hw0 => ?_) (fun hw0 => ?_)
        · have hsub := hsb.mp (by omega)
          refine z_lt (x := b) (y := 0) rfl rfl (by omega) (by omega) (fun hb0 => ?_) (fun hb0 => ?_)
          · exact h72 (by omega) hsub (fun c hc => by exfalso; omega)
          · refine z_7ones rfl (by omega) ?_
            refine z_7ones (x := b.toNat) (by rw [Int.toNat_of_nonneg (by omega)]) (by omega) ?_
            have p1 := zPop_le s
            have p2 := zPop_le b.toNat
            refine z_le (x := (zPop b.toNat : Int)) (y := (zPop s : Int)) rfl rfl (by omega) (by omega) (fun hle => ?_) (fun hle => ?_)
            · exact h76 (by omega) (fun _ => ⟨b.toNat, by omega, by omega⟩)
            · exact h72 (by omega) hsub (fun c hc => by
                have : c = b.toNat := by omega
                subst this
                omega)
        · exact h76 (by omega) (fun q => by
            have := hsb.mpr ((hP s).mp q).1
            exfalso
            omega)
theorem zp_needsE {m : zMe} (h : zInv m) (a b : Int32) : zPr (f_X6_needs 0 a b (zM m)) (f_X7_needs 50 a b) True := by
  obtain ⟨t, rfl, ht⟩ := zI_of a
  obtain ⟨x, rfl, hx⟩ := zI_of b
  refine zPr_of ((s6_needsE rfl rfl ht hx h.1.1).mono (fun v m1 hv => ?_))
  obtain ⟨⟨y, rfl, hy⟩, hF⟩ := hv
  have hE := zEq2_41 h.1.2 (m1 := m1) (fun c hc j => hF c (by omega) j)
  obtain ⟨-, -, h8⟩ := zFr_R h hF
  refine (s7_needsE rfl rfl ht hx h.1.1 hE h8).mono (fun w m2 hw => ?_)
  obtain ⟨⟨y', rfl, hy'⟩, hY⟩ := hw
  exact ⟨zInv_s h hF hY, fun _ => by rw [zNe_u hy hy']⟩
