/-! who is in: class and reference tell the same -/
theorem zFo_ends {K d : Int} {L : List (Int × Int)} {f g : Int → Int} (h : ∀ u, 0 ≤ u → u < 6 → f u = g u ∨ (0 ≤ f u ∧ 0 ≤ g u ∧ ∀ e, e ∈ L → ¬ u = e.1 ∧ ¬ u = e.2)) : zFo K d L f = zFo K d L g := by
  induction L generalizing f g with
  | nil =>
    by_cases hf : ∀ u, 0 ≤ u → u < 6 → 0 ≤ f u
    · have e1 : zFo K d [] f = some [] := zIf_p hf
      have e2 : zFo K d [] g = some [] := zIf_p (fun u u0 u1 => by
        have q1 := hf u u0 u1
        have q2 := h u u0 u1
        omega)
      rw [e1, e2]
    · have e1 : zFo K d [] f = none := zIf_n hf
      have e2 : zFo K d [] g = none := zIf_n (fun q => hf (fun u u0 u1 => by
        have q1 := q u u0 u1
        have q2 := h u u0 u1
        omega))
      rw [e1, e2]
  | cons e es ih =>
    have hh : ∀ x, zFo K d es (fun u => f u - zGn K e.1 e.2 x u) = zFo K d es (fun u => g u - zGn K e.1 e.2 x u) := fun x => ih (fun u u0 u1 => by
      rcases h u u0 u1 with q | ⟨q1, q2, q3⟩
      · left
        show f u - _ = g u - _
        rw [q]
      · right
        have hz : zGn K e.1 e.2 x u = 0 := by
          have := q3 e (by simp)
          unfold zGn
          rw [if_neg this.1, if_neg this.2]
          rfl
        refine ⟨?_, ?_, fun y hy => q3 y (by simp [hy])⟩
        · show 0 ≤ f u - _
          omega
        · show 0 ≤ g u - _
          omega)
    rw [zFo_c, zFo_c, hh, hh, hh]
/-- what the reference looks at is the class's group at r -/
def zCr (M mc : zMe) (r : Nat) : Prop := (M 51 0 = mc r 0 ∧ M 51 1 = mc r 1 ∧ M 51 2 = mc r 2) ∧ (∀ k, 0 ≤ k → k < mc r 1 → M 51 (51 + k) = mc (r + 4) k ∧ M 51 (60 + k) = mc (r + 5) k ∧ M 53 k = mc (r + 7) k) ∧ ∀ u, 0 ≤ u → u < mc r 0 → M 54 u = zPt mc r u
theorem zLs_r {M mc : zMe} {r : Nat} {t : Int} {n : Nat} (h : ∀ k : Nat, k < n → M 51 (51 + (k : Int)) = mc (r + 4) (k : Int) ∧ M 51 (60 + (k : Int)) = mc (r + 5) (k : Int) ∧ M 53 (k : Int) = mc (r + 7) (k : Int)) : zLs (zV M) 3 t n = zLs mc r t n := by
  induction n with
  | zero => rfl
  | succ n ih =>
    obtain ⟨h1, h2, h3⟩ := h n (by omega)
    have e1 : zLs (zV M) 3 t (n + 1) = if M 53 (n : Int) = -1 ∧ (¬ M 51 (51 + (n : Int)) = t ∧ ¬ M 51 (60 + (n : Int)) = t) then zLs (zV M) 3 t n ++ [n] else zLs (zV M) 3 t n := rfl
    have e2 : zLs mc r t (n + 1) = if mc (r + 7) (n : Int) = -1 ∧ (¬ mc (r + 4) (n : Int) = t ∧ ¬ mc (r + 5) (n : Int) = t) then zLs mc r t n ++ [n] else zLs mc r t n := rfl
    rw [e1, e2, h1, h2, h3, ih (fun k hk => h k (by omega))]
/-- the rooms of t alike -/
noncomputable def zHn (mc : zMe) (r : Nat) (t : Int) : Option (List Int) := zFo (mc r 2) (if mc r 2 = 0 then 0 else 1) (zGl mc r (zLs mc r t (mc r 1).toNat)) (zFr1 mc r t)
theorem zHn_iff {m : zMe} {r : Nat} {t : Int} : (zHn m r t).isSome = true ↔ zHr m r t := zFo_iff
theorem zHn_room {m : zMe} {r : Nat} {t : Int} (hW : zWf m r) (ht : 0 ≤ t ∧ t < m r 0) {g : Int → Int} (hg : ∀ u, g u = if u < m r 0 ∧ ¬ u = t then zRe m r t - zPt m r u else 0) : zFo (m r 2) (if m r 2 = 0 then 0 else 1) (zGl m r (zLs m r t (m r 1).toNat)) g = zHn m r t := by
  refine zFo_ends (fun u u0 u1 => ?_)
  rw [hg]
  by_cases hq : u < m r 0 ∧ ¬ u = t
  · left
    rw [if_pos hq]
    rfl
  · right
    rw [if_neg hq]
    refine ⟨Int.le_refl 0, ?_, fun e he => ?_⟩
    · by_cases hu : u = t
      · rw [hu]
        exact zFr1_t hW
      · have h1 := zPt_out hW (u := u) (by omega)
        have h2 := zRe_range hW (t := t) ht.1
        unfold zFr1
        omega
    · have := zGl_e hW he
      omega
theorem zFoI_r {M mc : zMe} {r : Nat} {t : Int} (h : zCr M mc r) (hW : zWf mc r) (ht : 0 ≤ t ∧ t < mc r 0) : zFoI M t = zHn mc r t := by
  obtain ⟨⟨h0, h1, h2⟩, hg, hp⟩ := h
  have hN := hW.1.2.1
  have eLs : zLs (zV M) 3 t (mc r 1).toNat = zLs mc r t (mc r 1).toNat := zLs_r (fun k hk => hg (k : Int) (by omega) (by omega))
  have eGl : zGl (zV M) 3 (zLs mc r t (mc r 1).toNat) = zGl mc r (zLs mc r t (mc r 1).toNat) := by
    refine List.map_congr_left (fun k hk => ?_)
    have hk := (zLs_in hk).1
    obtain ⟨g1, g2, g3⟩ := hg (k : Int) (by omega) (by omega)
    show (M 51 (51 + (k : Int)), M 51 (60 + (k : Int))) = _
    rw [g1, g2]
  have eOw : zOwn (zV M) 3 t = zOwn mc r t := by
    have e7 : zOwn (zV M) 3 t = zBn (M 51 1).toNat (fun k => decide (M 53 (k : Int) = -1 ∧ (M 51 (51 + (k : Int)) = t ∨ M 51 (60 + (k : Int)) = t))) := rfl
    rw [e7, h1]
    unfold zOwn
    refine zBn_congr (fun k hk => ?_)
    obtain ⟨g1, g2, g3⟩ := hg (k : Int) (by omega) (by omega)
    rw [g1, g2, g3]
  unfold zFoI
  rw [h0, h1, h2, eLs, eGl, eOw, hp t ht.1 ht.2, ← zHn_room hW ht (g := fun u => if u < mc r 0 ∧ ¬ u = t then zRe mc r t - zPt mc r u else 0) (fun u => rfl)]
  refine zFo_congr (fun u u0 u1 => ?_)
  show (if u < mc r 0 ∧ ¬ u = t then _ else 0) = if u < mc r 0 ∧ ¬ u = t then zRe mc r t - zPt mc r u else 0
  by_cases hq : u < mc r 0 ∧ ¬ u = t
  · rw [if_pos hq, if_pos hq, hp u u0 hq.1]
    rfl
  · rw [if_neg hq, if_neg hq]
theorem zFoI_x {M M2 : zMe} {t : Int} (h51 : ∀ j, M2 51 j = M 51 j) (h53 : ∀ j, M2 53 j = M 53 j) (h54 : ∀ j, M2 54 j = M 54 j) : zFoI M2 t = zFoI M t := by
  have e1 : ∀ c j, zV M2 c j = zV M c j := fun c j => by
    unfold zV
    simp only [h51, h53]
  have e2 : zV M2 = zV M := by
    funext c j
    exact e1 c j
  unfold zFoI
  rw [e2, h51, h51, h51, h54]
  refine zFo_congr (fun u u0 u1 => ?_)
  show (if _ then _ else _) = (if _ then _ else _)
  rw [h54]
/-- the group as it is looked at -/
theorem zCr_L7 {mc mr : zMe} (hW : zWf mc 3) (hE : zEq2 mc mr 3 51) : zCr (zL7 mr (zRs mr)) mc 3 := by
  have e1 : mr 51 1 = mc 3 1 := hE.1.2.1
  refine ⟨⟨by rw [zL7_51]; exact hE.1.1, by rw [zL7_51]; exact e1, by rw [zL7_51]; exact hE.1.2.2⟩, fun k k0 k1 => ?_, fun u u0 u1 => ?_⟩
  · obtain ⟨g1, g2, g3, g4⟩ := hE.2.2 k k0 k1
    refine ⟨by rw [zL7_51]; exact g1, by rw [zL7_51]; exact g2, ?_⟩
    unfold zL7
    rw [zF_c (by omega), zLk_53 k0 (by omega)]
    exact g4
  · have hT := hW.1.1
    have e54 : zL7 mr (zRs mr) 54 u = zQt (zLk mr (zRs mr)) u := by
      unfold zL7
      rw [zF_i (by omega), Int.sub_zero]
    rw [e54]
    exact zQt_E hW hE ⟨u0, u1⟩
theorem zL7_R {m : zMe} (hR : zRw m) : zRw (zL7 m (zRs m)) := zRw_X (zX_51 zL7_X) hR
theorem zL7_A {m : zMe} (hR : zRw m) : zAs (zL7 m (zRs m)) := zL7_As (fun k k0 k1 => by have := (hR.2.2 k k0 k1).1; unfold zRs; omega)
theorem zL7_p {m : zMe} (hR : zRw m) : ∀ u, 0 ≤ u → u < zL7 m (zRs m) 51 0 → 0 ≤ zL7 m (zRs m) 54 u ∧ zL7 m (zRs m) 54 u ≤ 63 := fun u u0 u1 => by
  have hT := hR.1.1
  rw [zL7_51] at u1
  have e54 : zL7 m (zRs m) 54 u = zQt (zLk m (zRs m)) u := by
    unfold zL7
    rw [zF_i (by omega), Int.sub_zero]
  have := zQt_range (m := zLk m (zRs m)) (zLk_R hR) (t := u) ⟨u0, by unfold zLk; rw [zF_c (by omega)]; exact u1⟩
  rw [e54]
  omega
theorem zIp_Y {m M m2 : zMe} {t a : Int} {v : Int32} (hY : zY m M) (h : zIp M t a v m2) : zY m m2 := zY_t hY ⟨h.2.1, fun _ => h.2.2.2.2.1⟩
theorem s7_isInE {m : zMe} {e : Int32} {t : Int} (e1 : e = zI t) (r1 : -2147483648 ≤ t ∧ t < 2147483648) (hR : zRw m) : zOk (f_X7_isIn 50 e (zM m)) (fun v m1 => v = zI (if 0 ≤ t ∧ t < m 51 0 then zB ((zFoI (zL7 m (zRs m)) t).isSome = true) else -2) ∧ zY m m1) := by
  subst e1
  have hT := hR.1.1
  unfold f_X7_isIn
  (first
    | (with_reducible apply z_nm; (case he => repeat (with_reducible first | exact zv_l _ | exact zv_r | apply zv_neg)))
    | (with_reducible apply z_b_ck; (case h => with_unfolding_all rfl))
    | (with_reducible apply z_7isTeam; (case e1 => repeat (with_reducible first | exact zv_l _ | exact zv_r | apply zv_neg)); (case r1 => first | omega | ((simp (disch := omega) only [zU_c, zU_e, zU_k, zF_c, zF_i, zF_o, zW_o, zW_i, zC_c, zC_i, zC_o]); omega)); (case r2 => first | omega | ((simp (disch := omega) only [zU_c, zU_e, zU_k, zF_c, zF_i, zF_o, zW_o, zW_i, zC_c, zC_i, zC_o]); omega)))
    | (with_reducible apply z_7looks; (case a2 => assumption))
    | (with_reducible apply z_7isInNow; (case e3 => repeat (with_reducible first | exact zv_l _ | exact zv_r | apply zv_neg)); (case e4 => repeat (with_reducible first | exact zv_l _ | exact zv_r | apply zv_neg)); (case r1 => first | omega | ((simp (disch := omega) only [zU_c, zU_e, zU_k, zF_c, zF_i, zF_o, zW_o, zW_i, zC_c, zC_i, zC_o]); omega)); (case r2 => first | omega | ((simp (disch := omega) only [zU_c, zU_e, zU_k, zF_c, zF_i, zF_o, zW_o, zW_i, zC_c, zC_i, zC_o]); omega)); (case a1 => assumption); (case a2 => assumption); intro _ _ _)
    | (with_reducible apply z_7isIn; (case e1 => repeat (with_reducible first | exact zv_l _ | exact zv_r | apply zv_neg)); (case r1 => first | omega | ((simp (disch := omega) only [zU_c, zU_e, zU_k, zF_c, zF_i, zF_o, zW_o, zW_i, zC_c, zC_i, zC_o]); omega)); (case a1 => assumption); intro _ _ _))
  refine z_7isTeam rfl r1 hT ?_
  refine z_B (fun hq => ?_) (fun hq => ?_)
  · rw [if_neg hq]
    exact ⟨_, _, rfl, rfl, zY_r _⟩
  · rw [if_pos hq]
    refine z_7looks hR ?_
    refine z_call (s7_isInX (t := t) (a := 0) rfl (zv_l 0) (zL7_R hR) (zL7_A hR) ⟨hq.1, by rw [zL7_51]; exact hq.2⟩ (Or.inl rfl) (zL7_p hR)) (fun v m2 hv => ?_)
    have hY := zIp_Y zL7_Y hv
    obtain ⟨rfl, -⟩ := hv
    refine z_B (fun h => ?_) (fun h => ?_)
    · rw [zB_n h]
      exact ⟨_, _, rfl, rfl, hY⟩
    · rw [zB_p h]
      exact ⟨_, _, rfl, rfl, hY⟩
theorem zE_Hn {m : zMe} {r : Nat} {t : Int} (hW : zWf m r) (ht : 0 ≤ t ∧ t < m r 0) : zE (zCw m r t) = zB ((zHn m r t).isSome = true) := by
  rw [zE_iff ((zCw_Hr hW ht).trans zHn_iff.symm)]
  exact zB_E.symm
theorem zp_isInE {m : zMe} (h : zInv m) (a : Int32) : zPr (f_X6_isIn 0 a (zM m)) (f_X7_isIn 50 a) True := by
  obtain ⟨t, rfl, ht⟩ := zI_of a
  refine zp_exact (y := fun m1 => if 0 ≤ t ∧ t < m1 51 0 then zB ((zFoI (zL7 m1 (zRs m1)) t).isSome = true) else -2) h (s_6isIn rfl ht h.1.1) (fun m1 r1 r2 r3 => s7_isInE rfl ht r1) (fun m1 hm => ?_)
  have hE := zEq2_41 h.1.2 hm
  have e0 : m1 51 0 = m 3 0 := hE.1.1
  show _ = if 0 ≤ t ∧ t < m1 51 0 then zB ((zFoI (zL7 m1 (zRs m1)) t).isSome = true) else -2
  rw [e0]
  by_cases hq : 0 ≤ t ∧ t < m 3 0
  · rw [if_pos hq, if_pos hq, zE_Hn h.1.1 hq, zFoI_r (zCr_L7 h.1.1 hE) h.1.1 hq]
  · rw [if_neg hq, if_neg hq]
theorem s7_inSetX {m : zMe} (hR : zRw m) (hA : zAs m) (hp : ∀ u, 0 ≤ u → u < m 51 0 → 0 ≤ m 54 u ∧ m 54 u ≤ 63) : zOk (f_X7_inSet 50 (zM m)) (fun v m1 => v = zI (zBn (m 51 0).toNat (fun u => (zFoI m (u : Int)).isSome) : Nat) ∧ zY m m1) := by
  have hT := hR.1.1
  unfold f_X7_inSet
  (first
    | (with_reducible apply z_nm; (case he => repeat (with_reducible first | exact zv_l _ | exact zv_r | apply zv_add | apply zv_sub | apply zv_or | apply zv_shl | apply zv_and)))
    | (with_reducible apply z_b_ck; (case h => with_unfolding_all rfl))
    | (with_reducible apply z_b_R; (case h => first | with_unfolding_all rfl))
    | (with_reducible apply z_L; (case he => repeat (with_reducible first | exact zv_l _ | exact zv_r | apply zv_add | apply zv_sub | apply zv_or | apply zv_shl | apply zv_and)); (case hn => with_reducible first | assumption | exact zl_2 | exact zl_6 | exact zl_51 | exact zl_53 | exact zl_54); (case h => omega); (case hy => first | ((simp (disch := omega) only [zU_c, zU_e, zU_k, zF_c, zF_i, zF_o, zW_o, zW_i, zC_c, zC_i, zC_o]); rfl) | rfl))
    | (with_reducible apply z_7isInNow; (case e3 => repeat (with_reducible first | exact zv_l _ | exact zv_r | apply zv_add | apply zv_sub | apply zv_or | apply zv_shl | apply zv_and)); (case e4 => repeat (with_reducible first | exact zv_l _ | exact zv_r | apply zv_add | apply zv_sub | apply zv_or | apply zv_shl | apply zv_and)); (case r1 => first | omega | ((simp (disch := omega) only [zU_c, zU_e, zU_k, zF_c, zF_i, zF_o, zW_o, zW_i, zC_c, zC_i, zC_o]); omega)); (case r2 => first | omega | ((simp (disch := omega) only [zU_c, zU_e, zU_k, zF_c, zF_i, zF_o, zW_o, zW_i, zC_c, zC_i, zC_o]); omega)); (case a1 => assumption); (case a2 => assumption); intro _ _ _)
    | (with_reducible apply z_7inSet; (case a1 => assumption); (case a2 => assumption); intro _ _ _))
  refine z_lp (fun n v m1 => ∃ i : Nat, v = (50, zI (zBn i (fun u => (zFoI m (u : Int)).isSome) : Nat), zI (i : Int)) ∧ (i : Int) ≤ m 51 0 ∧ n = (m 51 0 - i).toNat ∧ zY m m1 ∧ (∀ j, m1 53 j = m 53 j) ∧ ∀ j, m1 54 j = m 54 j) (fun _ _ v m1 => v = zI (zBn (m 51 0).toNat (fun u => (zFoI m (u : Int)).isSome) : Nat) ∧ zY m m1) ?_ 600 (m 51 0).toNat _ _ (by omega) ⟨0, rfl, by omega, by omega, zY_r _, fun j => rfl, fun j => rfl⟩
  rintro n v m1 k ⟨i, rfl, h1, rfl, hY, h53, h54⟩ hk
  have hX := hY.1
  have e51 := zX_51 hX
  have hlt : zBn i (fun u => (zFoI m (u : Int)).isSome) < 2 ^ i := zBn_lt _ _
  have h64 : 2 ^ i ≤ 2 ^ 6 := Nat.pow_le_pow_right (by omega) (by omega)
  unfold f_X7_inSet_4
  dsimp only
  (first
    | (with_reducible apply z_nm; (case he => repeat (with_reducible first | exact zv_l _ | exact zv_r | apply zv_add | apply zv_sub | apply zv_or | apply zv_shl | apply zv_and)))
    | (with_reducible apply z_b_ck; (case h => with_unfolding_all rfl))
    | (with_reducible apply z_b_R; (case h => first | with_unfolding_all rfl))
    | (with_reducible apply z_L; (case he => repeat (with_reducible first | exact zv_l _ | exact zv_r | apply zv_add | apply zv_sub | apply zv_or | apply zv_shl | apply zv_and)); (case hn => with_reducible first | assumption | exact zl_2 | exact zl_6 | exact zl_51 | exact zl_53 | exact zl_54); (case h => omega); (case hy => first | ((simp (disch := omega) only [zU_c, zU_e, zU_k, zF_c, zF_i, zF_o, zW_o, zW_i, zC_c, zC_i, zC_o]); rfl) | rfl))
    | (with_reducible apply z_7isInNow; (case e3 => repeat (with_reducible first | exact zv_l _ | exact zv_r | apply zv_add | apply zv_sub | apply zv_or | apply zv_shl | apply zv_and)); (case e4 => repeat (with_reducible first | exact zv_l _ | exact zv_r | apply zv_add | apply zv_sub | apply zv_or | apply zv_shl | apply zv_and)); (case r1 => first | omega | ((simp (disch := omega) only [zU_c, zU_e, zU_k, zF_c, zF_i, zF_o, zW_o, zW_i, zC_c, zC_i, zC_o]); omega)); (case r2 => first | omega | ((simp (disch := omega) only [zU_c, zU_e, zU_k, zF_c, zF_i, zF_o, zW_o, zW_i, zC_c, zC_i, zC_o]); omega)); (case a1 => assumption); (case a2 => assumption); intro _ _ _)
    | (with_reducible apply z_7inSet; (case a1 => assumption); (case a2 => assumption); intro _ _ _))
  refine z_L (x := 0) (y := m 51 0) (zv_l 0) zl_51 (by omega) (e51 0) ?_
  (first
    | (with_reducible apply z_B; all_goals (intro _; try (exfalso; omega)))
    | (with_reducible apply z_E; all_goals intro _)
    | (with_reducible apply z_lt; (case ha => repeat (with_reducible first | exact zv_l _ | exact zv_r | apply zv_add | apply zv_sub | apply zv_or | apply zv_shl | apply zv_and)); (case hb => repeat (with_reducible first | exact zv_l _ | exact zv_r | apply zv_add | apply zv_sub | apply zv_or | apply zv_shl | apply zv_and)); (case hx => omega); (case hy => omega); all_goals (intro _; try (exfalso; omega)))
    | (with_reducible apply z_le; (case ha => repeat (with_reducible first | exact zv_l _ | exact zv_r | apply zv_add | apply zv_sub | apply zv_or | apply zv_shl | apply zv_and)); (case hb => repeat (with_reducible first | exact zv_l _ | exact zv_r | apply zv_add | apply zv_sub | apply zv_or | apply zv_shl | apply zv_and)); (case hx => omega); (case hy => omega); all_goals (intro _; try (exfalso; omega)))
    | (with_reducible apply z_eq; (case ha => repeat (with_reducible first | exact zv_l _ | exact zv_r | apply zv_add | apply zv_sub | apply zv_or | apply zv_shl | apply zv_and)); (case hb => repeat (with_reducible first | exact zv_l _ | exact zv_r | apply zv_add | apply zv_sub | apply zv_or | apply zv_shl | apply zv_and)); (case hx => omega); (case hy => omega); all_goals (intro _; try (exfalso; omega))))
  · have : (m 51 0).toNat = i := by omega
    rw [this]
    exact ⟨_, _, rfl, rfl, hY⟩
  · refine z_call (s7_isInX (t := (i : Int)) (a := 0) rfl (zv_l 0) (zRw_X e51 hR) (fun k k0 k1 => by rw [e51] at k1; rw [h53]; exact hA k k0 k1) ⟨by omega, by rw [e51]; omega⟩ (Or.inl rfl) (fun u u0 u1 => by rw [e51] at u1; rw [h54]; exact hp u u0 u1)) (fun v m2 hv => ?_)
    have hY2 := zIp_Y hY hv
    obtain ⟨rfl, -, q53, q54, -⟩ := hv
    rw [zFoI_x e51 h53 h54]
    refine z_B (fun h => ?_) (fun h => ?_)
    · repeat' (first
    | (with_reducible apply z_nm; (case he => repeat (with_reducible first | exact zv_l _ | exact zv_r | apply zv_add | apply zv_sub | apply zv_or | apply zv_shl | apply zv_and)))
    | (with_reducible apply z_b_ck; (case h => with_unfolding_all rfl))
    | (with_reducible apply z_b_R; (case h => first | with_unfolding_all rfl))
    | (with_reducible apply z_L; (case he => repeat (with_reducible first | exact zv_l _ | exact zv_r | apply zv_add | apply zv_sub | apply zv_or | apply zv_shl | apply zv_and)); (case hn => with_reducible first | assumption | exact zl_2 | exact zl_6 | exact zl_51 | exact zl_53 | exact zl_54); (case h => omega); (case hy => first | ((simp (disch := omega) only [zU_c, zU_e, zU_k, zF_c, zF_i, zF_o, zW_o, zW_i, zC_c, zC_i, zC_o]); rfl) | rfl))
    | (with_reducible apply z_7isInNow; (case e3 => repeat (with_reducible first | exact zv_l _ | exact zv_r | apply zv_add | apply zv_sub | apply zv_or | apply zv_shl | apply zv_and)); (case e4 => repeat (with_reducible first | exact zv_l _ | exact zv_r | apply zv_add | apply zv_sub | apply zv_or | apply zv_shl | apply zv_and)); (case r1 => first | omega | ((simp (disch := omega) only [zU_c, zU_e, zU_k, zF_c, zF_i, zF_o, zW_o, zW_i, zC_c, zC_i, zC_o]); omega)); (case r2 => first | omega | ((simp (disch := omega) only [zU_c, zU_e, zU_k, zF_c, zF_i, zF_o, zW_o, zW_i, zC_c, zC_i, zC_o]); omega)); (case a1 => assumption); (case a2 => assumption); intro _ _ _)
    | (with_reducible apply z_7inSet; (case a1 => assumption); (case a2 => assumption); intro _ _ _))
      refine hk _ _ _ (by omega) ⟨i + 1, ?_, by omega, rfl, hY2, fun j => by rw [q53, h53], fun j => by rw [q54, h54]⟩
      rw [zOr_0 (by omega), zBn_f h]
      rfl
    · repeat' (first
    | (with_reducible apply z_nm; (case he => repeat (with_reducible first | exact zv_l _ | exact zv_r | apply zv_add | apply zv_sub | apply zv_or | apply zv_shl | apply zv_and)))
    | (with_reducible apply z_b_ck; (case h => with_unfolding_all rfl))
    | (with_reducible apply z_b_R; (case h => first | with_unfolding_all rfl))
    | (with_reducible apply z_L; (case he => repeat (with_reducible first | exact zv_l _ | exact zv_r | apply zv_add | apply zv_sub | apply zv_or | apply zv_shl | apply zv_and)); (case hn => with_reducible first | assumption | exact zl_2 | exact zl_6 | exact zl_51 | exact zl_53 | exact zl_54); (case h => omega); (case hy => first | ((simp (disch := omega) only [zU_c, zU_e, zU_k, zF_c, zF_i, zF_o, zW_o, zW_i, zC_c, zC_i, zC_o]); rfl) | rfl))
    | (with_reducible apply z_7isInNow; (case e3 => repeat (with_reducible first | exact zv_l _ | exact zv_r | apply zv_add | apply zv_sub | apply zv_or | apply zv_shl | apply zv_and)); (case e4 => repeat (with_reducible first | exact zv_l _ | exact zv_r | apply zv_add | apply zv_sub | apply zv_or | apply zv_shl | apply zv_and)); (case r1 => first | omega | ((simp (disch := omega) only [zU_c, zU_e, zU_k, zF_c, zF_i, zF_o, zW_o, zW_i, zC_c, zC_i, zC_o]); omega)); (case r2 => first | omega | ((simp (disch := omega) only [zU_c, zU_e, zU_k, zF_c, zF_i, zF_o, zW_o, zW_i, zC_c, zC_i, zC_o]); omega)); (case a1 => assumption); (case a2 => assumption); intro _ _ _)
    | (with_reducible apply z_7inSet; (case a1 => assumption); (case a2 => assumption); intro _ _ _))
      refine hk _ _ _ (by omega) ⟨i + 1, ?_, by omega, rfl, hY2, fun j => by rw [q53, h53], fun j => by rw [q54, h54]⟩
      rw [zOr_bit (by omega) hlt, zBn_t h]
      rfl
theorem s7_allE {m : zMe} (hR : zRw m) : zOk (f_X7_all 50 (zM m)) (fun v m1 => v = zI (zBn (m 51 0).toNat (fun u => (zFoI (zL7 m (zRs m)) (u : Int)).isSome) : Nat) ∧ zY m m1) := by
  unfold f_X7_all
  (first
    | (with_reducible apply z_b_ck; (case h => with_unfolding_all rfl))
    | (with_reducible apply z_7looks; (case a2 => assumption))
    | (with_reducible apply z_7inSet; (case a1 => assumption); (case a2 => assumption); intro _ _ _)
    | (with_reducible apply z_7all; (case a1 => assumption); intro _ _ _))
  refine z_7looks hR ?_
  refine z_call (s7_inSetX (zL7_R hR) (zL7_A hR) (zL7_p hR)) (fun v m2 hv => ?_)
  obtain ⟨rfl, hY⟩ := hv
  rw [zL7_51]
  exact ⟨_, _, rfl, rfl, zY_t zL7_Y hY⟩
theorem zWcw_Hn {m : zMe} {r : Nat} (hW : zWf m r) : zWcw m r = zBn (m r 0).toNat (fun u => (zHn m r (u : Int)).isSome) := by
  have hT := hW.1.1
  unfold zWcw
  refine zBn_congr (fun u hu => ?_)
  have hq : 0 ≤ (u : Int) ∧ (u : Int) < m r 0 := by omega
  have hi := (zCw_Hr hW hq).trans (zHn_iff (m := m)).symm
  by_cases hc : zCw m r (u : Int)
  · rw [zDc_t hc, hi.mp hc]
  · have h1 := zDc_f hc
    have h2 : ¬ (zHn m r (u : Int)).isSome = true := fun q => hc (hi.mpr q)
    cases e1 : zDc (zCw m r (u : Int)) with
    | true => exact absurd e1 h1
    | false =>
      cases e2 : (zHn m r (u : Int)).isSome with
      | true => exact absurd e2 h2
      | false => rfl
theorem zp_allE {m : zMe} (h : zInv m) : zPr (f_X6_all 0 (zM m)) (f_X7_all 50) True := by
  refine zp_exact (y := fun m1 => (zBn (m1 51 0).toNat (fun u => (zFoI (zL7 m1 (zRs m1)) (u : Int)).isSome) : Nat)) h (s_6all h.1.1) (fun m1 r1 r2 r3 => s7_allE r1) (fun m1 hm => ?_)
  have hE := zEq2_41 h.1.2 hm
  have e0 : m1 51 0 = m 3 0 := hE.1.1
  have hT := h.1.1.1.1
  show _ = ((zBn (m1 51 0).toNat (fun u => (zFoI (zL7 m1 (zRs m1)) (u : Int)).isSome) : Nat) : Int)
  rw [e0, zWcw_Hn h.1.1]
  congr 1
  refine zBn_congr (fun u hu => ?_)
  rw [zFoI_r (zCr_L7 h.1.1 hE) h.1.1 ⟨by omega, by omega⟩]
