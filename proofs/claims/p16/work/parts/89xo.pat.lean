/-! pattern: the reference; the pair -/
theorem zTo_out {K u : Int} (L : List (Int × Int)) (xs : List Int) (h : ∀ e, e ∈ L → ¬ u = e.1 ∧ ¬ u = e.2) : zTo K L xs u = 0 := by
  induction L generalizing xs with
  | nil => cases xs <;> rfl
  | cons e es ih =>
    cases xs with
    | nil => rfl
    | cons x xs =>
      have h1 := h e (by simp)
      show zGn K e.1 e.2 x u + zTo K es xs u = 0
      rw [ih xs (fun y hy => h y (by simp [hy]))]
      unfold zGn
      rw [if_neg h1.1, if_neg h1.2]
      rfl
theorem zFi_ends {K d : Int} {L : List (Int × Int)} {f g : Int → Int} {xs : List Int} (h : ∀ u, 0 ≤ u → u < 6 → f u = g u ∨ (0 ≤ f u ∧ 0 ≤ g u ∧ ∀ e, e ∈ L → ¬ u = e.1 ∧ ¬ u = e.2)) (hx : zFi K d L f xs) : zFi K d L g xs := ⟨hx.1, hx.2.1, fun u u0 u1 => by
  rcases h u u0 u1 with q | ⟨q1, q2, q3⟩
  · rw [← q]
    exact hx.2.2 u u0 u1
  · rw [zTo_out L xs q3]
    exact q2⟩
/-- patterns, as the reference sees them -/
def zPm (m : zMe) (t : Int) (b : Nat) : Prop := (∀ k, b.testBit k = true → k ∈ zLs (zV m) 3 t (m 51 1).toNat) ∧ ∃ xs, zFi (m 51 2) (if m 51 2 = 0 then 0 else 1) (zGl (zV m) 3 (zLs (zV m) 3 t (m 51 1).toNat)) (fun u => if u < m 51 0 ∧ ¬ u = t then m 54 t + (m 51 2 + 1) * (zPop (zOwn (zV m) 3 t) : Nat) - m 54 u else 0) xs ∧ zAgr b (zLs (zV m) 3 t (m 51 1).toNat) xs
set_option maxRecDepth 100000 in
set_option maxHeartbeats 1000000 in
theorem s7_inB {m M : zMe} {t : Int} (hR : zRw m) (hA : zAs m) (ht : 0 ≤ t ∧ t < m 51 0) (hp : ∀ u, 0 ≤ u → u < m 51 0 → 0 ≤ m 54 u ∧ m 54 u ≤ 63) (hM : ∀ c j, ¬ (c = 50 ∧ (j = 5 ∨ j = 6 ∨ j = 8 ∨ j = 9)) → M c j = m c j) (h5 : M 50 5 = t) (h6 : M 50 6 = m 54 t + (m 51 2 + 1) * (zPop (zOwn (zV m) 3 t) : Nat)) (h8 : M 50 8 = -1) (h9 : M 50 9 = 1) : zOk (lp f_X7_isInNow_33 600 (50, zI t, zI (zOwn (zV m) 3 t : Nat), zI 0) (zM M)) (fun (_ : Int32) m2 => zX m m2 ∧ (-1 ≤ m2 50 8 ∧ m2 50 8 < 512) ∧ zMn (zPm m t) (m2 50 8)) := by
  have hN := hR.1.2.1
  have hK := hR.1.2.2
  have hT := hR.1.1
  have hlt : zOwn (zV m) 3 t < 512 := zOwn_lt (m := zV m) (r := 3) hN
  have hpop := zPop_le (zOwn (zV m) 3 t)
  refine z_lp (fun n v m1 => ∃ i : Nat, v = (50, zI t, zI (zOwn (zV m) 3 t : Nat), zI (i : Int)) ∧ (i : Int) ≤ m 51 1 ∧ n = (m 51 1 - i).toNat ∧ (∀ c j, ¬ c = 55 → m1 c j = M c j) ∧ ∀ k : Nat, k < i → (zOwn (zV m) 3 t).testBit k = true → m1 55 (k : Int) = if m 51 (51 + (k : Int)) = t then 1 else 2) (fun _ _ (_ : Int32) m2 => zX m m2 ∧ (-1 ≤ m2 50 8 ∧ m2 50 8 < 512) ∧ zMn (zPm m t) (m2 50 8)) ?_ 600 (m 51 1).toNat _ _ (by omega) ⟨0, rfl, by omega, by omega, fun _ _ _ => rfl, fun k hk => absurd hk (by omega)⟩
  rintro n v m1 k ⟨i, rfl, hi, rfl, hX, hrun⟩ hk
  have e : ∀ c j, ¬ c = 55 → ¬ (c = 50 ∧ (j = 5 ∨ j = 6 ∨ j = 8 ∨ j = 9)) → m1 c j = m c j := fun c j a b => by rw [hX c j a, hM c j b]
  have e51 : ∀ j, m1 51 j = m 51 j := fun j => e 51 j (by omega) (by omega)
  have e53 : ∀ j, m1 53 j = m 53 j := fun j => e 53 j (by omega) (by omega)
  have e54 : ∀ j, m1 54 j = m 54 j := fun j => e 54 j (by omega) (by omega)
  have g5 : m1 50 5 = t := by rw [hX 50 5 (by omega), h5]
  have g6 : m1 50 6 = m 54 t + (m 51 2 + 1) * (zPop (zOwn (zV m) 3 t) : Nat) := by rw [hX 50 6 (by omega), h6]
  have g8 : m1 50 8 = -1 := by rw [hX 50 8 (by omega), h8]
  have g9 : m1 50 9 = 1 := by rw [hX 50 9 (by omega), h9]
  have hR1 : zRw m1 := zRw_X e51 hR
  have hA1 : zAs m1 := fun k k0 k1 => by
    rw [e51] at k1
    rw [e53]
    exact hA k k0 k1
  have hg := hR.2.2 (i : Int) (by omega)
  unfold f_X7_isInNow_33
  dsimp only
  (first
    | (with_reducible apply z_nm; (case he => repeat (with_reducible first | exact zv_l _ | exact zv_r | apply zv_add | apply zv_sub | apply zv_mul | apply zv_neg | apply zv_and | apply zv_xor)))
    | (with_reducible apply z_b_R; (case h => first | with_unfolding_all rfl))
    | (with_reducible apply z_L; (case he => repeat (with_reducible first | exact zv_l _ | exact zv_r | apply zv_add | apply zv_sub | apply zv_mul | apply zv_neg | apply zv_and | apply zv_xor)); (case hn => with_reducible first | assumption | exact zl_2 | exact zl_4 | exact zl_5 | exact zl_6 | exact zl_7 | exact zl_8 | exact zl_9 | exact zl_51 | exact zl_53 | exact zl_54 | exact zl_55 | exact zl_60); (case h => omega); (case hy => first | ((simp (disch := omega) only [zU_c, zU_e, zU_k, zF_c, zF_i, zF_o, zW_o, zW_i, zC_c, zC_i, zC_o]); rfl) | rfl))
    | (with_reducible apply z_S; (case he => repeat (with_reducible first | exact zv_l _ | exact zv_r | apply zv_add | apply zv_sub | apply zv_mul | apply zv_neg | apply zv_and | apply zv_xor)); (case hg => repeat (with_reducible first | exact zv_l _ | exact zv_r | apply zv_add | apply zv_sub | apply zv_mul | apply zv_neg | apply zv_and | apply zv_xor)); (case hn => with_reducible first | assumption | exact zl_2 | exact zl_4 | exact zl_5 | exact zl_6 | exact zl_7 | exact zl_8 | exact zl_9 | exact zl_51 | exact zl_53 | exact zl_54 | exact zl_55 | exact zl_60); (case h => omega))
    | with_reducible refine z_bz ?_
    | with_reducible refine z_bzE ?_
    | (with_reducible apply z_bzl; (case h => omega))
    | (with_reducible apply z_7has; (case e1 => repeat (with_reducible first | exact zv_l _ | exact zv_r | apply zv_add | apply zv_sub | apply zv_mul | apply zv_neg | apply zv_and | apply zv_xor)); (case e2 => repeat (with_reducible first | exact zv_l _ | exact zv_r | apply zv_add | apply zv_sub | apply zv_mul | apply zv_neg | apply zv_and | apply zv_xor)); (case r1 => first | omega | ((simp (disch := omega) only [zU_c, zU_e, zU_k, zF_c, zF_i, zF_o, zW_o, zW_i, zC_c, zC_i, zC_o]); omega)); (case r2 => first | omega | ((simp (disch := omega) only [zU_c, zU_e, zU_k, zF_c, zF_i, zF_o, zW_o, zW_i, zC_c, zC_i, zC_o]); omega)))
    | (with_reducible apply z_7leftSet; (case r1 => first | omega | ((simp (disch := omega) only [zU_c, zU_e, zU_k, zF_c, zF_i, zF_o, zW_o, zW_i, zC_c, zC_i, zC_o]); omega)); (case a1 => assumption)))
  refine z_L (x := 1) (y := m 51 1) (zv_l 1) zl_51 (by omega) (e51 1) ?_
  (first
    | (with_reducible apply z_B; all_goals (intro _; try (exfalso; omega)))
    | (with_reducible apply z_E; all_goals intro _)
    | (with_reducible apply z_lt; (case ha => repeat (with_reducible first | exact zv_l _ | exact zv_r | apply zv_add | apply zv_sub | apply zv_mul | apply zv_neg | apply zv_and | apply zv_xor)); (case hb => repeat (with_reducible first | exact zv_l _ | exact zv_r | apply zv_add | apply zv_sub | apply zv_mul | apply zv_neg | apply zv_and | apply zv_xor)); (case hx => omega); (case hy => omega); all_goals (intro _; try (exfalso; omega)))
    | (with_reducible apply z_le; (case ha => repeat (with_reducible first | exact zv_l _ | exact zv_r | apply zv_add | apply zv_sub | apply zv_mul | apply zv_neg | apply zv_and | apply zv_xor)); (case hb => repeat (with_reducible first | exact zv_l _ | exact zv_r | apply zv_add | apply zv_sub | apply zv_mul | apply zv_neg | apply zv_and | apply zv_xor)); (case hx => omega); (case hy => omega); all_goals (intro _; try (exfalso; omega)))
    | (with_reducible apply z_eq; (case ha => repeat (with_reducible first | exact zv_l _ | exact zv_r | apply zv_add | apply zv_sub | apply zv_mul | apply zv_neg | apply zv_and | apply zv_xor)); (case hb => repeat (with_reducible first | exact zv_l _ | exact zv_r | apply zv_add | apply zv_sub | apply zv_mul | apply zv_neg | apply zv_and | apply zv_xor)); (case hx => omega); (case hy => omega); all_goals (intro _; try (exfalso; omega))))
  · refine z_7leftSet hR1.1.2.1 hA1 ?_
    have eLf : zLeft (zV m1) 3 = zLeft (zV m) 3 := by
      have e7 : ∀ q : zMe, zLeft (zV q) 3 = zBn (q 51 1).toNat (fun k => decide (q 53 (k : Int) = -1)) := fun q => rfl
      rw [e7, e7, e51]
      simp only [e53]
    rw [eLf]
    obtain ⟨b, hb, eb, hbit⟩ := zAndN (x := zLeft (zV m) 3) (w := zOwn (zV m) 3 t) (zLeft_lt (m := zV m) (r := 3) hN) hlt
    have eset : zI (zLeft (zV m) 3 : Nat) &&& (zI (zOwn (zV m) 3 t : Nat) ^^^ (-1 : Int32)) = zI (b : Int) := by
      rw [← eb]
      exact zv_and rfl (zv_xor rfl rfl)
    rw [eset]
    have hbk : ∀ k : Nat, (k : Int) < m 51 1 → (b.testBit k = true ↔ (zV m (3 + 7) (k : Int) = -1 ∧ (¬ zV m (3 + 4) (k : Int) = t ∧ ¬ zV m (3 + 5) (k : Int) = t))) := fun k hk => by
      show _ ↔ (m 53 (k : Int) = -1 ∧ (¬ m 51 (51 + (k : Int)) = t ∧ ¬ m 51 (60 + (k : Int)) = t))
      rw [hbit, zLeft_bit hk, zOwn_bit hk]
      by_cases q1 : m 53 (k : Int) = -1 <;> by_cases q2 : m 51 (51 + (k : Int)) = t <;> by_cases q3 : m 51 (60 + (k : Int)) = t <;> simp [q1, q2, q3]
    have eL : zSg b (m 51 1).toNat 0 = zLs (zV m) 3 t (m 51 1).toNat := zSg_Ls (fun k hk => hbk k (by omega))
    have hGa : zGa m1 b 0 := by
      refine ⟨⟨hR1, hA1, by omega, by rw [g9]; exact Or.inr rfl⟩, by rw [e51]; omega, fun k k1 k2 => ?_, fun u u0 u1 => ?_, ?_, by rw [g5]; omega⟩
      · rw [e51] at k1
        rw [e51, e51, g5]
        exact ((hbk k k1).mp k2).2
      · rw [e51] at u1
        have := hp u u0 u1
        rw [e51, e54]
        omega
      · have := hp t ht.1 ht.2
        have h7 : 0 ≤ (m 51 2 + 1) * (zPop (zOwn (zV m) 3 t) : Nat) ∧ (m 51 2 + 1) * (zPop (zOwn (zV m) 3 t) : Nat) ≤ 27 := by
          have : m 51 2 = 0 ∨ m 51 2 = 1 ∨ m 51 2 = 2 := by omega
          rcases this with e | e | e <;> rw [e] <;> omega
        rw [g6]
        omega
    have hGc : zGc m1 b 0 := ⟨hGa, g9, fun k k1 k2 => by
      rw [e51] at k1
      rw [e53]
      exact ((hbk k k1).mp k2).1⟩
    have hD : ∀ k : Nat, ¬ k ∈ zLs (zV m) 3 t (m 51 1).toNat → ¬ zDkp m1 k := fun k hk q => by
      obtain ⟨q1, q2, q3⟩ := q
      rw [e51] at q1
      rw [e53] at q2
      have hown : (zOwn (zV m) 3 t).testBit k = true := by
        rw [zOwn_bit q1]
        refine decide_eq_true ⟨q2, ?_⟩
        refine Classical.byContradiction (fun w => hk ?_)
        refine zLs_memI.mpr ⟨by omega, q2, fun w1 => w (Or.inl w1), fun w1 => w (Or.inr w1)⟩
      rw [hrun k (by omega) hown] at q3
      split at q3
      · exact absurd q3 (by decide)
      · exact absurd q3 (by decide)
    have ePd : ∀ c, zPd m1 b (m 51 1).toNat 0 c ↔ zPm m t c := fun c => by
      have eRm : ∀ u, zRm m1 u = if u < m 51 0 ∧ ¬ u = t then m 54 t + (m 51 2 + 1) * (zPop (zOwn (zV m) 3 t) : Nat) - m 54 u else 0 := fun u => by
        unfold zRm
        rw [e51, g5, g6, e54]
      have eG : zGl7 m (zLs (zV m) 3 t (m 51 1).toNat) = zGl (zV m) 3 (zLs (zV m) 3 t (m 51 1).toNat) := rfl
      unfold zPd zPm
      rw [eL, e51, zGl7_51 e51, eG]
      constructor
      · rintro ⟨p1, xs, p2, p3⟩
        refine ⟨fun k hk => ?_, xs, zFi_congr (fun u _ _ => eRm u) p2, p3⟩
        refine Classical.byContradiction (fun w => hD k w ?_)
        exact (p1 k w).mp hk
      · rintro ⟨p1, xs, p2, p3⟩
        exact ⟨fun k hk => ⟨fun q => absurd (p1 k q) hk, fun q => absurd q (hD k hk)⟩, xs, zFi_congr (fun u _ _ => (eRm u).symm) p2, p3⟩
    refine z_call (s7_bestA (g := 0) hGc hb) (fun v m2 hv => ?_)
    unfold zGb at hv
    rw [e51, g8, show (m 51 1 - 0).toNat = (m 51 1).toNat by omega, show (0 : Int).toNat = 0 from rfl] at hv
    obtain ⟨hv01, q1, q2, q3, q4⟩ := hv
    have hfin : zX m m2 ∧ (-1 ≤ m2 50 8 ∧ m2 50 8 < 512) ∧ zMn (zPm m t) (m2 50 8) := by
      refine ⟨fun c j hc => ?_, q2, zMn_iff (fun c _ => ePd c) (zBb_Mn q4)⟩
      unfold zSr at hc
      rw [q1 c j (by omega) (by omega), e c j (by omega) (by omega)]
    obtain ⟨v', hv', hw01⟩ : ∃ v' : Int, v = zI v' ∧ (v' = 0 ∨ v' = 1) := by
      rcases hv01 with q | q
      · exact ⟨0, q, Or.inl rfl⟩
      · exact ⟨1, q, Or.inr rfl⟩
    rw [hv']
    refine z_bzl2 hw01 ?_
    exact ⟨_, _, rfl, hfin⟩
  · obtain ⟨p1, p2, p3, p4, p5⟩ := hg (by omega)
    have hset : ∀ x, ((zOwn (zV m) 3 t).testBit i = true → x = if m 51 (51 + (i : Int)) = t then 1 else 2) → zOk (f_X7_isInNow_82 k 50 (zI t) (zI (zOwn (zV m) 3 t : Nat)) (zI (i : Int)) (zI x) (zI (i : Int)) 55 (zM m1)) (fun (_ : Int32) m2 => zX m m2 ∧ (-1 ≤ m2 50 8 ∧ m2 50 8 < 512) ∧ zMn (zPm m t) (m2 50 8)) := fun x hx => by
      unfold f_X7_isInNow_82
      refine z_S rfl rfl zl_55 (by omega) ?_
      repeat' (first
    | (with_reducible apply z_nm; (case he => repeat (with_reducible first | exact zv_l _ | exact zv_r | apply zv_add | apply zv_sub | apply zv_mul | apply zv_neg | apply zv_and | apply zv_xor)))
    | (with_reducible apply z_b_R; (case h => first | with_unfolding_all rfl))
    | (with_reducible apply z_L; (case he => repeat (with_reducible first | exact zv_l _ | exact zv_r | apply zv_add | apply zv_sub | apply zv_mul | apply zv_neg | apply zv_and | apply zv_xor)); (case hn => with_reducible first | assumption | exact zl_2 | exact zl_4 | exact zl_5 | exact zl_6 | exact zl_7 | exact zl_8 | exact zl_9 | exact zl_51 | exact zl_53 | exact zl_54 | exact zl_55 | exact zl_60); (case h => omega); (case hy => first | ((simp (disch := omega) only [zU_c, zU_e, zU_k, zF_c, zF_i, zF_o, zW_o, zW_i, zC_c, zC_i, zC_o]); rfl) | rfl))
    | (with_reducible apply z_S; (case he => repeat (with_reducible first | exact zv_l _ | exact zv_r | apply zv_add | apply zv_sub | apply zv_mul | apply zv_neg | apply zv_and | apply zv_xor)); (case hg => repeat (with_reducible first | exact zv_l _ | exact zv_r | apply zv_add | apply zv_sub | apply zv_mul | apply zv_neg | apply zv_and | apply zv_xor)); (case hn => with_reducible first | assumption | exact zl_2 | exact zl_4 | exact zl_5 | exact zl_6 | exact zl_7 | exact zl_8 | exact zl_9 | exact zl_51 | exact zl_53 | exact zl_54 | exact zl_55 | exact zl_60); (case h => omega))
    | with_reducible refine z_bz ?_
    | with_reducible refine z_bzE ?_
    | (with_reducible apply z_bzl; (case h => omega))
    | (with_reducible apply z_7has; (case e1 => repeat (with_reducible first | exact zv_l _ | exact zv_r | apply zv_add | apply zv_sub | apply zv_mul | apply zv_neg | apply zv_and | apply zv_xor)); (case e2 => repeat (with_reducible first | exact zv_l _ | exact zv_r | apply zv_add | apply zv_sub | apply zv_mul | apply zv_neg | apply zv_and | apply zv_xor)); (case r1 => first | omega | ((simp (disch := omega) only [zU_c, zU_e, zU_k, zF_c, zF_i, zF_o, zW_o, zW_i, zC_c, zC_i, zC_o]); omega)); (case r2 => first | omega | ((simp (disch := omega) only [zU_c, zU_e, zU_k, zF_c, zF_i, zF_o, zW_o, zW_i, zC_c, zC_i, zC_o]); omega)))
    | (with_reducible apply z_7leftSet; (case r1 => first | omega | ((simp (disch := omega) only [zU_c, zU_e, zU_k, zF_c, zF_i, zF_o, zW_o, zW_i, zC_c, zC_i, zC_o]); omega)); (case a1 => assumption)))
      refine hk _ _ _ (by omega) ⟨i + 1, rfl, by omega, rfl, fun c j q => by rw [zU_c q, hX c j q], fun k hk1 hk2 => ?_⟩
      by_cases hq : k = i
      · subst hq
        rw [zU_e]
        exact hx hk2
      · rw [zU_k (by omega)]
        exact hrun k (by omega) hk2
    (first
    | (with_reducible apply z_nm; (case he => repeat (with_reducible first | exact zv_l _ | exact zv_r | apply zv_add | apply zv_sub | apply zv_mul | apply zv_neg | apply zv_and | apply zv_xor)))
    | (with_reducible apply z_b_R; (case h => first | with_unfolding_all rfl))
    | (with_reducible apply z_L; (case he => repeat (with_reducible first | exact zv_l _ | exact zv_r | apply zv_add | apply zv_sub | apply zv_mul | apply zv_neg | apply zv_and | apply zv_xor)); (case hn => with_reducible first | assumption | exact zl_2 | exact zl_4 | exact zl_5 | exact zl_6 | exact zl_7 | exact zl_8 | exact zl_9 | exact zl_51 | exact zl_53 | exact zl_54 | exact zl_55 | exact zl_60); (case h => omega); (case hy => first | ((simp (disch := omega) only [zU_c, zU_e, zU_k, zF_c, zF_i, zF_o, zW_o, zW_i, zC_c, zC_i, zC_o]); rfl) | rfl))
    | (with_reducible apply z_S; (case he => repeat (with_reducible first | exact zv_l _ | exact zv_r | apply zv_add | apply zv_sub | apply zv_mul | apply zv_neg | apply zv_and | apply zv_xor)); (case hg => repeat (with_reducible first | exact zv_l _ | exact zv_r | apply zv_add | apply zv_sub | apply zv_mul | apply zv_neg | apply zv_and | apply zv_xor)); (case hn => with_reducible first | assumption | exact zl_2 | exact zl_4 | exact zl_5 | exact zl_6 | exact zl_7 | exact zl_8 | exact zl_9 | exact zl_51 | exact zl_53 | exact zl_54 | exact zl_55 | exact zl_60); (case h => omega))
    | with_reducible refine z_bz ?_
    | with_reducible refine z_bzE ?_
    | (with_reducible apply z_bzl; (case h => omega))
    | (with_reducible apply z_7has; (case e1 => repeat (with_reducible first | exact zv_l _ | exact zv_r | apply zv_add | apply zv_sub | apply zv_mul | apply zv_neg | apply zv_and | apply zv_xor)); (case e2 => repeat (with_reducible first | exact zv_l _ | exact zv_r | apply zv_add | apply zv_sub | apply zv_mul | apply zv_neg | apply zv_and | apply zv_xor)); (case r1 => first | omega | ((simp (disch := omega) only [zU_c, zU_e, zU_k, zF_c, zF_i, zF_o, zW_o, zW_i, zC_c, zC_i, zC_o]); omega)); (case r2 => first | omega | ((simp (disch := omega) only [zU_c, zU_e, zU_k, zF_c, zF_i, zF_o, zW_o, zW_i, zC_c, zC_i, zC_o]); omega)))
    | (with_reducible apply z_7leftSet; (case r1 => first | omega | ((simp (disch := omega) only [zU_c, zU_e, zU_k, zF_c, zF_i, zF_o, zW_o, zW_i, zC_c, zC_i, zC_o]); omega)); (case a1 => assumption)))
    refine z_7has rfl rfl hlt (by omega) ?_
    refine z_B (fun hb => ?_) (fun hb => ?_)
    · exact hset (-1) (fun q => absurd q hb)
    · (first
    | (with_reducible apply z_nm; (case he => repeat (with_reducible first | exact zv_l _ | exact zv_r | apply zv_add | apply zv_sub | apply zv_mul | apply zv_neg | apply zv_and | apply zv_xor)))
    | (with_reducible apply z_b_R; (case h => first | with_unfolding_all rfl))
    | (with_reducible apply z_L; (case he => repeat (with_reducible first | exact zv_l _ | exact zv_r | apply zv_add | apply zv_sub | apply zv_mul | apply zv_neg | apply zv_and | apply zv_xor)); (case hn => with_reducible first | assumption | exact zl_2 | exact zl_4 | exact zl_5 | exact zl_6 | exact zl_7 | exact zl_8 | exact zl_9 | exact zl_51 | exact zl_53 | exact zl_54 | exact zl_55 | exact zl_60); (case h => omega); (case hy => first | ((simp (disch := omega) only [zU_c, zU_e, zU_k, zF_c, zF_i, zF_o, zW_o, zW_i, zC_c, zC_i, zC_o]); rfl) | rfl))
    | (with_reducible apply z_S; (case he => repeat (with_reducible first | exact zv_l _ | exact zv_r | apply zv_add | apply zv_sub | apply zv_mul | apply zv_neg | apply zv_and | apply zv_xor)); (case hg => repeat (with_reducible first | exact zv_l _ | exact zv_r | apply zv_add | apply zv_sub | apply zv_mul | apply zv_neg | apply zv_and | apply zv_xor)); (case hn => with_reducible first | assumption | exact zl_2 | exact zl_4 | exact zl_5 | exact zl_6 | exact zl_7 | exact zl_8 | exact zl_9 | exact zl_51 | exact zl_53 | exact zl_54 | exact zl_55 | exact zl_60); (case h => omega))
    | with_reducible refine z_bz ?_
    | with_reducible refine z_bzE ?_
    | (with_reducible apply z_bzl; (case h => omega))
    | (with_reducible apply z_7has; (case e1 => repeat (with_reducible first | exact zv_l _ | exact zv_r | apply zv_add | apply zv_sub | apply zv_mul | apply zv_neg | apply zv_and | apply zv_xor)); (case e2 => repeat (with_reducible first | exact zv_l _ | exact zv_r | apply zv_add | apply zv_sub | apply zv_mul | apply zv_neg | apply zv_and | apply zv_xor)); (case r1 => first | omega | ((simp (disch := omega) only [zU_c, zU_e, zU_k, zF_c, zF_i, zF_o, zW_o, zW_i, zC_c, zC_i, zC_o]); omega)); (case r2 => first | omega | ((simp (disch := omega) only [zU_c, zU_e, zU_k, zF_c, zF_i, zF_o, zW_o, zW_i, zC_c, zC_i, zC_o]); omega)))
    | (with_reducible apply z_7leftSet; (case r1 => first | omega | ((simp (disch := omega) only [zU_c, zU_e, zU_k, zF_c, zF_i, zF_o, zW_o, zW_i, zC_c, zC_i, zC_o]); omega)); (case a1 => assumption)))
      refine z_L (x := 51 + (i : Int)) (y := m 51 (51 + (i : Int))) (zv_add (zv_l 51) rfl) zl_51 (by omega) (e51 _) ?_
      refine z_eq (x := m 51 (51 + (i : Int))) (y := t) rfl rfl (by omega) (by omega) (fun hq => ?_) (fun hq => ?_)
      · exact hset 1 (fun _ => by rw [if_pos hq])
      · exact hset 2 (fun _ => by rw [if_neg hq])
theorem s7_isInB {m : zMe} {t : Int} (hR : zRw m) (hA : zAs m) (ht : 0 ≤ t ∧ t < m 51 0) (hp : ∀ u, 0 ≤ u → u < m 51 0 → 0 ≤ m 54 u ∧ m 54 u ≤ 63) : zOk (f_X7_isInNow 50 (zI t) (zI 1) (zM m)) (fun (_ : Int32) m2 => zX m m2 ∧ (-1 ≤ m2 50 8 ∧ m2 50 8 < 512) ∧ zMn (zPm m t) (m2 50 8)) := by
  have hT := hR.1.1
  have ha : (1 : Int) = 0 ∨ (1 : Int) = 1 := Or.inr rfl
  unfold f_X7_isInNow
  (first
    | (with_reducible apply z_b_ck; (case h => with_unfolding_all rfl))
    | (with_reducible apply z_PU; (case he => repeat (with_reducible first | exact zv_l _ | exact zv_r | apply zv_neg)); (case h => with_reducible first | exact zp_50_5 _ | exact zp_50_6 _ | exact zp_50_8 _))
    | (with_reducible apply z_PZ; (case he => repeat (with_reducible first | exact zv_l _ | exact zv_r | apply zv_neg)); (case hb => omega); (case h => with_reducible first | exact zpz_50_9 _))
    | (with_reducible apply z_7ownLeft; (case e1 => repeat (with_reducible first | exact zv_l _ | exact zv_r | apply zv_neg)); (case r2 => first | omega | ((simp (disch := omega) only [zU_c, zU_e, zU_k, zF_c, zF_i, zF_o, zW_o, zW_i, zC_c, zC_i, zC_o]); omega)); (case a2 => assumption); (case a1 => assumption))
    | (with_reducible apply z_7reach; (case e1 => repeat (with_reducible first | exact zv_l _ | exact zv_r | apply zv_neg)); (case r1 => first | omega | ((simp (disch := omega) only [zU_c, zU_e, zU_k, zF_c, zF_i, zF_o, zW_o, zW_i, zC_c, zC_i, zC_o]); omega)); (case a2 => assumption); (case a1 => assumption))
    | (with_reducible apply z_7isInNow; (case e3 => repeat (with_reducible first | exact zv_l _ | exact zv_r | apply zv_neg)); (case e4 => repeat (with_reducible first | exact zv_l _ | exact zv_r | apply zv_neg)); (case r1 => first | omega | ((simp (disch := omega) only [zU_c, zU_e, zU_k, zF_c, zF_i, zF_o, zW_o, zW_i, zC_c, zC_i, zC_o]); omega)); (case r2 => first | omega | ((simp (disch := omega) only [zU_c, zU_e, zU_k, zF_c, zF_i, zF_o, zW_o, zW_i, zC_c, zC_i, zC_o]); omega)); (case a1 => assumption); (case a2 => assumption); intro _ _ _))
  refine z_7ownLeft rfl (by omega) hR hA ?_
  (first
    | (with_reducible apply z_b_ck; (case h => with_unfolding_all rfl))
    | (with_reducible apply z_PU; (case he => repeat (with_reducible first | exact zv_l _ | exact zv_r | apply zv_neg)); (case h => with_reducible first | exact zp_50_5 _ | exact zp_50_6 _ | exact zp_50_8 _))
    | (with_reducible apply z_PZ; (case he => repeat (with_reducible first | exact zv_l _ | exact zv_r | apply zv_neg)); (case hb => omega); (case h => with_reducible first | exact zpz_50_9 _))
    | (with_reducible apply z_7ownLeft; (case e1 => repeat (with_reducible first | exact zv_l _ | exact zv_r | apply zv_neg)); (case r2 => first | omega | ((simp (disch := omega) only [zU_c, zU_e, zU_k, zF_c, zF_i, zF_o, zW_o, zW_i, zC_c, zC_i, zC_o]); omega)); (case a2 => assumption); (case a1 => assumption))
    | (with_reducible apply z_7reach; (case e1 => repeat (with_reducible first | exact zv_l _ | exact zv_r | apply zv_neg)); (case r1 => first | omega | ((simp (disch := omega) only [zU_c, zU_e, zU_k, zF_c, zF_i, zF_o, zW_o, zW_i, zC_c, zC_i, zC_o]); omega)); (case a2 => assumption); (case a1 => assumption))
    | (with_reducible apply z_7isInNow; (case e3 => repeat (with_reducible first | exact zv_l _ | exact zv_r | apply zv_neg)); (case e4 => repeat (with_reducible first | exact zv_l _ | exact zv_r | apply zv_neg)); (case r1 => first | omega | ((simp (disch := omega) only [zU_c, zU_e, zU_k, zF_c, zF_i, zF_o, zW_o, zW_i, zC_c, zC_i, zC_o]); omega)); (case r2 => first | omega | ((simp (disch := omega) only [zU_c, zU_e, zU_k, zF_c, zF_i, zF_o, zW_o, zW_i, zC_c, zC_i, zC_o]); omega)); (case a1 => assumption); (case a2 => assumption); intro _ _ _))
  have hR1 : zRw (zU m 50 5 t) := zRw_X (fun j => zU_c (by omega)) hR
  have hA1 : zAs (zU m 50 5 t) := fun k k0 k1 => by
    rw [zU_c (by omega)] at k1
    rw [zU_c (by omega)]
    exact hA k k0 k1
  refine z_7reach rfl (by omega) hR1 hA1 ?_
  have eo : zOwn (zV (zU m 50 5 t)) 3 t = zOwn (zV m) 3 t := rfl
  rw [eo]
  (first
    | (with_reducible apply z_b_ck; (case h => with_unfolding_all rfl))
    | (with_reducible apply z_PU; (case he => repeat (with_reducible first | exact zv_l _ | exact zv_r | apply zv_neg)); (case h => with_reducible first | exact zp_50_5 _ | exact zp_50_6 _ | exact zp_50_8 _))
    | (with_reducible apply z_PZ; (case he => repeat (with_reducible first | exact zv_l _ | exact zv_r | apply zv_neg)); (case hb => omega); (case h => with_reducible first | exact zpz_50_9 _))
    | (with_reducible apply z_7ownLeft; (case e1 => repeat (with_reducible first | exact zv_l _ | exact zv_r | apply zv_neg)); (case r2 => first | omega | ((simp (disch := omega) only [zU_c, zU_e, zU_k, zF_c, zF_i, zF_o, zW_o, zW_i, zC_c, zC_i, zC_o]); omega)); (case a2 => assumption); (case a1 => assumption))
    | (with_reducible apply z_7reach; (case e1 => repeat (with_reducible first | exact zv_l _ | exact zv_r | apply zv_neg)); (case r1 => first | omega | ((simp (disch := omega) only [zU_c, zU_e, zU_k, zF_c, zF_i, zF_o, zW_o, zW_i, zC_c, zC_i, zC_o]); omega)); (case a2 => assumption); (case a1 => assumption))
    | (with_reducible apply z_7isInNow; (case e3 => repeat (with_reducible first | exact zv_l _ | exact zv_r | apply zv_neg)); (case e4 => repeat (with_reducible first | exact zv_l _ | exact zv_r | apply zv_neg)); (case r1 => first | omega | ((simp (disch := omega) only [zU_c, zU_e, zU_k, zF_c, zF_i, zF_o, zW_o, zW_i, zC_c, zC_i, zC_o]); omega)); (case r2 => first | omega | ((simp (disch := omega) only [zU_c, zU_e, zU_k, zF_c, zF_i, zF_o, zW_o, zW_i, zC_c, zC_i, zC_o]); omega)); (case a1 => assumption); (case a2 => assumption); intro _ _ _))
  (first
    | (with_reducible apply z_b_ck; (case h => with_unfolding_all rfl))
    | (with_reducible apply z_PU; (case he => repeat (with_reducible first | exact zv_l _ | exact zv_r | apply zv_neg)); (case h => with_reducible first | exact zp_50_5 _ | exact zp_50_6 _ | exact zp_50_8 _))
    | (with_reducible apply z_PZ; (case he => repeat (with_reducible first | exact zv_l _ | exact zv_r | apply zv_neg)); (case hb => omega); (case h => with_reducible first | exact zpz_50_9 _))
    | (with_reducible apply z_7ownLeft; (case e1 => repeat (with_reducible first | exact zv_l _ | exact zv_r | apply zv_neg)); (case r2 => first | omega | ((simp (disch := omega) only [zU_c, zU_e, zU_k, zF_c, zF_i, zF_o, zW_o, zW_i, zC_c, zC_i, zC_o]); omega)); (case a2 => assumption); (case a1 => assumption))
    | (with_reducible apply z_7reach; (case e1 => repeat (with_reducible first | exact zv_l _ | exact zv_r | apply zv_neg)); (case r1 => first | omega | ((simp (disch := omega) only [zU_c, zU_e, zU_k, zF_c, zF_i, zF_o, zW_o, zW_i, zC_c, zC_i, zC_o]); omega)); (case a2 => assumption); (case a1 => assumption))
    | (with_reducible apply z_7isInNow; (case e3 => repeat (with_reducible first | exact zv_l _ | exact zv_r | apply zv_neg)); (case e4 => repeat (with_reducible first | exact zv_l _ | exact zv_r | apply zv_neg)); (case r1 => first | omega | ((simp (disch := omega) only [zU_c, zU_e, zU_k, zF_c, zF_i, zF_o, zW_o, zW_i, zC_c, zC_i, zC_o]); omega)); (case r2 => first | omega | ((simp (disch := omega) only [zU_c, zU_e, zU_k, zF_c, zF_i, zF_o, zW_o, zW_i, zC_c, zC_i, zC_o]); omega)); (case a1 => assumption); (case a2 => assumption); intro _ _ _))
  (first
    | (with_reducible apply z_b_ck; (case h => with_unfolding_all rfl))
    | (with_reducible apply z_PU; (case he => repeat (with_reducible first | exact zv_l _ | exact zv_r | apply zv_neg)); (case h => with_reducible first | exact zp_50_5 _ | exact zp_50_6 _ | exact zp_50_8 _))
    | (with_reducible apply z_PZ; (case he => repeat (with_reducible first | exact zv_l _ | exact zv_r | apply zv_neg)); (case hb => omega); (case h => with_reducible first | exact zpz_50_9 _))
    | (with_reducible apply z_7ownLeft; (case e1 => repeat (with_reducible first | exact zv_l _ | exact zv_r | apply zv_neg)); (case r2 => first | omega | ((simp (disch := omega) only [zU_c, zU_e, zU_k, zF_c, zF_i, zF_o, zW_o, zW_i, zC_c, zC_i, zC_o]); omega)); (case a2 => assumption); (case a1 => assumption))
    | (with_reducible apply z_7reach; (case e1 => repeat (with_reducible first | exact zv_l _ | exact zv_r | apply zv_neg)); (case r1 => first | omega | ((simp (disch := omega) only [zU_c, zU_e, zU_k, zF_c, zF_i, zF_o, zW_o, zW_i, zC_c, zC_i, zC_o]); omega)); (case a2 => assumption); (case a1 => assumption))
    | (with_reducible apply z_7isInNow; (case e3 => repeat (with_reducible first | exact zv_l _ | exact zv_r | apply zv_neg)); (case e4 => repeat (with_reducible first | exact zv_l _ | exact zv_r | apply zv_neg)); (case r1 => first | omega | ((simp (disch := omega) only [zU_c, zU_e, zU_k, zF_c, zF_i, zF_o, zW_o, zW_i, zC_c, zC_i, zC_o]); omega)); (case r2 => first | omega | ((simp (disch := omega) only [zU_c, zU_e, zU_k, zF_c, zF_i, zF_o, zW_o, zW_i, zC_c, zC_i, zC_o]); omega)); (case a1 => assumption); (case a2 => assumption); intro _ _ _))
  refine s7_inB hR hA ht hp (fun c j hc => ?_) ?_ ?_ ?_ ?_
  · by_cases hq : c = 50
    · subst hq
      rw [zU_k (by omega), zU_k (by omega), zU_k (by omega), zU_k (by omega)]
    · rw [zU_c hq, zU_c hq, zU_c hq, zU_c hq]
  · rw [zU_k (by omega), zU_k (by omega), zU_k (by omega), zU_e]
  · rw [zU_k (by omega), zU_k (by omega), zU_e, zU_c (by omega), zU_c (by omega)]
  · rw [zU_e]
  · rw [zU_k (by omega), zU_e]
theorem zPm_p {M mc : zMe} {t : Int} (h : zCr M mc 3) (hW : zWf mc 3) (ht : 0 ≤ t ∧ t < mc 3 0) (b : Nat) : zPm M t b ↔ zPp mc t b := by
  have eOw := zOwn_Cr (t := t) h hW
  obtain ⟨⟨h0, h1, h2⟩, hg, hp⟩ := h
  have hN := hW.1.2.1
  have hK := hW.1.2.2
  have eLs : zLs (zV M) 3 t (mc 3 1).toNat = zLs mc 3 t (mc 3 1).toNat := zLs_r (fun k hk => hg (k : Int) (by omega) (by omega))
  have eGl : zGl (zV M) 3 (zLs mc 3 t (mc 3 1).toNat) = zGl mc 3 (zLs mc 3 t (mc 3 1).toNat) := by
    refine List.map_congr_left (fun k hk => ?_)
    have hk := (zLs_in hk).1
    obtain ⟨g1, g2, g3⟩ := hg (k : Int) (by omega) (by omega)
    show (M 51 (51 + (k : Int)), M 51 (60 + (k : Int))) = _
    rw [g1, g2]
  have hends : ∀ u, 0 ≤ u → u < 6 → (if u < mc 3 0 ∧ ¬ u = t then zPt mc 3 t + (mc 3 2 + 1) * (zPop (zOwn mc 3 t) : Nat) - M 54 u else 0) = zFr1 mc 3 t u ∨ (0 ≤ (if u < mc 3 0 ∧ ¬ u = t then zPt mc 3 t + (mc 3 2 + 1) * (zPop (zOwn mc 3 t) : Nat) - M 54 u else 0) ∧ 0 ≤ zFr1 mc 3 t u ∧ ∀ e, e ∈ zGl mc 3 (zLs mc 3 t (mc 3 1).toNat) → ¬ u = e.1 ∧ ¬ u = e.2) := fun u u0 u1 => by
    by_cases hq : u < mc 3 0 ∧ ¬ u = t
    · left
      rw [if_pos hq, hp u u0 hq.1]
      rfl
    · right
      rw [if_neg hq]
      refine ⟨Int.le_refl 0, ?_, fun e he => ?_⟩
      · by_cases hut : u = t
        · rw [hut]
          exact zFr1_t hW
        · have hre := zRe_range hW ht.1
          have hpo := zPt_out hW (u := u) (by omega)
          unfold zFr1
          omega
      · have := zGl_e hW he
        omega
  unfold zPm zPp
  rw [h0, h1, h2, eLs, eGl, eOw, hp t ht.1 ht.2]
  constructor
  · rintro ⟨p1, xs, p2, p3⟩
    exact ⟨p1, xs, zFi_ends hends p2, p3⟩
  · rintro ⟨p1, xs, p2, p3⟩
    refine ⟨p1, xs, zFi_ends (fun u u0 u1 => ?_) p2, p3⟩
    rcases hends u u0 u1 with q | ⟨q1, q2, q3⟩
    · exact Or.inl q.symm
    · exact Or.inr ⟨q2, q1, q3⟩
theorem s7_patternE {mc m : zMe} {e : Int32} {t : Int} (e1 : e = zI t) (r1 : -2147483648 ≤ t ∧ t < 2147483648) (hW : zWf mc 3) (hE : zEq2 mc m 3 51) : zOk (f_X7_pattern 50 e (zM m)) (fun v m1 => (∃ y, v = zI y ∧ zPe mc t y) ∧ zY m m1) := by
  subst e1
  have hR := zRw_E hW hE
  have hT := hW.1.1
  have e0 : m 51 0 = mc 3 0 := hE.1.1
  unfold f_X7_pattern
  (first
    | (with_reducible apply z_nm; (case he => repeat (with_reducible first | exact zv_l _ | exact zv_r | apply zv_neg)))
    | (with_reducible apply z_b_ck; (case h => with_unfolding_all rfl))
    | (with_reducible apply z_I; (case h => first | with_unfolding_all rfl); (case hy => first | ((simp (disch := omega) only [zU_c, zU_e, zU_k, zF_c, zF_i, zF_o, zW_o, zW_i, zC_c, zC_i, zC_o]); rfl) | rfl))
    | (with_reducible apply z_7isTeam; (case e1 => repeat (with_reducible first | exact zv_l _ | exact zv_r | apply zv_neg)); (case r1 => first | omega | ((simp (disch := omega) only [zU_c, zU_e, zU_k, zF_c, zF_i, zF_o, zW_o, zW_i, zC_c, zC_i, zC_o]); omega)); (case r2 => first | omega | ((simp (disch := omega) only [zU_c, zU_e, zU_k, zF_c, zF_i, zF_o, zW_o, zW_i, zC_c, zC_i, zC_o]); omega)))
    | (with_reducible apply z_7looks; (case a2 => assumption))
    | (with_reducible apply z_7isInNow; (case e3 => repeat (with_reducible first | exact zv_l _ | exact zv_r | apply zv_neg)); (case e4 => repeat (with_reducible first | exact zv_l _ | exact zv_r | apply zv_neg)); (case r1 => first | omega | ((simp (disch := omega) only [zU_c, zU_e, zU_k, zF_c, zF_i, zF_o, zW_o, zW_i, zC_c, zC_i, zC_o]); omega)); (case r2 => first | omega | ((simp (disch := omega) only [zU_c, zU_e, zU_k, zF_c, zF_i, zF_o, zW_o, zW_i, zC_c, zC_i, zC_o]); omega)); (case a1 => assumption); (case a2 => assumption); intro _ _ _)
    | (with_reducible apply z_7pattern; (case e1 => repeat (with_reducible first | exact zv_l _ | exact zv_r | apply zv_neg)); (case r1 => first | omega | ((simp (disch := omega) only [zU_c, zU_e, zU_k, zF_c, zF_i, zF_o, zW_o, zW_i, zC_c, zC_i, zC_o]); omega)); (case a1 => assumption); intro _ _ _))
  refine z_7isTeam rfl r1 hR.1.1 ?_
  rw [e0]
  refine z_B (fun hq => ?_) (fun hq => ?_)
  · exact ⟨_, _, rfl, ⟨-2, rfl, Or.inl ⟨hq, rfl⟩⟩, zY_r _⟩
  · refine z_7looks hR ?_
    have hC := zCr_L7 hW hE
    have hY : zY m (zL7 m (zRs m)) := zL7_Y
    have hA := zL7_A hR
    have hR2 : zRw (zL7 m (zRs m)) := zRw_X (zX_51 hY.1) hR
    generalize zL7 m (zRs m) = M at hC hY hA hR2
    refine z_call (s7_isInB hR2 hA (by rw [hC.1.1]; exact hq) (zCr_p hW hC)) (fun v m2 hv => ?_)
    obtain ⟨hX2, h82, hmn⟩ := hv
    (first
    | (with_reducible apply z_nm; (case he => repeat (with_reducible first | exact zv_l _ | exact zv_r | apply zv_neg)))
    | (with_reducible apply z_b_ck; (case h => with_unfolding_all rfl))
    | (with_reducible apply z_I; (case h => first | with_unfolding_all rfl); (case hy => first | ((simp (disch := omega) only [zU_c, zU_e, zU_k, zF_c, zF_i, zF_o, zW_o, zW_i, zC_c, zC_i, zC_o]); rfl) | rfl))
    | (with_reducible apply z_7isTeam; (case e1 => repeat (with_reducible first | exact zv_l _ | exact zv_r | apply zv_neg)); (case r1 => first | omega | ((simp (disch := omega) only [zU_c, zU_e, zU_k, zF_c, zF_i, zF_o, zW_o, zW_i, zC_c, zC_i, zC_o]); omega)); (case r2 => first | omega | ((simp (disch := omega) only [zU_c, zU_e, zU_k, zF_c, zF_i, zF_o, zW_o, zW_i, zC_c, zC_i, zC_o]); omega)))
    | (with_reducible apply z_7looks; (case a2 => assumption))
    | (with_reducible apply z_7isInNow; (case e3 => repeat (with_reducible first | exact zv_l _ | exact zv_r | apply zv_neg)); (case e4 => repeat (with_reducible first | exact zv_l _ | exact zv_r | apply zv_neg)); (case r1 => first | omega | ((simp (disch := omega) only [zU_c, zU_e, zU_k, zF_c, zF_i, zF_o, zW_o, zW_i, zC_c, zC_i, zC_o]); omega)); (case r2 => first | omega | ((simp (disch := omega) only [zU_c, zU_e, zU_k, zF_c, zF_i, zF_o, zW_o, zW_i, zC_c, zC_i, zC_o]); omega)); (case a1 => assumption); (case a2 => assumption); intro _ _ _)
    | (with_reducible apply z_7pattern; (case e1 => repeat (with_reducible first | exact zv_l _ | exact zv_r | apply zv_neg)); (case r1 => first | omega | ((simp (disch := omega) only [zU_c, zU_e, zU_k, zF_c, zF_i, zF_o, zW_o, zW_i, zC_c, zC_i, zC_o]); omega)); (case a1 => assumption); intro _ _ _))
    exact ⟨_, _, rfl, ⟨_, rfl, Or.inr ⟨hq, zMn_iff (fun b _ => zPm_p hC hW hq b) hmn⟩⟩, zY_t hY ⟨hX2, fun _ => h82⟩⟩
theorem zp_patternE {m : zMe} (h : zInv m) (a : Int32) : zPr (f_X6_pattern 0 a (zM m)) (f_X7_pattern 50 a) True := by
  obtain ⟨t, rfl, ht⟩ := zI_of a
  refine zPr_of ((s6_patternE rfl ht h.1.1).mono (fun v m1 hv => ?_))
  obtain ⟨⟨y, rfl, hy⟩, hF⟩ := hv
  have hE := zEq2_41 h.1.2 (m1 := m1) (fun c hc j => hF c (by omega) j)
  refine (s7_patternE rfl ht h.1.1 hE).mono (fun w m2 hw => ?_)
  obtain ⟨⟨y', rfl, hy'⟩, hY⟩ := hw
  exact ⟨zInv_s h hF hY, fun _ => by rw [zPe_u hy hy']⟩
