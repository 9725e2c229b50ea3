/-! the reference's isInNow, exact -/
theorem zAndN {x w : Nat} (hx : x < 512) (hw : w < 512) : ∃ b : Nat, b < 512 ∧ zAnd (x : Int) (zXor (w : Int) (-1)) = (b : Int) ∧ ∀ k, b.testBit k = (x.testBit k && !w.testBit k) := by
  have ex : (zI (x : Int)).toBitVec = BitVec.ofNat 32 x := by
    rw [zI_ofNat]
    rfl
  have ew : (zI (w : Int)).toBitVec = BitVec.ofNat 32 w := by
    rw [zI_ofNat]
    rfl
  have e0 : zAnd (x : Int) (zXor (w : Int) (-1)) = (BitVec.ofNat 32 x &&& ~~~ BitVec.ofNat 32 w).toInt := by
    unfold zAnd zXor
    rw [← zI_self]
    show ((zI (x : Int)).toBitVec &&& ((zI (w : Int)).toBitVec ^^^ (zI (-1)).toBitVec)).toInt = _
    rw [ex, ew, show (zI (-1)).toBitVec = BitVec.allOnes 32 from rfl, BitVec.xor_allOnes]
  have hle : (BitVec.ofNat 32 x &&& ~~~ BitVec.ofNat 32 w).toNat ≤ x := by
    rw [BitVec.toNat_and]
    refine Nat.le_trans Nat.and_le_left ?_
    rw [BitVec.toNat_ofNat]
    exact Nat.mod_le _ _
  refine ⟨(BitVec.ofNat 32 x &&& ~~~ BitVec.ofNat 32 w).toNat, by omega, ?_, fun k => ?_⟩
  · rw [e0]
    exact BitVec.toInt_eq_toNat_of_lt (by omega)
  · rw [BitVec.testBit_toNat, BitVec.getLsbD_and, BitVec.getLsbD_not, BitVec.getLsbD_ofNat, BitVec.getLsbD_ofNat]
    by_cases hk : k < 32
    · simp [hk]
    · have hx2 : x.testBit k = false := by
        refine Nat.testBit_lt_two_pow (Nat.lt_of_lt_of_le hx ?_)
        have : 2 ^ 9 ≤ 2 ^ k := Nat.pow_le_pow_right (by omega) (by omega)
        omega
      simp [hk, hx2]
theorem zSg_snoc (set n g : Nat) : zSg set (n + 1) g = zSg set n g ++ (if set.testBit (g + n) = true then [g + n] else []) := by
  induction n generalizing g with
  | zero =>
    show (if set.testBit g = true then g :: [] else []) = [] ++ (if set.testBit (g + 0) = true then [g + 0] else [])
    rw [Nat.add_zero, List.nil_append]
  | succ n ih =>
    have e1 : zSg set (n + 1 + 1) g = if set.testBit g = true then g :: zSg set (n + 1) (g + 1) else zSg set (n + 1) (g + 1) := rfl
    have e2 : zSg set (n + 1) g = if set.testBit g = true then g :: zSg set n (g + 1) else zSg set n (g + 1) := rfl
    rw [e1, e2, ih (g + 1), show g + 1 + n = g + (n + 1) by omega]
    by_cases h : set.testBit g = true
    · rw [if_pos h, if_pos h]
      rfl
    · rw [if_neg h, if_neg h]
theorem zSg_Ls {m : zMe} {r b : Nat} {t : Int} {n : Nat} (h : ∀ k, k < n → (b.testBit k = true ↔ (m (r + 7) (k : Int) = -1 ∧ (¬ m (r + 4) (k : Int) = t ∧ ¬ m (r + 5) (k : Int) = t)))) : zSg b n 0 = zLs m r t n := by
  induction n with
  | zero => rfl
  | succ n ih =>
    have eL : zLs m r t (n + 1) = if m (r + 7) (n : Int) = -1 ∧ (¬ m (r + 4) (n : Int) = t ∧ ¬ m (r + 5) (n : Int) = t) then zLs m r t n ++ [n] else zLs m r t n := rfl
    rw [zSg_snoc, ih (fun k hk => h k (by omega)), eL, Nat.zero_add]
    have hn := h n (by omega)
    by_cases hq : m (r + 7) (n : Int) = -1 ∧ (¬ m (r + 4) (n : Int) = t ∧ ¬ m (r + 5) (n : Int) = t)
    · rw [if_pos hq, if_pos (hn.mpr hq)]
    · rw [if_neg hq, if_neg (fun w => hq (hn.mp w)), List.append_nil]
/-- the first run of t, as all is looked at -/
noncomputable def zFoI (m : zMe) (t : Int) : Option (List Int) := zFo (m 51 2) (if m 51 2 = 0 then 0 else 1) (zGl (zV m) 3 (zLs (zV m) 3 t (m 51 1).toNat)) (fun u => if u < m 51 0 ∧ ¬ u = t then m 54 t + (m 51 2 + 1) * (zPop (zOwn (zV m) 3 t) : Nat) - m 54 u else 0)
def zIp (m : zMe) (t a : Int) (v : Int32) (m2 : zMe) : Prop := v = zI (zB ((zFoI m t).isSome = true)) ∧ zX m m2 ∧ (∀ j, m2 53 j = m 53 j) ∧ (∀ j, m2 54 j = m 54 j) ∧ (-1 ≤ m2 50 8 ∧ m2 50 8 < 512) ∧ (∀ k : Nat, (k : Int) < m 51 1 → (zOwn (zV m) 3 t).testBit k = true → m2 55 (k : Int) = if m 51 (51 + (k : Int)) = t then 1 else 2) ∧ (a = 0 → ∀ l, zFoI m t = some l → zRq (m2 55) (zLs (zV m) 3 t (m 51 1).toNat) l)
theorem zLeft_bit {m : zMe} {k : Nat} (hk : (k : Int) < m 51 1) : (zLeft (zV m) 3).testBit k = decide (m 53 (k : Int) = -1) := by
  have e7 : zLeft (zV m) 3 = zBn (m 51 1).toNat (fun k => decide (m 53 (k : Int) = -1)) := rfl
  rw [e7, zBn_bit, decide_eq_true (show k < (m 51 1).toNat by omega)]
  rfl
theorem zOwn_bit {m : zMe} {k : Nat} {t : Int} (hk : (k : Int) < m 51 1) : (zOwn (zV m) 3 t).testBit k = decide (m 53 (k : Int) = -1 ∧ (m 51 (51 + (k : Int)) = t ∨ m 51 (60 + (k : Int)) = t)) := by
  have e7 : zOwn (zV m) 3 t = zBn (m 51 1).toNat (fun k => decide (m 53 (k : Int) = -1 ∧ (m 51 (51 + (k : Int)) = t ∨ m 51 (60 + (k : Int)) = t))) := rfl
  rw [e7, zBn_bit, decide_eq_true (show k < (m 51 1).toNat by omega)]
  rfl
set_option maxRecDepth 100000 in
set_option maxHeartbeats 1000000 in
theorem s7_inX {m M : zMe} {t a : Int} (hR : zRw m) (hA : zAs m) (ht : 0 ≤ t ∧ t < m 51 0) (ha : a = 0 ∨ a = 1) (hp : ∀ u, 0 ≤ u → u < m 51 0 → 0 ≤ m 54 u ∧ m 54 u ≤ 63) (hM : ∀ c j, ¬ (c = 50 ∧ (j = 5 ∨ j = 6 ∨ j = 8 ∨ j = 9)) → M c j = m c j) (h5 : M 50 5 = t) (h6 : M 50 6 = m 54 t + (m 51 2 + 1) * (zPop (zOwn (zV m) 3 t) : Nat)) (h8 : M 50 8 = -1) (h9 : M 50 9 = a) : zOk (lp f_X7_isInNow_33 600 (50, zI t, zI (zOwn (zV m) 3 t : Nat), zI 0) (zM M)) (zIp m t a) := by
  have hN := hR.1.2.1
  have hK := hR.1.2.2
  have hT := hR.1.1
  have hlt : zOwn (zV m) 3 t < 512 := zOwn_lt (m := zV m) (r := 3) hN
  have hpop := zPop_le (zOwn (zV m) 3 t)
  refine z_lp (fun n v m1 => ∃ i : Nat, v = (50, zI t, zI (zOwn (zV m) 3 t : Nat), zI (i : Int)) ∧ (i : Int) ≤ m 51 1 ∧ n = (m 51 1 - i).toNat ∧ (∀ c j, ¬ c = 55 → m1 c j = M c j) ∧ ∀ k : Nat, k < i → (zOwn (zV m) 3 t).testBit k = true → m1 55 (k : Int) = if m 51 (51 + (k : Int)) = t then 1 else 2) (fun _ _ v m1 => zIp m t a v m1) ?_ 600 (m 51 1).toNat _ _ (by omega) ⟨0, rfl, by omega, by omega, fun _ _ _ => rfl, fun k hk => absurd hk (by omega)⟩
  rintro n v m1 k ⟨i, rfl, hi, rfl, hX, hrun⟩ hk
  have e : ∀ c j, ¬ c = 55 → ¬ (c = 50 ∧ (j = 5 ∨ j = 6 ∨ j = 8 ∨ j = 9)) → m1 c j = m c j := fun c j a b => by rw [hX c j a, hM c j b]
  have e51 : ∀ j, m1 51 j = m 51 j := fun j => e 51 j (by omega) (by omega)
  have e53 : ∀ j, m1 53 j = m 53 j := fun j => e 53 j (by omega) (by omega)
  have e54 : ∀ j, m1 54 j = m 54 j := fun j => e 54 j (by omega) (by omega)
  have g5 : m1 50 5 = t := by rw [hX 50 5 (by omega), h5]
  have g6 : m1 50 6 = m 54 t + (m 51 2 + 1) * (zPop (zOwn (zV m) 3 t) : Nat) := by rw [hX 50 6 (by omega), h6]
  have g8 : m1 50 8 = -1 := by rw [hX 50 8 (by omega), h8]
  have g9 : m1 50 9 = a := by rw [hX 50 9 (by omega), h9]
  have hR1 : zRw m1 := zRw_X e51 hR
  have hA1 : zAs m1 := fun k k0 k1 => by
    rw [e51] at k1
    rw [e53]
    exact hA k k0 k1
  have hg := hR.2.2 (i : Int) (by omega)
  unfold f_X7_isInNow_33
  dsimp only
  (first
    | (with_reducible apply z_nm; (case he => repeat (with_reducible first | exact zv_l _ | exact zv_r | apply zv_add | apply zv_sub | apply zv_mul | apply zv_neg | apply zv_and | apply zv_xor)))
    | (with_reducible apply z_b_R; (case h => first | with_unfolding_all rfl))
    | (with_reducible apply z_L; (case he => repeat (with_reducible first | exact zv_l _ | exact zv_r | apply zv_add | apply zv_sub | apply zv_mul | apply zv_neg | apply zv_and | apply zv_xor)); (case hn => with_reducible first | assumption | exact zl_2 | exact zl_4 | exact zl_5 | exact zl_6 | exact zl_7 | exact zl_8 | exact zl_9 | exact zl_51 | exact zl_53 | exact zl_54 | exact zl_55 | exact zl_60); (case h => omega); (case hy => first | ((simp (disch := omega) only [zU_c, zU_e, zU_k, zF_c, zF_i, zF_o, zW_o, zW_i, zC_c, zC_i, zC_o]); rfl) | rfl))
    | (with_reducible apply z_S; (case he => repeat (with_reducible first | exact zv_l _ | exact zv_r | apply zv_add | apply zv_sub | apply zv_mul | apply zv_neg | apply zv_and | apply zv_xor)); (case hg => repeat (with_reducible first | exact zv_l _ | exact zv_r | apply zv_add | apply zv_sub | apply zv_mul | apply zv_neg | apply zv_and | apply zv_xor)); (case hn => with_reducible first | assumption | exact zl_2 | exact zl_4 | exact zl_5 | exact zl_6 | exact zl_7 | exact zl_8 | exact zl_9 | exact zl_51 | exact zl_53 | exact zl_54 | exact zl_55 | exact zl_60); (case h => omega))
    | with_reducible refine z_bz ?_
    | with_reducible refine z_bzE ?_
    | (with_reducible apply z_bzl; (case h => omega))
    | (with_reducible apply z_7has; (case e1 => repeat (with_reducible first | exact zv_l _ | exact zv_r | apply zv_add | apply zv_sub | apply zv_mul | apply zv_neg | apply zv_and | apply zv_xor)); (case e2 => repeat (with_reducible first | exact zv_l _ | exact zv_r | apply zv_add | apply zv_sub | apply zv_mul | apply zv_neg | apply zv_and | apply zv_xor)); (case r1 => first | omega | ((simp (disch := omega) only [zU_c, zU_e, zU_k, zF_c, zF_i, zF_o, zW_o, zW_i, zC_c, zC_i, zC_o]); omega)); (case r2 => first | omega | ((simp (disch := omega) only [zU_c, zU_e, zU_k, zF_c, zF_i, zF_o, zW_o, zW_i, zC_c, zC_i, zC_o]); omega)))
    | (with_reducible apply z_7leftSet; (case r1 => first | omega | ((simp (disch := omega) only [zU_c, zU_e, zU_k, zF_c, zF_i, zF_o, zW_o, zW_i, zC_c, zC_i, zC_o]); omega)); (case a1 => assumption)))
  refine z_L (x := 1) (y := m 51 1) (zv_l 1) zl_51 (by omega) (e51 1) ?_
  (first
    | (with_reducible apply z_B; all_goals (intro _; try (exfalso; omega)))
    | (with_reducible apply z_E; all_goals intro _)
    | (with_reducible apply z_lt; (case ha => repeat (with_reducible first | exact zv_l _ | exact zv_r | apply zv_add | apply zv_sub | apply zv_mul | apply zv_neg | apply zv_and | apply zv_xor)); (case hb => repeat (with_reducible first | exact zv_l _ | exact zv_r | apply zv_add | apply zv_sub | apply zv_mul | apply zv_neg | apply zv_and | apply zv_xor)); (case hx => omega); (case hy => omega); all_goals (intro _; try (exfalso; omega)))
    | (with_reducible apply z_le; (case ha => repeat (with_reducible first | exact zv_l _ | exact zv_r | apply zv_add | apply zv_sub | apply zv_mul | apply zv_neg | apply zv_and | apply zv_xor)); (case hb => repeat (with_reducible first | exact zv_l _ | exact zv_r | apply zv_add | apply zv_sub | apply zv_mul | apply zv_neg | apply zv_and | apply zv_xor)); (case hx => omega); (case hy => omega); all_goals (intro _; try (exfalso; omega)))
    | (with_reducible apply z_eq; (case ha => repeat (with_reducible first | exact zv_l _ | exact zv_r | apply zv_add | apply zv_sub | apply zv_mul | apply zv_neg | apply zv_and | apply zv_xor)); (case hb => repeat (with_reducible first | exact zv_l _ | exact zv_r | apply zv_add | apply zv_sub | apply zv_mul | apply zv_neg | apply zv_and | apply zv_xor)); (case hx => omega); (case hy => omega); all_goals (intro _; try (exfalso; omega))))
  · refine z_7leftSet hR1.1.2.1 hA1 ?_
    have eLf : zLeft (zV m1) 3 = zLeft (zV m) 3 := by
      have e7 : ∀ q : zMe, zLeft (zV q) 3 = zBn (q 51 1).toNat (fun k => decide (q 53 (k : Int) = -1)) := fun q => rfl
      rw [e7, e7, e51]
      simp only [e53]
    rw [eLf]
    obtain ⟨b, hb, eb, hbit⟩ := zAndN (x := zLeft (zV m) 3) (w := zOwn (zV m) 3 t) (zLeft_lt (m := zV m) (r := 3) hN) hlt
    have eset : zI (zLeft (zV m) 3 : Nat) &&& (zI (zOwn (zV m) 3 t : Nat) ^^^ (-1 : Int32)) = zI (b : Int) := by
      rw [← eb]
      exact zv_and rfl (zv_xor rfl rfl)
    rw [eset]
    have hbk : ∀ k : Nat, (k : Int) < m 51 1 → (b.testBit k = true ↔ (zV m (3 + 7) (k : Int) = -1 ∧ (¬ zV m (3 + 4) (k : Int) = t ∧ ¬ zV m (3 + 5) (k : Int) = t))) := fun k hk => by
      show _ ↔ (m 53 (k : Int) = -1 ∧ (¬ m 51 (51 + (k : Int)) = t ∧ ¬ m 51 (60 + (k : Int)) = t))
      rw [hbit, zLeft_bit hk, zOwn_bit hk]
      by_cases q1 : m 53 (k : Int) = -1 <;> by_cases q2 : m 51 (51 + (k : Int)) = t <;> by_cases q3 : m 51 (60 + (k : Int)) = t <;> simp [q1, q2, q3]
    have eL : zSg b (m 51 1).toNat 0 = zLs (zV m) 3 t (m 51 1).toNat := zSg_Ls (fun k hk => hbk k (by omega))
    have hGa : zGa m1 b 0 := by
      refine ⟨⟨hR1, hA1, by omega, by rw [g9]; exact ha⟩, by rw [e51]; omega, fun k k1 k2 => ?_, fun u u0 u1 => ?_, ?_, by rw [g5]; omega⟩
      · rw [e51] at k1
        rw [e51, e51, g5]
        exact ((hbk k k1).mp k2).2
      · rw [e51] at u1
        have := hp u u0 u1
        rw [e51, e54]
        omega
      · have := hp t ht.1 ht.2
        have h7 : 0 ≤ (m 51 2 + 1) * (zPop (zOwn (zV m) 3 t) : Nat) ∧ (m 51 2 + 1) * (zPop (zOwn (zV m) 3 t) : Nat) ≤ 27 := by
          have : m 51 2 = 0 ∨ m 51 2 = 1 ∨ m 51 2 = 2 := by omega
          rcases this with e | e | e <;> rw [e] <;> omega
        rw [g6]
        omega
    have eFo : zFo7 m1 b (m 51 1).toNat 0 = zFoI m t := by
      unfold zFo7 zFoI
      rw [eL, e51, zGl7_51 e51]
      have eG : zGl7 m (zLs (zV m) 3 t (m 51 1).toNat) = zGl (zV m) 3 (zLs (zV m) 3 t (m 51 1).toNat) := rfl
      rw [eG]
      refine zFo_congr (fun u u0 u1 => ?_)
      unfold zRm
      rw [e51, g5, g6, e54]
    refine z_call (s7_goesA (g := 0) hGa hb) (fun v m2 hv => ?_)
    unfold zGp at hv
    rw [e51, g9, show (m 51 1 - 0).toNat = (m 51 1).toNat by omega, show (0 : Int).toNat = 0 from rfl, eFo, eL] at hv
    obtain ⟨rfl, q1, q2, q3, q4⟩ := hv
    (first
    | (with_reducible apply z_nm; (case he => repeat (with_reducible first | exact zv_l _ | exact zv_r | apply zv_add | apply zv_sub | apply zv_mul | apply zv_neg | apply zv_and | apply zv_xor)))
    | (with_reducible apply z_b_R; (case h => first | with_unfolding_all rfl))
    | (with_reducible apply z_L; (case he => repeat (with_reducible first | exact zv_l _ | exact zv_r | apply zv_add | apply zv_sub | apply zv_mul | apply zv_neg | apply zv_and | apply zv_xor)); (case hn => with_reducible first | assumption | exact zl_2 | exact zl_4 | exact zl_5 | exact zl_6 | exact zl_7 | exact zl_8 | exact zl_9 | exact zl_51 | exact zl_53 | exact zl_54 | exact zl_55 | exact zl_60); (case h => omega); (case hy => first | ((simp (disch := omega) only [zU_c, zU_e, zU_k, zF_c, zF_i, zF_o, zW_o, zW_i, zC_c, zC_i, zC_o]); rfl) | rfl))
    | (with_reducible apply z_S; (case he => repeat (with_reducible first | exact zv_l _ | exact zv_r | apply zv_add | apply zv_sub | apply zv_mul | apply zv_neg | apply zv_and | apply zv_xor)); (case hg => repeat (with_reducible first | exact zv_l _ | exact zv_r | apply zv_add | apply zv_sub | apply zv_mul | apply zv_neg | apply zv_and | apply zv_xor)); (case hn => with_reducible first | assumption | exact zl_2 | exact zl_4 | exact zl_5 | exact zl_6 | exact zl_7 | exact zl_8 | exact zl_9 | exact zl_51 | exact zl_53 | exact zl_54 | exact zl_55 | exact zl_60); (case h => omega))
    | with_reducible refine z_bz ?_
    | with_reducible refine z_bzE ?_
    | (with_reducible apply z_bzl; (case h => omega))
    | (with_reducible apply z_7has; (case e1 => repeat (with_reducible first | exact zv_l _ | exact zv_r | apply zv_add | apply zv_sub | apply zv_mul | apply zv_neg | apply zv_and | apply zv_xor)); (case e2 => repeat (with_reducible first | exact zv_l _ | exact zv_r | apply zv_add | apply zv_sub | apply zv_mul | apply zv_neg | apply zv_and | apply zv_xor)); (case r1 => first | omega | ((simp (disch := omega) only [zU_c, zU_e, zU_k, zF_c, zF_i, zF_o, zW_o, zW_i, zC_c, zC_i, zC_o]); omega)); (case r2 => first | omega | ((simp (disch := omega) only [zU_c, zU_e, zU_k, zF_c, zF_i, zF_o, zW_o, zW_i, zC_c, zC_i, zC_o]); omega)))
    | (with_reducible apply z_7leftSet; (case r1 => first | omega | ((simp (disch := omega) only [zU_c, zU_e, zU_k, zF_c, zF_i, zF_o, zW_o, zW_i, zC_c, zC_i, zC_o]); omega)); (case a1 => assumption)))
    refine ⟨_, _, rfl, rfl, fun c j hc => ?_, fun j => ?_, fun j => ?_, q2, fun k k1 k2 => ?_, q4⟩
    · unfold zSr at hc
      rw [q1 c j (by omega) (by omega), e c j (by omega) (by omega)]
    · rw [q1 53 j (by omega) (by omega), e53]
    · rw [q1 54 j (by omega) (by omega), e54]
    · rw [q3 (k : Int) (fun x hx => ?_), hrun k (by omega) k2]
      intro hkx
      have hkx : k = x := by omega
      subst hkx
      have h1 := (zLs_in hx).2.2
      rw [zOwn_bit k1] at k2
      have h2 := (of_decide_eq_true k2).2
      have h3 : ¬ m 51 (51 + (k : Int)) = t ∧ ¬ m 51 (60 + (k : Int)) = t := h1
      omega
  · obtain ⟨p1, p2, p3, p4, p5⟩ := hg (by omega)
    have hset : ∀ x, ((zOwn (zV m) 3 t).testBit i = true → x = if m 51 (51 + (i : Int)) = t then 1 else 2) → zOk (f_X7_isInNow_82 k 50 (zI t) (zI (zOwn (zV m) 3 t : Nat)) (zI (i : Int)) (zI x) (zI (i : Int)) 55 (zM m1)) (fun v m1 => zIp m t a v m1) := fun x hx => by
      unfold f_X7_isInNow_82
      refine z_S rfl rfl zl_55 (by omega) ?_
      repeat' (first
    | (with_reducible apply z_nm; (case he => repeat (with_reducible first | exact zv_l _ | exact zv_r | apply zv_add | apply zv_sub | apply zv_mul | apply zv_neg | apply zv_and | apply zv_xor)))
    | (with_reducible apply z_b_R; (case h => first | with_unfolding_all rfl))
    | (with_reducible apply z_L; (case he => repeat (with_reducible first | exact zv_l _ | exact zv_r | apply zv_add | apply zv_sub | apply zv_mul | apply zv_neg | apply zv_and | apply zv_xor)); (case hn => with_reducible first | assumption | exact zl_2 | exact zl_4 | exact zl_5 | exact zl_6 | exact zl_7 | exact zl_8 | exact zl_9 | exact zl_51 | exact zl_53 | exact zl_54 | exact zl_55 | exact zl_60); (case h => omega); (case hy => first | ((simp (disch := omega) only [zU_c, zU_e, zU_k, zF_c, zF_i, zF_o, zW_o, zW_i, zC_c, zC_i, zC_o]); rfl) | rfl))
    | (with_reducible apply z_S; (case he => repeat (with_reducible first | exact zv_l _ | exact zv_r | apply zv_add | apply zv_sub | apply zv_mul | apply zv_neg | apply zv_and | apply zv_xor)); (case hg => repeat (with_reducible first | exact zv_l _ | exact zv_r | apply zv_add | apply zv_sub | apply zv_mul | apply zv_neg | apply zv_and | apply zv_xor)); (case hn => with_reducible first | assumption | exact zl_2 | exact zl_4 | exact zl_5 | exact zl_6 | exact zl_7 | exact zl_8 | exact zl_9 | exact zl_51 | exact zl_53 | exact zl_54 | exact zl_55 | exact zl_60); (case h => omega))
    | with_reducible refine z_bz ?_
    | with_reducible refine z_bzE ?_
    | (with_reducible apply z_bzl; (case h => omega))
    | (with_reducible apply z_7has; (case e1 => repeat (with_reducible first | exact zv_l _ | exact zv_r | apply zv_add | apply zv_sub | apply zv_mul | apply zv_neg | apply zv_and | apply zv_xor)); (case e2 => repeat (with_reducible first | exact zv_l _ | exact zv_r | apply zv_add | apply zv_sub | apply zv_mul | apply zv_neg | apply zv_and | apply zv_xor)); (case r1 => first | omega | ((simp (disch := omega) only [zU_c, zU_e, zU_k, zF_c, zF_i, zF_o, zW_o, zW_i, zC_c, zC_i, zC_o]); omega)); (case r2 => first | omega | ((simp (disch := omega) only [zU_c, zU_e, zU_k, zF_c, zF_i, zF_o, zW_o, zW_i, zC_c, zC_i, zC_o]); omega)))
    | (with_reducible apply z_7leftSet; (case r1 => first | omega | ((simp (disch := omega) only [zU_c, zU_e, zU_k, zF_c, zF_i, zF_o, zW_o, zW_i, zC_c, zC_i, zC_o]); omega)); (case a1 => assumption)))
      refine hk _ _ _ (by omega) ⟨i + 1, rfl, by omega, rfl, fun c j q => by rw [zU_c q, hX c j q], fun k hk1 hk2 => ?_⟩
      by_cases hq : k = i
      · subst hq
        rw [zU_e]
        exact hx hk2
      · rw [zU_k (by omega)]
        exact hrun k (by omega) hk2
    (first
    | (with_reducible apply z_nm; (case he => repeat (with_reducible first | exact zv_l _ | exact zv_r | apply zv_add | apply zv_sub | apply zv_mul | apply zv_neg | apply zv_and | apply zv_xor)))
    | (with_reducible apply z_b_R; (case h => first | with_unfolding_all rfl))
    | (with_reducible apply z_L; (case he => repeat (with_reducible first | exact zv_l _ | exact zv_r | apply zv_add | apply zv_sub | apply zv_mul | apply zv_neg | apply zv_and | apply zv_xor)); (case hn => with_reducible first | assumption | exact zl_2 | exact zl_4 | exact zl_5 | exact zl_6 | exact zl_7 | exact zl_8 | exact zl_9 | exact zl_51 | exact zl_53 | exact zl_54 | exact zl_55 | exact zl_60); (case h => omega); (case hy => first | ((simp (disch := omega) only [zU_c, zU_e, zU_k, zF_c, zF_i, zF_o, zW_o, zW_i, zC_c, zC_i, zC_o]); rfl) | rfl))
    | (with_reducible apply z_S; (case he => repeat (with_reducible first | exact zv_l _ | exact zv_r | apply zv_add | apply zv_sub | apply zv_mul | apply zv_neg | apply zv_and | apply zv_xor)); (case hg => repeat (with_reducible first | exact zv_l _ | exact zv_r | apply zv_add | apply zv_sub | apply zv_mul | apply zv_neg | apply zv_and | apply zv_xor)); (case hn => with_reducible first | assumption | exact zl_2 | exact zl_4 | exact zl_5 | exact zl_6 | exact zl_7 | exact zl_8 | exact zl_9 | exact zl_51 | exact zl_53 | exact zl_54 | exact zl_55 | exact zl_60); (case h => omega))
    | with_reducible refine z_bz ?_
    | with_reducible refine z_bzE ?_
    | (with_reducible apply z_bzl; (case h => omega))
    | (with_reducible apply z_7has; (case e1 => repeat (with_reducible first | exact zv_l _ | exact zv_r | apply zv_add | apply zv_sub | apply zv_mul | apply zv_neg | apply zv_and | apply zv_xor)); (case e2 => repeat (with_reducible first | exact zv_l _ | exact zv_r | apply zv_add | apply zv_sub | apply zv_mul | apply zv_neg | apply zv_and | apply zv_xor)); (case r1 => first | omega | ((simp (disch := omega) only [zU_c, zU_e, zU_k, zF_c, zF_i, zF_o, zW_o, zW_i, zC_c, zC_i, zC_o]); omega)); (case r2 => first | omega | ((simp (disch := omega) only [zU_c, zU_e, zU_k, zF_c, zF_i, zF_o, zW_o, zW_i, zC_c, zC_i, zC_o]); omega)))
    | (with_reducible apply z_7leftSet; (case r1 => first | omega | ((simp (disch := omega) only [zU_c, zU_e, zU_k, zF_c, zF_i, zF_o, zW_o, zW_i, zC_c, zC_i, zC_o]); omega)); (case a1 => assumption)))
    refine z_7has rfl rfl hlt (by omega) ?_
    refine z_B (fun hb => ?_) (fun hb => ?_)
    · exact hset (-1) (fun q => absurd q hb)
    · (first
    | (with_reducible apply z_nm; (case he => repeat (with_reducible first | exact zv_l _ | exact zv_r | apply zv_add | apply zv_sub | apply zv_mul | apply zv_neg | apply zv_and | apply zv_xor)))
    | (with_reducible apply z_b_R; (case h => first | with_unfolding_all rfl))
    | (with_reducible apply z_L; (case he => repeat (with_reducible first | exact zv_l _ | exact zv_r | apply zv_add | apply zv_sub | apply zv_mul | apply zv_neg | apply zv_and | apply zv_xor)); (case hn => with_reducible first | assumption | exact zl_2 | exact zl_4 | exact zl_5 | exact zl_6 | exact zl_7 | exact zl_8 | exact zl_9 | exact zl_51 | exact zl_53 | exact zl_54 | exact zl_55 | exact zl_60); (case h => omega); (case hy => first | ((simp (disch := omega) only [zU_c, zU_e, zU_k, zF_c, zF_i, zF_o, zW_o, zW_i, zC_c, zC_i, zC_o]); rfl) | rfl))
    | (with_reducible apply z_S; (case he => repeat (with_reducible first | exact zv_l _ | exact zv_r | apply zv_add | apply zv_sub | apply zv_mul | apply zv_neg | apply zv_and | apply zv_xor)); (case hg => repeat (with_reducible first | exact zv_l _ | exact zv_r | apply zv_add | apply zv_sub | apply zv_mul | apply zv_neg | apply zv_and | apply zv_xor)); (case hn => with_reducible first | assumption | exact zl_2 | exact zl_4 | exact zl_5 | exact zl_6 | exact zl_7 | exact zl_8 | exact zl_9 | exact zl_51 | exact zl_53 | exact zl_54 | exact zl_55 | exact zl_60); (case h => omega))
    | with_reducible refine z_bz ?_
    | with_reducible refine z_bzE ?_
    | (with_reducible apply z_bzl; (case h => omega))
    | (with_reducible apply z_7has; (case e1 => repeat (with_reducible first | exact zv_l _ | exact zv_r | apply zv_add | apply zv_sub | apply zv_mul | apply zv_neg | apply zv_and | apply zv_xor)); (case e2 => repeat (with_reducible first | exact zv_l _ | exact zv_r | apply zv_add | apply zv_sub | apply zv_mul | apply zv_neg | apply zv_and | apply zv_xor)); (case r1 => first | omega | ((simp (disch := omega) only [zU_c, zU_e, zU_k, zF_c, zF_i, zF_o, zW_o, zW_i, zC_c, zC_i, zC_o]); omega)); (case r2 => first | omega | ((simp (disch := omega) only [zU_c, zU_e, zU_k, zF_c, zF_i, zF_o, zW_o, zW_i, zC_c, zC_i, zC_o]); omega)))
    | (with_reducible apply z_7leftSet; (case r1 => first | omega | ((simp (disch := omega) only [zU_c, zU_e, zU_k, zF_c, zF_i, zF_o, zW_o, zW_i, zC_c, zC_i, zC_o]); omega)); (case a1 => assumption)))
      refine z_L (x := 51 + (i : Int)) (y := m 51 (51 + (i : Int))) (zv_add (zv_l 51) rfl) zl_51 (by omega) (e51 _) ?_
      refine z_eq (x := m 51 (51 + (i : Int))) (y := t) rfl rfl (by omega) (by omega) (fun hq => ?_) (fun hq => ?_)
      · exact hset 1 (fun _ => by rw [if_pos hq])
      · exact hset 2 (fun _ => by rw [if_neg hq])
theorem s7_isInX {m : zMe} {t a : Int} {e1 e2 : Int32} (he1 : e1 = zI t) (he2 : e2 = zI a) (hR : zRw m) (hA : zAs m) (ht : 0 ≤ t ∧ t < m 51 0) (ha : a = 0 ∨ a = 1) (hp : ∀ u, 0 ≤ u → u < m 51 0 → 0 ≤ m 54 u ∧ m 54 u ≤ 63) : zOk (f_X7_isInNow 50 e1 e2 (zM m)) (zIp m t a) := by
  subst he1; subst he2
  have hT := hR.1.1
  unfold f_X7_isInNow
  (first
    | (with_reducible apply z_b_ck; (case h => with_unfolding_all rfl))
    | (with_reducible apply z_PU; (case he => repeat (with_reducible first | exact zv_l _ | exact zv_r | apply zv_neg)); (case h => with_reducible first | exact zp_50_5 _ | exact zp_50_6 _ | exact zp_50_8 _))
    | (with_reducible apply z_PZ; (case he => repeat (with_reducible first | exact zv_l _ | exact zv_r | apply zv_neg)); (case hb => omega); (case h => with_reducible first | exact zpz_50_9 _))
    | (with_reducible apply z_7ownLeft; (case e1 => repeat (with_reducible first | exact zv_l _ | exact zv_r | apply zv_neg)); (case r2 => first | omega | ((simp (disch := omega) only [zU_c, zU_e, zU_k, zF_c, zF_i, zF_o, zW_o, zW_i, zC_c, zC_i, zC_o]); omega)); (case a2 => assumption); (case a1 => assumption))
    | (with_reducible apply z_7reach; (case e1 => repeat (with_reducible first | exact zv_l _ | exact zv_r | apply zv_neg)); (case r1 => first | omega | ((simp (disch := omega) only [zU_c, zU_e, zU_k, zF_c, zF_i, zF_o, zW_o, zW_i, zC_c, zC_i, zC_o]); omega)); (case a2 => assumption); (case a1 => assumption))
    | (with_reducible apply z_7isInNow; (case e3 => repeat (with_reducible first | exact zv_l _ | exact zv_r | apply zv_neg)); (case e4 => repeat (with_reducible first | exact zv_l _ | exact zv_r | apply zv_neg)); (case r1 => first | omega | ((simp (disch := omega) only [zU_c, zU_e, zU_k, zF_c, zF_i, zF_o, zW_o, zW_i, zC_c, zC_i, zC_o]); omega)); (case r2 => first | omega | ((simp (disch := omega) only [zU_c, zU_e, zU_k, zF_c, zF_i, zF_o, zW_o, zW_i, zC_c, zC_i, zC_o]); omega)); (case a1 => assumption); (case a2 => assumption); intro _ _ _))
  refine z_7ownLeft rfl (by omega) hR hA ?_
  (first
    | (with_reducible apply z_b_ck; (case h => with_unfolding_all rfl))
    | (with_reducible apply z_PU; (case he => repeat (with_reducible first | exact zv_l _ | exact zv_r | apply zv_neg)); (case h => with_reducible first | exact zp_50_5 _ | exact zp_50_6 _ | exact zp_50_8 _))
    | (with_reducible apply z_PZ; (case he => repeat (with_reducible first | exact zv_l _ | exact zv_r | apply zv_neg)); (case hb => omega); (case h => with_reducible first | exact zpz_50_9 _))
    | (with_reducible apply z_7ownLeft; (case e1 => repeat (with_reducible first | exact zv_l _ | exact zv_r | apply zv_neg)); (case r2 => first | omega | ((simp (disch := omega) only [zU_c, zU_e, zU_k, zF_c, zF_i, zF_o, zW_o, zW_i, zC_c, zC_i, zC_o]); omega)); (case a2 => assumption); (case a1 => assumption))
    | (with_reducible apply z_7reach; (case e1 => repeat (with_reducible first | exact zv_l _ | exact zv_r | apply zv_neg)); (case r1 => first | omega | ((simp (disch := omega) only [zU_c, zU_e, zU_k, zF_c, zF_i, zF_o, zW_o, zW_i, zC_c, zC_i, zC_o]); omega)); (case a2 => assumption); (case a1 => assumption))
    | (with_reducible apply z_7isInNow; (case e3 => repeat (with_reducible first | exact zv_l _ | exact zv_r | apply zv_neg)); (case e4 => repeat (with_reducible first | exact zv_l _ | exact zv_r | apply zv_neg)); (case r1 => first | omega | ((simp (disch := omega) only [zU_c, zU_e, zU_k, zF_c, zF_i, zF_o, zW_o, zW_i, zC_c, zC_i, zC_o]); omega)); (case r2 => first | omega | ((simp (disch := omega) only [zU_c, zU_e, zU_k, zF_c, zF_i, zF_o, zW_o, zW_i, zC_c, zC_i, zC_o]); omega)); (case a1 => assumption); (case a2 => assumption); intro _ _ _))
  have hR1 : zRw (zU m 50 5 t) := zRw_X (fun j => zU_c (by omega)) hR
  have hA1 : zAs (zU m 50 5 t) := fun k k0 k1 => by
    rw [zU_c (by omega)] at k1
    rw [zU_c (by omega)]
    exact hA k k0 k1
  refine z_7reach rfl (by omega) hR1 hA1 ?_
  have eo : zOwn (zV (zU m 50 5 t)) 3 t = zOwn (zV m) 3 t := rfl
  rw [eo]
  (first
    | (with_reducible apply z_b_ck; (case h => with_unfolding_all rfl))
    | (with_reducible apply z_PU; (case he => repeat (with_reducible first | exact zv_l _ | exact zv_r | apply zv_neg)); (case h => with_reducible first | exact zp_50_5 _ | exact zp_50_6 _ | exact zp_50_8 _))
    | (with_reducible apply z_PZ; (case he => repeat (with_reducible first | exact zv_l _ | exact zv_r | apply zv_neg)); (case hb => omega); (case h => with_reducible first | exact zpz_50_9 _))
    | (with_reducible apply z_7ownLeft; (case e1 => repeat (with_reducible first | exact zv_l _ | exact zv_r | apply zv_neg)); (case r2 => first | omega | ((simp (disch := omega) only [zU_c, zU_e, zU_k, zF_c, zF_i, zF_o, zW_o, zW_i, zC_c, zC_i, zC_o]); omega)); (case a2 => assumption); (case a1 => assumption))
    | (with_reducible apply z_7reach; (case e1 => repeat (with_reducible first | exact zv_l _ | exact zv_r | apply zv_neg)); (case r1 => first | omega | ((simp (disch := omega) only [zU_c, zU_e, zU_k, zF_c, zF_i, zF_o, zW_o, zW_i, zC_c, zC_i, zC_o]); omega)); (case a2 => assumption); (case a1 => assumption))
    | (with_reducible apply z_7isInNow; (case e3 => repeat (with_reducible first | exact zv_l _ | exact zv_r | apply zv_neg)); (case e4 => repeat (with_reducible first | exact zv_l _ | exact zv_r | apply zv_neg)); (case r1 => first | omega | ((simp (disch := omega) only [zU_c, zU_e, zU_k, zF_c, zF_i, zF_o, zW_o, zW_i, zC_c, zC_i, zC_o]); omega)); (case r2 => first | omega | ((simp (disch := omega) only [zU_c, zU_e, zU_k, zF_c, zF_i, zF_o, zW_o, zW_i, zC_c, zC_i, zC_o]); omega)); (case a1 => assumption); (case a2 => assumption); intro _ _ _))
  (first
    | (with_reducible apply z_b_ck; (case h => with_unfolding_all rfl))
    | (with_reducible apply z_PU; (case he => repeat (with_reducible first | exact zv_l _ | exact zv_r | apply zv_neg)); (case h => with_reducible first | exact zp_50_5 _ | exact zp_50_6 _ | exact zp_50_8 _))
    | (with_reducible apply z_PZ; (case he => repeat (with_reducible first | exact zv_l _ | exact zv_r | apply zv_neg)); (case hb => omega); (case h => with_reducible first | exact zpz_50_9 _))
    | (with_reducible apply z_7ownLeft; (case e1 => repeat (with_reducible first | exact zv_l _ | exact zv_r | apply zv_neg)); (case r2 => first | omega | ((simp (disch := omega) only [zU_c, zU_e, zU_k, zF_c, zF_i, zF_o, zW_o, zW_i, zC_c, zC_i, zC_o]); omega)); (case a2 => assumption); (case a1 => assumption))
    | (with_reducible apply z_7reach; (case e1 => repeat (with_reducible first | exact zv_l _ | exact zv_r | apply zv_neg)); (case r1 => first | omega | ((simp (disch := omega) only [zU_c, zU_e, zU_k, zF_c, zF_i, zF_o, zW_o, zW_i, zC_c, zC_i, zC_o]); omega)); (case a2 => assumption); (case a1 => assumption))
    | (with_reducible apply z_7isInNow; (case e3 => repeat (with_reducible first | exact zv_l _ | exact zv_r | apply zv_neg)); (case e4 => repeat (with_reducible first | exact zv_l _ | exact zv_r | apply zv_neg)); (case r1 => first | omega | ((simp (disch := omega) only [zU_c, zU_e, zU_k, zF_c, zF_i, zF_o, zW_o, zW_i, zC_c, zC_i, zC_o]); omega)); (case r2 => first | omega | ((simp (disch := omega) only [zU_c, zU_e, zU_k, zF_c, zF_i, zF_o, zW_o, zW_i, zC_c, zC_i, zC_o]); omega)); (case a1 => assumption); (case a2 => assumption); intro _ _ _))
  (first
    | (with_reducible apply z_b_ck; (case h => with_unfolding_all rfl))
    | (with_reducible apply z_PU; (case he => repeat (with_reducible first | exact zv_l _ | exact zv_r | apply zv_neg)); (case h => with_reducible first | exact zp_50_5 _ | exact zp_50_6 _ | exact zp_50_8 _))
    | (with_reducible apply z_PZ; (case he => repeat (with_reducible first | exact zv_l _ | exact zv_r | apply zv_neg)); (case hb => omega); (case h => with_reducible first | exact zpz_50_9 _))
    | (with_reducible apply z_7ownLeft; (case e1 => repeat (with_reducible first | exact zv_l _ | exact zv_r | apply zv_neg)); (case r2 => first | omega | ((simp (disch := omega) only [zU_c, zU_e, zU_k, zF_c, zF_i, zF_o, zW_o, zW_i, zC_c, zC_i, zC_o]); omega)); (case a2 => assumption); (case a1 => assumption))
    | (with_reducible apply z_7reach; (case e1 => repeat (with_reducible first | exact zv_l _ | exact zv_r | apply zv_neg)); (case r1 => first | omega | ((simp (disch := omega) only [zU_c, zU_e, zU_k, zF_c, zF_i, zF_o, zW_o, zW_i, zC_c, zC_i, zC_o]); omega)); (case a2 => assumption); (case a1 => assumption))
    | (with_reducible apply z_7isInNow; (case e3 => repeat (with_reducible first | exact zv_l _ | exact zv_r | apply zv_neg)); (case e4 => repeat (with_reducible first | exact zv_l _ | exact zv_r | apply zv_neg)); (case r1 => first | omega | ((simp (disch := omega) only [zU_c, zU_e, zU_k, zF_c, zF_i, zF_o, zW_o, zW_i, zC_c, zC_i, zC_o]); omega)); (case r2 => first | omega | ((simp (disch := omega) only [zU_c, zU_e, zU_k, zF_c, zF_i, zF_o, zW_o, zW_i, zC_c, zC_i, zC_o]); omega)); (case a1 => assumption); (case a2 => assumption); intro _ _ _))
  refine s7_inX hR hA ht ha hp (fun c j hc => ?_) ?_ ?_ ?_ ?_
  · by_cases hq : c = 50
    · subst hq
      rw [zU_k (by omega), zU_k (by omega), zU_k (by omega), zU_k (by omega)]
    · rw [zU_c hq, zU_c hq, zU_c hq, zU_c hq]
  · rw [zU_k (by omega), zU_k (by omega), zU_k (by omega), zU_e]
  · rw [zU_k (by omega), zU_k (by omega), zU_e, zU_c (by omega), zU_c (by omega)]
  · rw [zU_e]
  · rw [zU_k (by omega), zU_e]
