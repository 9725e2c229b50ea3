/-! Shutter: find -/
/-- ABOVE of a set, for t -/
def zAb (m : zMe) (r : Nat) (t : Int) (s : Nat) : Int := zSm (m r 0).toNat (fun u => if s.testBit u = true then zPt m r (u : Int) - zRe m r t else 0) + (if m r 2 = 0 then 1 else 2) * zIn m r t s (m r 1).toNat
theorem zAo_Ab {m w : zMe} {r : Nat} {t : Int} {s : Nat} (a1 : zG r) (hT : 0 ≤ m r 0 ∧ m r 0 ≤ 6) (hs : s < 64) (h1 : ∀ u, 0 ≤ u → u < 6 → w 28 u = zPt m r u - zRe m r t) (h2 : zPa m r t w (m r 1).toNat) : zAo (zW m 27 29 w) r s = zAb m r t s := by
  have hl : r = 3 ∨ r = 11 ∨ r = 19 := a1
  unfold zAo zAb
  simp only [zW_o (m := m) (w := w) (a := 27) (b := 29) (c := r) (by omega), zW_i (m := m) (w := w) (a := 27) (b := 29) (c := 28) (by omega), zW_i (m := m) (w := w) (a := 27) (b := 29) (c := 27) (by omega), zW_i (m := m) (w := w) (a := 27) (b := 29) (c := 29) (by omega)]
  rw [h2.2.2 s hs]
  congr 1
  refine zSm_congr (fun k hk => ?_)
  rw [h1 (k : Int) (by omega) (by omega)]
theorem zIn_range (m : zMe) (r : Nat) (t : Int) (s n : Nat) : 0 ≤ zIn m r t s n ∧ zIn m r t s n ≤ n := by
  have := zSm_range (n := n) (f := fun k => if m (r + 7) (k : Int) = -1 ∧ (¬ m (r + 4) (k : Int) = t ∧ ¬ m (r + 5) (k : Int) = t) ∧ s.testBit (m (r + 4) (k : Int)).toNat = true ∧ s.testBit (m (r + 5) (k : Int)).toNat = true then 1 else 0) (a := 0) (b := 1) (by omega) (by omega) (fun k hk => by split <;> omega)
  unfold zIn
  omega
theorem zAb_range {m : zMe} {r : Nat} {t : Int} (h : zWf m r) (ht : 0 ≤ t) (s : Nat) : -1000 ≤ zAb m r t s ∧ zAb m r t s ≤ 1000 := by
  have h1 := zRe_range h ht
  have h2 := zSm_range (n := (m r 0).toNat) (f := fun u => if s.testBit u = true then zPt m r (u : Int) - zRe m r t else 0) (a := -63) (b := 36) (by omega) (by omega) (fun k hk => by
    have := zPt_range h (t := (k : Int)) (by omega)
    split <;> omega)
  have h3 := zIn_range m r t s (m r 1).toNat
  have h4 := h.1
  unfold zAb
  split <;> omega
/-- the set of t and its ABOVE, of the sets up to n -/
def zSl (m : zMe) (r : Nat) (t : Int) : Nat → Nat × Int
  | 0 => (0, 0)
  | n + 1 => if (n + 1).testBit t.toNat = true then zSl m r t n else if (zSl m r t n).2 < zAb m r t (n + 1) ∨ (zAb m r t (n + 1) = (zSl m r t n).2 ∧ zPop (n + 1) < zPop (zSl m r t n).1) then (n + 1, zAb m r t (n + 1)) else zSl m r t n
theorem zSl_range {m : zMe} {r : Nat} {t : Int} (h : zWf m r) (ht : 0 ≤ t) (n : Nat) : (zSl m r t n).1 ≤ n ∧ -1000 ≤ (zSl m r t n).2 ∧ (zSl m r t n).2 ≤ 1000 := by
  induction n with
  | zero => exact ⟨Nat.le_refl _, by show -1000 ≤ (0 : Int); omega, by show (0 : Int) ≤ 1000; omega⟩
  | succ n ih =>
    have := zAb_range h ht (n + 1)
    unfold zSl
    split
    · omega
    · split
      · exact ⟨Nat.le_refl _, this⟩
      · omega
def zSet (m : zMe) (r : Nat) (t : Int) : Nat × Int := zSl m r t (2 ^ (m r 0).toNat - 1)
theorem zShl_T {x : Int} (h : 0 ≤ x ∧ x ≤ 6) : zShl 1 x = ((2 ^ x.toNat : Nat) : Int) := by
  have : x = 0 ∨ x = 1 ∨ x = 2 ∨ x = 3 ∨ x = 4 ∨ x = 5 ∨ x = 6 := by omega
  rcases this with rfl | rfl | rfl | rfl | rfl | rfl | rfl <;> decide
theorem z2_T {x : Int} (h : 0 ≤ x ∧ x ≤ 6) : 1 ≤ 2 ^ x.toNat ∧ 2 ^ x.toNat ≤ 64 := by
  have h1 : 2 ^ x.toNat ≤ 2 ^ 6 := Nat.pow_le_pow_right (by omega) (by omega)
  have h2 : 0 < 2 ^ x.toNat := Nat.pow_pos (by omega)
  omega
theorem zPa_34 {m w : zMe} {r n : Nat} {t x y : Int} (h : zPa m r t w n) : zPa m r t (zU (zU w 27 3 x) 27 4 y) n := by
  have e1 : zU (zU w 27 3 x) 27 4 y 27 2 = w 27 2 := by rw [zU_k (by omega), zU_k (by omega)]
  have e2 : ∀ j, zU (zU w 27 3 x) 27 4 y 29 j = w 29 j := fun j => by rw [zU_c (by omega), zU_c (by omega)]
  unfold zPa at h ⊢
  simp only [e1, e2]
  exact h
set_option maxRecDepth 100000 in
set_option maxHeartbeats 1000000 in
theorem s_3find {m : zMe} {r : Nat} {e : Int32} {t : Int} (a1 : zG r) (e1 : e = zI t) (r1 : 0 ≤ t ∧ t < m r 0) (a2 : zWf m r) : zOk (f_X3_find 27 r e (zM m)) (fun v m1 => ∃ w, m1 = zW m (27) (29) w ∧ (fun v w => v = zI (zSet m r t).2 ∧ w 27 3 = ((zSet m r t).1 : Int) ∧ w 27 4 = (zSet m r t).2) v w) := by
  subst e1
  have hl : r = 3 ∨ r = 11 ∨ r = 19 := a1
  have h6 := a2.1.1
  have hN := a2.1.2.1
  have hK := a2.1.2.2
  have h2T := z2_T h6
  unfold f_X3_find
  (first
    | (with_reducible apply z_nm; (case he => repeat (with_reducible first | exact zv_l _ | exact zv_r | apply zv_add | apply zv_sub | apply zv_shl | apply zv_and)))
    | (with_reducible apply z_b_ck; (case h => with_unfolding_all rfl))
    | (with_reducible apply z_I; (case h => first | exact zg_I0 (by assumption) | with_unfolding_all rfl); (case hy => first | ((simp (disch := omega) only [zU_c, zU_e, zU_k, zF_c, zF_i, zF_o, zW_o, zW_i, zC_c, zC_i, zC_o]); rfl) | rfl))
    | (with_reducible apply z_PU; (case he => repeat (with_reducible first | exact zv_l _ | exact zv_r | apply zv_add | apply zv_sub | apply zv_shl | apply zv_and)); (case h => with_reducible first | exact zp_27_3 _ | exact zp_27_4 _))
    | (with_reducible apply z_6has; (case e1 => repeat (with_reducible first | exact zv_l _ | exact zv_r | apply zv_add | apply zv_sub | apply zv_shl | apply zv_and)); (case e2 => repeat (with_reducible first | exact zv_l _ | exact zv_r | apply zv_add | apply zv_sub | apply zv_shl | apply zv_and)); (case r1 => first | omega | ((simp (disch := omega) only [zU_c, zU_e, zU_k, zF_c, zF_i, zF_o, zW_o, zW_i, zC_c, zC_i, zC_o]); omega)); (case r2 => first | omega | ((simp (disch := omega) only [zU_c, zU_e, zU_k, zF_c, zF_i, zF_o, zW_o, zW_i, zC_c, zC_i, zC_o]); omega)))
    | (with_reducible apply z_3open; (case a1 => assumption); (case e1 => repeat (with_reducible first | exact zv_l _ | exact zv_r | apply zv_add | apply zv_sub | apply zv_shl | apply zv_and)); (case r1 => first | omega | ((simp (disch := omega) only [zU_c, zU_e, zU_k, zF_c, zF_i, zF_o, zW_o, zW_i, zC_c, zC_i, zC_o]); omega)); (case a2 => assumption); intro _ _ _)
    | (with_reducible apply z_3aboveOf; (case a1 => assumption); (case e1 => repeat (with_reducible first | exact zv_l _ | exact zv_r | apply zv_add | apply zv_sub | apply zv_shl | apply zv_and)); (case r1 => first | omega | ((simp (disch := omega) only [zU_c, zU_e, zU_k, zF_c, zF_i, zF_o, zW_o, zW_i, zC_c, zC_i, zC_o]); omega)); (case r2 => first | omega | ((simp (disch := omega) only [zU_c, zU_e, zU_k, zF_c, zF_i, zF_o, zW_o, zW_i, zC_c, zC_i, zC_o]); omega)); (case r3 => first | omega | ((simp (disch := omega) only [zU_c, zU_e, zU_k, zF_c, zF_i, zF_o, zW_o, zW_i, zC_c, zC_i, zC_o]); omega)); (case r4 => first | omega | ((simp (disch := omega) only [zU_c, zU_e, zU_k, zF_c, zF_i, zF_o, zW_o, zW_i, zC_c, zC_i, zC_o]); omega))))
  refine z_3open a1 rfl r1 a2 (fun _ w hw => ?_)
  (first
    | (with_reducible apply z_nm; (case he => repeat (with_reducible first | exact zv_l _ | exact zv_r | apply zv_add | apply zv_sub | apply zv_shl | apply zv_and)))
    | (with_reducible apply z_b_ck; (case h => with_unfolding_all rfl))
    | (with_reducible apply z_I; (case h => first | exact zg_I0 (by assumption) | with_unfolding_all rfl); (case hy => first | ((simp (disch := omega) only [zU_c, zU_e, zU_k, zF_c, zF_i, zF_o, zW_o, zW_i, zC_c, zC_i, zC_o]); rfl) | rfl))
    | (with_reducible apply z_PU; (case he => repeat (with_reducible first | exact zv_l _ | exact zv_r | apply zv_add | apply zv_sub | apply zv_shl | apply zv_and)); (case h => with_reducible first | exact zp_27_3 _ | exact zp_27_4 _))
    | (with_reducible apply z_6has; (case e1 => repeat (with_reducible first | exact zv_l _ | exact zv_r | apply zv_add | apply zv_sub | apply zv_shl | apply zv_and)); (case e2 => repeat (with_reducible first | exact zv_l _ | exact zv_r | apply zv_add | apply zv_sub | apply zv_shl | apply zv_and)); (case r1 => first | omega | ((simp (disch := omega) only [zU_c, zU_e, zU_k, zF_c, zF_i, zF_o, zW_o, zW_i, zC_c, zC_i, zC_o]); omega)); (case r2 => first | omega | ((simp (disch := omega) only [zU_c, zU_e, zU_k, zF_c, zF_i, zF_o, zW_o, zW_i, zC_c, zC_i, zC_o]); omega)))
    | (with_reducible apply z_3open; (case a1 => assumption); (case e1 => repeat (with_reducible first | exact zv_l _ | exact zv_r | apply zv_add | apply zv_sub | apply zv_shl | apply zv_and)); (case r1 => first | omega | ((simp (disch := omega) only [zU_c, zU_e, zU_k, zF_c, zF_i, zF_o, zW_o, zW_i, zC_c, zC_i, zC_o]); omega)); (case a2 => assumption); intro _ _ _)
    | (with_reducible apply z_3aboveOf; (case a1 => assumption); (case e1 => repeat (with_reducible first | exact zv_l _ | exact zv_r | apply zv_add | apply zv_sub | apply zv_shl | apply zv_and)); (case r1 => first | omega | ((simp (disch := omega) only [zU_c, zU_e, zU_k, zF_c, zF_i, zF_o, zW_o, zW_i, zC_c, zC_i, zC_o]); omega)); (case r2 => first | omega | ((simp (disch := omega) only [zU_c, zU_e, zU_k, zF_c, zF_i, zF_o, zW_o, zW_i, zC_c, zC_i, zC_o]); omega)); (case r3 => first | omega | ((simp (disch := omega) only [zU_c, zU_e, zU_k, zF_c, zF_i, zF_o, zW_o, zW_i, zC_c, zC_i, zC_o]); omega)); (case r4 => first | omega | ((simp (disch := omega) only [zU_c, zU_e, zU_k, zF_c, zF_i, zF_o, zW_o, zW_i, zC_c, zC_i, zC_o]); omega))))
  (first
    | (with_reducible apply z_nm; (case he => repeat (with_reducible first | exact zv_l _ | exact zv_r | apply zv_add | apply zv_sub | apply zv_shl | apply zv_and)))
    | (with_reducible apply z_b_ck; (case h => with_unfolding_all rfl))
    | (with_reducible apply z_I; (case h => first | exact zg_I0 (by assumption) | with_unfolding_all rfl); (case hy => first | ((simp (disch := omega) only [zU_c, zU_e, zU_k, zF_c, zF_i, zF_o, zW_o, zW_i, zC_c, zC_i, zC_o]); rfl) | rfl))
    | (with_reducible apply z_PU; (case he => repeat (with_reducible first | exact zv_l _ | exact zv_r | apply zv_add | apply zv_sub | apply zv_shl | apply zv_and)); (case h => with_reducible first | exact zp_27_3 _ | exact zp_27_4 _))
    | (with_reducible apply z_6has; (case e1 => repeat (with_reducible first | exact zv_l _ | exact zv_r | apply zv_add | apply zv_sub | apply zv_shl | apply zv_and)); (case e2 => repeat (with_reducible first | exact zv_l _ | exact zv_r | apply zv_add | apply zv_sub | apply zv_shl | apply zv_and)); (case r1 => first | omega | ((simp (disch := omega) only [zU_c, zU_e, zU_k, zF_c, zF_i, zF_o, zW_o, zW_i, zC_c, zC_i, zC_o]); omega)); (case r2 => first | omega | ((simp (disch := omega) only [zU_c, zU_e, zU_k, zF_c, zF_i, zF_o, zW_o, zW_i, zC_c, zC_i, zC_o]); omega)))
    | (with_reducible apply z_3open; (case a1 => assumption); (case e1 => repeat (with_reducible first | exact zv_l _ | exact zv_r | apply zv_add | apply zv_sub | apply zv_shl | apply zv_and)); (case r1 => first | omega | ((simp (disch := omega) only [zU_c, zU_e, zU_k, zF_c, zF_i, zF_o, zW_o, zW_i, zC_c, zC_i, zC_o]); omega)); (case a2 => assumption); intro _ _ _)
    | (with_reducible apply z_3aboveOf; (case a1 => assumption); (case e1 => repeat (with_reducible first | exact zv_l _ | exact zv_r | apply zv_add | apply zv_sub | apply zv_shl | apply zv_and)); (case r1 => first | omega | ((simp (disch := omega) only [zU_c, zU_e, zU_k, zF_c, zF_i, zF_o, zW_o, zW_i, zC_c, zC_i, zC_o]); omega)); (case r2 => first | omega | ((simp (disch := omega) only [zU_c, zU_e, zU_k, zF_c, zF_i, zF_o, zW_o, zW_i, zC_c, zC_i, zC_o]); omega)); (case r3 => first | omega | ((simp (disch := omega) only [zU_c, zU_e, zU_k, zF_c, zF_i, zF_o, zW_o, zW_i, zC_c, zC_i, zC_o]); omega)); (case r4 => first | omega | ((simp (disch := omega) only [zU_c, zU_e, zU_k, zF_c, zF_i, zF_o, zW_o, zW_i, zC_c, zC_i, zC_o]); omega))))
  rw [zU_W (by omega), zU_W (by omega)]
  refine z_lp (fun n v m1 => ∃ (i : Nat) (w : zMe), v = (27, r, zI t, zI ((i + 1 : Nat) : Int)) ∧ i + 1 ≤ 2 ^ (m r 0).toNat ∧ n = 2 ^ (m r 0).toNat - i ∧ m1 = zW m 27 29 w ∧ (∀ u, 0 ≤ u → u < 6 → w 28 u = zPt m r u - zRe m r t) ∧ zPa m r t w (m r 1).toNat ∧ w 27 3 = ((zSl m r t i).1 : Int) ∧ w 27 4 = (zSl m r t i).2) (fun _ _ v m1 => ∃ w, m1 = zW m 27 29 w ∧ v = zI (zSet m r t).2 ∧ w 27 3 = ((zSet m r t).1 : Int) ∧ w 27 4 = (zSet m r t).2) ?_ 600 (2 ^ (m r 0).toNat) _ _ (by omega) ⟨0, _, rfl, by omega, by omega, rfl, ?_, ?_, ?_, ?_⟩
  · rintro n v m1 k ⟨i, w, rfl, q1, rfl, rfl, w1, w2, w3, w4⟩ hk
    have hsr := zSl_range (m := m) (r := r) (t := t) a2 r1.1 i
    have har := zAb_range (m := m) (r := r) (t := t) a2 r1.1 (i + 1)
    have hst : zSl m r t (i + 1) = if (i + 1).testBit t.toNat = true then zSl m r t i else if (zSl m r t i).2 < zAb m r t (i + 1) ∨ (zAb m r t (i + 1) = (zSl m r t i).2 ∧ zPop (i + 1) < zPop (zSl m r t i).1) then (i + 1, zAb m r t (i + 1)) else zSl m r t i := rfl
    have hsame : i + 1 < 2 ^ (m r 0).toNat → zSl m r t (i + 1) = zSl m r t i → zOk (k (27, r, zI t, zI (((i + 1 : Nat) : Int) + 1)) (zM (zW m 27 29 w))) (fun v m1 => ∃ w, m1 = zW m 27 29 w ∧ v = zI (zSet m r t).2 ∧ w 27 3 = ((zSet m r t).1 : Int) ∧ w 27 4 = (zSet m r t).2) := fun hl he => hk _ _ _ (by omega) ⟨i + 1, w, rfl, by omega, rfl, rfl, w1, w2, by rw [he]; exact w3, by rw [he]; exact w4⟩
    have hnew : i + 1 < 2 ^ (m r 0).toNat → zSl m r t (i + 1) = (i + 1, zAb m r t (i + 1)) → zOk (k (27, r, zI t, zI (((i + 1 : Nat) : Int) + 1)) (zM (zU (zU (zW m 27 29 w) 27 3 ((i + 1 : Nat) : Int)) 27 4 (zAb m r t (i + 1))))) (fun v m1 => ∃ w, m1 = zW m 27 29 w ∧ v = zI (zSet m r t).2 ∧ w 27 3 = ((zSet m r t).1 : Int) ∧ w 27 4 = (zSet m r t).2) := fun hl he => by
      rw [zU_W (by omega), zU_W (by omega)]
      refine hk _ _ _ (by omega) ⟨i + 1, _, rfl, by omega, rfl, rfl, fun u u0 u1 => ?_, ?_, ?_, ?_⟩
      · rw [zU_c (by omega), zU_c (by omega)]
        exact w1 u u0 u1
      · exact zPa_34 w2
      · rw [zU_k (by omega), zU_e, he]
      · rw [zU_e, he]
    unfold f_X3_find_18
    dsimp only
    (first
    | (with_reducible apply z_nm; (case he => repeat (with_reducible first | exact zv_l _ | exact zv_r | apply zv_add | apply zv_sub | apply zv_shl | apply zv_and)))
    | (with_reducible apply z_b_ck; (case h => with_unfolding_all rfl))
    | (with_reducible apply z_I; (case h => first | exact zg_I0 (by assumption) | with_unfolding_all rfl); (case hy => first | ((simp (disch := omega) only [zU_c, zU_e, zU_k, zF_c, zF_i, zF_o, zW_o, zW_i, zC_c, zC_i, zC_o]); rfl) | rfl))
    | (with_reducible apply z_PU; (case he => repeat (with_reducible first | exact zv_l _ | exact zv_r | apply zv_add | apply zv_sub | apply zv_shl | apply zv_and)); (case h => with_reducible first | exact zp_27_3 _ | exact zp_27_4 _))
    | (with_reducible apply z_6has; (case e1 => repeat (with_reducible first | exact zv_l _ | exact zv_r | apply zv_add | apply zv_sub | apply zv_shl | apply zv_and)); (case e2 => repeat (with_reducible first | exact zv_l _ | exact zv_r | apply zv_add | apply zv_sub | apply zv_shl | apply zv_and)); (case r1 => first | omega | ((simp (disch := omega) only [zU_c, zU_e, zU_k, zF_c, zF_i, zF_o, zW_o, zW_i, zC_c, zC_i, zC_o]); omega)); (case r2 => first | omega | ((simp (disch := omega) only [zU_c, zU_e, zU_k, zF_c, zF_i, zF_o, zW_o, zW_i, zC_c, zC_i, zC_o]); omega)))
    | (with_reducible apply z_3open; (case a1 => assumption); (case e1 => repeat (with_reducible first | exact zv_l _ | exact zv_r | apply zv_add | apply zv_sub | apply zv_shl | apply zv_and)); (case r1 => first | omega | ((simp (disch := omega) only [zU_c, zU_e, zU_k, zF_c, zF_i, zF_o, zW_o, zW_i, zC_c, zC_i, zC_o]); omega)); (case a2 => assumption); intro _ _ _)
    | (with_reducible apply z_3aboveOf; (case a1 => assumption); (case e1 => repeat (with_reducible first | exact zv_l _ | exact zv_r | apply zv_add | apply zv_sub | apply zv_shl | apply zv_and)); (case r1 => first | omega | ((simp (disch := omega) only [zU_c, zU_e, zU_k, zF_c, zF_i, zF_o, zW_o, zW_i, zC_c, zC_i, zC_o]); omega)); (case r2 => first | omega | ((simp (disch := omega) only [zU_c, zU_e, zU_k, zF_c, zF_i, zF_o, zW_o, zW_i, zC_c, zC_i, zC_o]); omega)); (case r3 => first | omega | ((simp (disch := omega) only [zU_c, zU_e, zU_k, zF_c, zF_i, zF_o, zW_o, zW_i, zC_c, zC_i, zC_o]); omega)); (case r4 => first | omega | ((simp (disch := omega) only [zU_c, zU_e, zU_k, zF_c, zF_i, zF_o, zW_o, zW_i, zC_c, zC_i, zC_o]); omega))))
    refine z_le (x := zShl 1 (m r 0)) (y := ((i + 1 : Nat) : Int)) (zv_shl rfl rfl) rfl (zr_shl _ _) (by omega) (fun h => ?_) (fun h => ?_)
    · rw [zShl_T h6] at h
      repeat' (first
    | (with_reducible apply z_nm; (case he => repeat (with_reducible first | exact zv_l _ | exact zv_r | apply zv_add | apply zv_sub | apply zv_shl | apply zv_and)))
    | (with_reducible apply z_b_ck; (case h => with_unfolding_all rfl))
    | (with_reducible apply z_I; (case h => first | exact zg_I0 (by assumption) | with_unfolding_all rfl); (case hy => first | ((simp (disch := omega) only [zU_c, zU_e, zU_k, zF_c, zF_i, zF_o, zW_o, zW_i, zC_c, zC_i, zC_o]); rfl) | rfl))
    | (with_reducible apply z_PU; (case he => repeat (with_reducible first | exact zv_l _ | exact zv_r | apply zv_add | apply zv_sub | apply zv_shl | apply zv_and)); (case h => with_reducible first | exact zp_27_3 _ | exact zp_27_4 _))
    | (with_reducible apply z_6has; (case e1 => repeat (with_reducible first | exact zv_l _ | exact zv_r | apply zv_add | apply zv_sub | apply zv_shl | apply zv_and)); (case e2 => repeat (with_reducible first | exact zv_l _ | exact zv_r | apply zv_add | apply zv_sub | apply zv_shl | apply zv_and)); (case r1 => first | omega | ((simp (disch := omega) only [zU_c, zU_e, zU_k, zF_c, zF_i, zF_o, zW_o, zW_i, zC_c, zC_i, zC_o]); omega)); (case r2 => first | omega | ((simp (disch := omega) only [zU_c, zU_e, zU_k, zF_c, zF_i, zF_o, zW_o, zW_i, zC_c, zC_i, zC_o]); omega)))
    | (with_reducible apply z_3open; (case a1 => assumption); (case e1 => repeat (with_reducible first | exact zv_l _ | exact zv_r | apply zv_add | apply zv_sub | apply zv_shl | apply zv_and)); (case r1 => first | omega | ((simp (disch := omega) only [zU_c, zU_e, zU_k, zF_c, zF_i, zF_o, zW_o, zW_i, zC_c, zC_i, zC_o]); omega)); (case a2 => assumption); intro _ _ _)
    | (with_reducible apply z_3aboveOf; (case a1 => assumption); (case e1 => repeat (with_reducible first | exact zv_l _ | exact zv_r | apply zv_add | apply zv_sub | apply zv_shl | apply zv_and)); (case r1 => first | omega | ((simp (disch := omega) only [zU_c, zU_e, zU_k, zF_c, zF_i, zF_o, zW_o, zW_i, zC_c, zC_i, zC_o]); omega)); (case r2 => first | omega | ((simp (disch := omega) only [zU_c, zU_e, zU_k, zF_c, zF_i, zF_o, zW_o, zW_i, zC_c, zC_i, zC_o]); omega)); (case r3 => first | omega | ((simp (disch := omega) only [zU_c, zU_e, zU_k, zF_c, zF_i, zF_o, zW_o, zW_i, zC_c, zC_i, zC_o]); omega)); (case r4 => first | omega | ((simp (disch := omega) only [zU_c, zU_e, zU_k, zF_c, zF_i, zF_o, zW_o, zW_i, zC_c, zC_i, zC_o]); omega))))
      refine z_ret ⟨w, rfl, ?_⟩
      have e : 2 ^ (m r 0).toNat - 1 = i := by omega
      unfold zSet
      rw [e]
      exact ⟨by rw [w4], w3, w4⟩
    · rw [zShl_T h6] at h
      have hlt : i + 1 < 2 ^ (m r 0).toNat := by omega
      refine z_6has rfl (i := t.toNat) (by rw [Int.toNat_of_nonneg r1.1]) (by omega) (by omega) ?_
      refine z_B (fun hb => ?_) (fun hb => ?_)
      · have hsz := w2.1
        refine z_3aboveOf a1 rfl (by omega) (by rw [zW_o (by omega)]; exact h6) (by rw [zW_o (by omega)]; exact hK) (by rw [zW_i (by omega)]; omega) ?_
        rw [zAo_Ab a1 h6 (by omega) w1 w2]
        refine z_6bitCount rfl (by omega) ?_
        refine z_I (y := ((zSl m r t i).1 : Int)) (by with_unfolding_all rfl) (by rw [zW_i (by omega)]; exact w3) ?_
        refine z_6bitCount rfl (by omega) ?_
        have hp1 := zPop_le (i + 1)
        have hp2 := zPop_le (zSl m r t i).1
        rw [if_neg hb] at hst
        refine z_le (x := (zPop (zSl m r t i).1 : Int)) (y := (zPop (i + 1) : Int)) rfl rfl (by omega) (by omega) (fun h3 => ?_) (fun h3 => ?_)
        · unfold f_X3_find_66 f_X3_find_91
          refine z_I (y := (zSl m r t i).2) (by with_unfolding_all rfl) (by rw [zW_i (by omega)]; exact w4) ?_
          refine z_lt (x := (zSl m r t i).2) (y := zAb m r t (i + 1)) rfl rfl (by omega) (by omega) (fun h4 => ?_) (fun h4 => ?_)
          · repeat' (first
    | (with_reducible apply z_nm; (case he => repeat (with_reducible first | exact zv_l _ | exact zv_r | apply zv_add | apply zv_sub | apply zv_shl | apply zv_and)))
    | (with_reducible apply z_b_ck; (case h => with_unfolding_all rfl))
    | (with_reducible apply z_I; (case h => first | exact zg_I0 (by assumption) | with_unfolding_all rfl); (case hy => first | ((simp (disch := omega) only [zU_c, zU_e, zU_k, zF_c, zF_i, zF_o, zW_o, zW_i, zC_c, zC_i, zC_o]); rfl) | rfl))
    | (with_reducible apply z_PU; (case he => repeat (with_reducible first | exact zv_l _ | exact zv_r | apply zv_add | apply zv_sub | apply zv_shl | apply zv_and)); (case h => with_reducible first | exact zp_27_3 _ | exact zp_27_4 _))
    | (with_reducible apply z_6has; (case e1 => repeat (with_reducible first | exact zv_l _ | exact zv_r | apply zv_add | apply zv_sub | apply zv_shl | apply zv_and)); (case e2 => repeat (with_reducible first | exact zv_l _ | exact zv_r | apply zv_add | apply zv_sub | apply zv_shl | apply zv_and)); (case r1 => first | omega | ((simp (disch := omega) only [zU_c, zU_e, zU_k, zF_c, zF_i, zF_o, zW_o, zW_i, zC_c, zC_i, zC_o]); omega)); (case r2 => first | omega | ((simp (disch := omega) only [zU_c, zU_e, zU_k, zF_c, zF_i, zF_o, zW_o, zW_i, zC_c, zC_i, zC_o]); omega)))
    | (with_reducible apply z_3open; (case a1 => assumption); (case e1 => repeat (with_reducible first | exact zv_l _ | exact zv_r | apply zv_add | apply zv_sub | apply zv_shl | apply zv_and)); (case r1 => first | omega | ((simp (disch := omega) only [zU_c, zU_e, zU_k, zF_c, zF_i, zF_o, zW_o, zW_i, zC_c, zC_i, zC_o]); omega)); (case a2 => assumption); intro _ _ _)
    | (with_reducible apply z_3aboveOf; (case a1 => assumption); (case e1 => repeat (with_reducible first | exact zv_l _ | exact zv_r | apply zv_add | apply zv_sub | apply zv_shl | apply zv_and)); (case r1 => first | omega | ((simp (disch := omega) only [zU_c, zU_e, zU_k, zF_c, zF_i, zF_o, zW_o, zW_i, zC_c, zC_i, zC_o]); omega)); (case r2 => first | omega | ((simp (disch := omega) only [zU_c, zU_e, zU_k, zF_c, zF_i, zF_o, zW_o, zW_i, zC_c, zC_i, zC_o]); omega)); (case r3 => first | omega | ((simp (disch := omega) only [zU_c, zU_e, zU_k, zF_c, zF_i, zF_o, zW_o, zW_i, zC_c, zC_i, zC_o]); omega)); (case r4 => first | omega | ((simp (disch := omega) only [zU_c, zU_e, zU_k, zF_c, zF_i, zF_o, zW_o, zW_i, zC_c, zC_i, zC_o]); omega))))
            exact hnew hlt (by rw [hst, if_pos (Or.inl h4)])
          · refine z_I (y := (zSl m r t i).2) (by with_unfolding_all rfl) (by rw [zW_i (by omega)]; exact w4) ?_
            refine z_eq (x := zAb m r t (i + 1)) (y := (zSl m r t i).2) rfl rfl (by omega) (by omega) (fun h5 => ?_) (fun h5 => ?_)
            · refine z_eq (x := 0) (y := 0) rfl rfl (by omega) (by omega) (fun _ => ?_) (fun q => absurd rfl q)
              repeat' (first
    | (with_reducible apply z_nm; (case he => repeat (with_reducible first | exact zv_l _ | exact zv_r | apply zv_add | apply zv_sub | apply zv_shl | apply zv_and)))
    | (with_reducible apply z_b_ck; (case h => with_unfolding_all rfl))
    | (with_reducible apply z_I; (case h => first | exact zg_I0 (by assumption) | with_unfolding_all rfl); (case hy => first | ((simp (disch := omega) only [zU_c, zU_e, zU_k, zF_c, zF_i, zF_o, zW_o, zW_i, zC_c, zC_i, zC_o]); rfl) | rfl))
    | (with_reducible apply z_PU; (case he => repeat (with_reducible first | exact zv_l _ | exact zv_r | apply zv_add | apply zv_sub | apply zv_shl | apply zv_and)); (case h => with_reducible first | exact zp_27_3 _ | exact zp_27_4 _))
    | (with_reducible apply z_6has; (case e1 => repeat (with_reducible first | exact zv_l _ | exact zv_r | apply zv_add | apply zv_sub | apply zv_shl | apply zv_and)); (case e2 => repeat (with_reducible first | exact zv_l _ | exact zv_r | apply zv_add | apply zv_sub | apply zv_shl | apply zv_and)); (case r1 => first | omega | ((simp (disch := omega) only [zU_c, zU_e, zU_k, zF_c, zF_i, zF_o, zW_o, zW_i, zC_c, zC_i, zC_o]); omega)); (case r2 => first | omega | ((simp (disch := omega) only [zU_c, zU_e, zU_k, zF_c, zF_i, zF_o, zW_o, zW_i, zC_c, zC_i, zC_o]); omega)))
    | (with_reducible apply z_3open; (case a1 => assumption); (case e1 => repeat (with_reducible first | exact zv_l _ | exact zv_r | apply zv_add | apply zv_sub | apply zv_shl | apply zv_and)); (case r1 => first | omega | ((simp (disch := omega) only [zU_c, zU_e, zU_k, zF_c, zF_i, zF_o, zW_o, zW_i, zC_c, zC_i, zC_o]); omega)); (case a2 => assumption); intro _ _ _)
    | (with_reducible apply z_3aboveOf; (case a1 => assumption); (case e1 => repeat (with_reducible first | exact zv_l _ | exact zv_r | apply zv_add | apply zv_sub | apply zv_shl | apply zv_and)); (case r1 => first | omega | ((simp (disch := omega) only [zU_c, zU_e, zU_k, zF_c, zF_i, zF_o, zW_o, zW_i, zC_c, zC_i, zC_o]); omega)); (case r2 => first | omega | ((simp (disch := omega) only [zU_c, zU_e, zU_k, zF_c, zF_i, zF_o, zW_o, zW_i, zC_c, zC_i, zC_o]); omega)); (case r3 => first | omega | ((simp (disch := omega) only [zU_c, zU_e, zU_k, zF_c, zF_i, zF_o, zW_o, zW_i, zC_c, zC_i, zC_o]); omega)); (case r4 => first | omega | ((simp (disch := omega) only [zU_c, zU_e, zU_k, zF_c, zF_i, zF_o, zW_o, zW_i, zC_c, zC_i, zC_o]); omega))))
              exact hsame hlt (by rw [hst, if_neg (by omega)])
            · repeat' (first
    | (with_reducible apply z_nm; (case he => repeat (with_reducible first | exact zv_l _ | exact zv_r | apply zv_add | apply zv_sub | apply zv_shl | apply zv_and)))
    | (with_reducible apply z_b_ck; (case h => with_unfolding_all rfl))
    | (with_reducible apply z_I; (case h => first | exact zg_I0 (by assumption) | with_unfolding_all rfl); (case hy => first | ((simp (disch := omega) only [zU_c, zU_e, zU_k, zF_c, zF_i, zF_o, zW_o, zW_i, zC_c, zC_i, zC_o]); rfl) | rfl))
    | (with_reducible apply z_PU; (case he => repeat (with_reducible first | exact zv_l _ | exact zv_r | apply zv_add | apply zv_sub | apply zv_shl | apply zv_and)); (case h => with_reducible first | exact zp_27_3 _ | exact zp_27_4 _))
    | (with_reducible apply z_6has; (case e1 => repeat (with_reducible first | exact zv_l _ | exact zv_r | apply zv_add | apply zv_sub | apply zv_shl | apply zv_and)); (case e2 => repeat (with_reducible first | exact zv_l _ | exact zv_r | apply zv_add | apply zv_sub | apply zv_shl | apply zv_and)); (case r1 => first | omega | ((simp (disch := omega) only [zU_c, zU_e, zU_k, zF_c, zF_i, zF_o, zW_o, zW_i, zC_c, zC_i, zC_o]); omega)); (case r2 => first | omega | ((simp (disch := omega) only [zU_c, zU_e, zU_k, zF_c, zF_i, zF_o, zW_o, zW_i, zC_c, zC_i, zC_o]); omega)))
    | (with_reducible apply z_3open; (case a1 => assumption); (case e1 => repeat (with_reducible first | exact zv_l _ | exact zv_r | apply zv_add | apply zv_sub | apply zv_shl | apply zv_and)); (case r1 => first | omega | ((simp (disch := omega) only [zU_c, zU_e, zU_k, zF_c, zF_i, zF_o, zW_o, zW_i, zC_c, zC_i, zC_o]); omega)); (case a2 => assumption); intro _ _ _)
    | (with_reducible apply z_3aboveOf; (case a1 => assumption); (case e1 => repeat (with_reducible first | exact zv_l _ | exact zv_r | apply zv_add | apply zv_sub | apply zv_shl | apply zv_and)); (case r1 => first | omega | ((simp (disch := omega) only [zU_c, zU_e, zU_k, zF_c, zF_i, zF_o, zW_o, zW_i, zC_c, zC_i, zC_o]); omega)); (case r2 => first | omega | ((simp (disch := omega) only [zU_c, zU_e, zU_k, zF_c, zF_i, zF_o, zW_o, zW_i, zC_c, zC_i, zC_o]); omega)); (case r3 => first | omega | ((simp (disch := omega) only [zU_c, zU_e, zU_k, zF_c, zF_i, zF_o, zW_o, zW_i, zC_c, zC_i, zC_o]); omega)); (case r4 => first | omega | ((simp (disch := omega) only [zU_c, zU_e, zU_k, zF_c, zF_i, zF_o, zW_o, zW_i, zC_c, zC_i, zC_o]); omega))))
              exact hsame hlt (by rw [hst, if_neg (by omega)])
        · unfold f_X3_find_66 f_X3_find_91
          refine z_I (y := (zSl m r t i).2) (by with_unfolding_all rfl) (by rw [zW_i (by omega)]; exact w4) ?_
          refine z_lt (x := (zSl m r t i).2) (y := zAb m r t (i + 1)) rfl rfl (by omega) (by omega) (fun h4 => ?_) (fun h4 => ?_)
          · repeat' (first
    | (with_reducible apply z_nm; (case he => repeat (with_reducible first | exact zv_l _ | exact zv_r | apply zv_add | apply zv_sub | apply zv_shl | apply zv_and)))
    | (with_reducible apply z_b_ck; (case h => with_unfolding_all rfl))
    | (with_reducible apply z_I; (case h => first | exact zg_I0 (by assumption) | with_unfolding_all rfl); (case hy => first | ((simp (disch := omega) only [zU_c, zU_e, zU_k, zF_c, zF_i, zF_o, zW_o, zW_i, zC_c, zC_i, zC_o]); rfl) | rfl))
    | (with_reducible apply z_PU; (case he => repeat (with_reducible first | exact zv_l _ | exact zv_r | apply zv_add | apply zv_sub | apply zv_shl | apply zv_and)); (case h => with_reducible first | exact zp_27_3 _ | exact zp_27_4 _))
    | (with_reducible apply z_6has; (case e1 => repeat (with_reducible first | exact zv_l _ | exact zv_r | apply zv_add | apply zv_sub | apply zv_shl | apply zv_and)); (case e2 => repeat (with_reducible first | exact zv_l _ | exact zv_r | apply zv_add | apply zv_sub | apply zv_shl | apply zv_and)); (case r1 => first | omega | ((simp (disch := omega) only [zU_c, zU_e, zU_k, zF_c, zF_i, zF_o, zW_o, zW_i, zC_c, zC_i, zC_o]); omega)); (case r2 => first | omega | ((simp (disch := omega) only [zU_c, zU_e, zU_k, zF_c, zF_i, zF_o, zW_o, zW_i, zC_c, zC_i, zC_o]); omega)))
    | (with_reducible apply z_3open; (case a1 => assumption); (case e1 => repeat (with_reducible first | exact zv_l _ | exact zv_r | apply zv_add | apply zv_sub | apply zv_shl | apply zv_and)); (case r1 => first | omega | ((simp (disch := omega) only [zU_c, zU_e, zU_k, zF_c, zF_i, zF_o, zW_o, zW_i, zC_c, zC_i, zC_o]); omega)); (case a2 => assumption); intro _ _ _)
    | (with_reducible apply z_3aboveOf; (case a1 => assumption); (case e1 => repeat (with_reducible first | exact zv_l _ | exact zv_r | apply zv_add | apply zv_sub | apply zv_shl | apply zv_and)); (case r1 => first | omega | ((simp (disch := omega) only [zU_c, zU_e, zU_k, zF_c, zF_i, zF_o, zW_o, zW_i, zC_c, zC_i, zC_o]); omega)); (case r2 => first | omega | ((simp (disch := omega) only [zU_c, zU_e, zU_k, zF_c, zF_i, zF_o, zW_o, zW_i, zC_c, zC_i, zC_o]); omega)); (case r3 => first | omega | ((simp (disch := omega) only [zU_c, zU_e, zU_k, zF_c, zF_i, zF_o, zW_o, zW_i, zC_c, zC_i, zC_o]); omega)); (case r4 => first | omega | ((simp (disch := omega) only [zU_c, zU_e, zU_k, zF_c, zF_i, zF_o, zW_o, zW_i, zC_c, zC_i, zC_o]); omega))))
            exact hnew hlt (by rw [hst, if_pos (Or.inl h4)])
          · refine z_I (y := (zSl m r t i).2) (by with_unfolding_all rfl) (by rw [zW_i (by omega)]; exact w4) ?_
            refine z_eq (x := zAb m r t (i + 1)) (y := (zSl m r t i).2) rfl rfl (by omega) (by omega) (fun h5 => ?_) (fun h5 => ?_)
            · refine z_eq (x := 1) (y := 0) rfl rfl (by omega) (by omega) (fun q => by exfalso; omega) (fun _ => ?_)
              repeat' (first
    | (with_reducible apply z_nm; (case he => repeat (with_reducible first | exact zv_l _ | exact zv_r | apply zv_add | apply zv_sub | apply zv_shl | apply zv_and)))
    | (with_reducible apply z_b_ck; (case h => with_unfolding_all rfl))
    | (with_reducible apply z_I; (case h => first | exact zg_I0 (by assumption) | with_unfolding_all rfl); (case hy => first | ((simp (disch := omega) only [zU_c, zU_e, zU_k, zF_c, zF_i, zF_o, zW_o, zW_i, zC_c, zC_i, zC_o]); rfl) | rfl))
    | (with_reducible apply z_PU; (case he => repeat (with_reducible first | exact zv_l _ | exact zv_r | apply zv_add | apply zv_sub | apply zv_shl | apply zv_and)); (case h => with_reducible first | exact zp_27_3 _ | exact zp_27_4 _))
    | (with_reducible apply z_6has; (case e1 => repeat (with_reducible first | exact zv_l _ | exact zv_r | apply zv_add | apply zv_sub | apply zv_shl | apply zv_and)); (case e2 => repeat (with_reducible first | exact zv_l _ | exact zv_r | apply zv_add | apply zv_sub | apply zv_shl | apply zv_and)); (case r1 => first | omega | ((simp (disch := omega) only [zU_c, zU_e, zU_k, zF_c, zF_i, zF_o, zW_o, zW_i, zC_c, zC_i, zC_o]); omega)); (case r2 => first | omega | ((simp (disch := omega) only [zU_c, zU_e, zU_k, zF_c, zF_i, zF_o, zW_o, zW_i, zC_c, zC_i, zC_o]); omega)))
    | (with_reducible apply z_3open; (case a1 => assumption); (case e1 => repeat (with_reducible first | exact zv_l _ | exact zv_r | apply zv_add | apply zv_sub | apply zv_shl | apply zv_and)); (case r1 => first | omega | ((simp (disch := omega) only [zU_c, zU_e, zU_k, zF_c, zF_i, zF_o, zW_o, zW_i, zC_c, zC_i, zC_o]); omega)); (case a2 => assumption); intro _ _ _)
    | (with_reducible apply z_3aboveOf; (case a1 => assumption); (case e1 => repeat (with_reducible first | exact zv_l _ | exact zv_r | apply zv_add | apply zv_sub | apply zv_shl | apply zv_and)); (case r1 => first | omega | ((simp (disch := omega) only [zU_c, zU_e, zU_k, zF_c, zF_i, zF_o, zW_o, zW_i, zC_c, zC_i, zC_o]); omega)); (case r2 => first | omega | ((simp (disch := omega) only [zU_c, zU_e, zU_k, zF_c, zF_i, zF_o, zW_o, zW_i, zC_c, zC_i, zC_o]); omega)); (case r3 => first | omega | ((simp (disch := omega) only [zU_c, zU_e, zU_k, zF_c, zF_i, zF_o, zW_o, zW_i, zC_c, zC_i, zC_o]); omega)); (case r4 => first | omega | ((simp (disch := omega) only [zU_c, zU_e, zU_k, zF_c, zF_i, zF_o, zW_o, zW_i, zC_c, zC_i, zC_o]); omega))))
              exact hnew hlt (by rw [hst, if_pos (by omega)])
            · repeat' (first
    | (with_reducible apply z_nm; (case he => repeat (with_reducible first | exact zv_l _ | exact zv_r | apply zv_add | apply zv_sub | apply zv_shl | apply zv_and)))
    | (with_reducible apply z_b_ck; (case h => with_unfolding_all rfl))
    | (with_reducible apply z_I; (case h => first | exact zg_I0 (by assumption) | with_unfolding_all rfl); (case hy => first | ((simp (disch := omega) only [zU_c, zU_e, zU_k, zF_c, zF_i, zF_o, zW_o, zW_i, zC_c, zC_i, zC_o]); rfl) | rfl))
    | (with_reducible apply z_PU; (case he => repeat (with_reducible first | exact zv_l _ | exact zv_r | apply zv_add | apply zv_sub | apply zv_shl | apply zv_and)); (case h => with_reducible first | exact zp_27_3 _ | exact zp_27_4 _))
    | (with_reducible apply z_6has; (case e1 => repeat (with_reducible first | exact zv_l _ | exact zv_r | apply zv_add | apply zv_sub | apply zv_shl | apply zv_and)); (case e2 => repeat (with_reducible first | exact zv_l _ | exact zv_r | apply zv_add | apply zv_sub | apply zv_shl | apply zv_and)); (case r1 => first | omega | ((simp (disch := omega) only [zU_c, zU_e, zU_k, zF_c, zF_i, zF_o, zW_o, zW_i, zC_c, zC_i, zC_o]); omega)); (case r2 => first | omega | ((simp (disch := omega) only [zU_c, zU_e, zU_k, zF_c, zF_i, zF_o, zW_o, zW_i, zC_c, zC_i, zC_o]); omega)))
    | (with_reducible apply z_3open; (case a1 => assumption); (case e1 => repeat (with_reducible first | exact zv_l _ | exact zv_r | apply zv_add | apply zv_sub | apply zv_shl | apply zv_and)); (case r1 => first | omega | ((simp (disch := omega) only [zU_c, zU_e, zU_k, zF_c, zF_i, zF_o, zW_o, zW_i, zC_c, zC_i, zC_o]); omega)); (case a2 => assumption); intro _ _ _)
    | (with_reducible apply z_3aboveOf; (case a1 => assumption); (case e1 => repeat (with_reducible first | exact zv_l _ | exact zv_r | apply zv_add | apply zv_sub | apply zv_shl | apply zv_and)); (case r1 => first | omega | ((simp (disch := omega) only [zU_c, zU_e, zU_k, zF_c, zF_i, zF_o, zW_o, zW_i, zC_c, zC_i, zC_o]); omega)); (case r2 => first | omega | ((simp (disch := omega) only [zU_c, zU_e, zU_k, zF_c, zF_i, zF_o, zW_o, zW_i, zC_c, zC_i, zC_o]); omega)); (case r3 => first | omega | ((simp (disch := omega) only [zU_c, zU_e, zU_k, zF_c, zF_i, zF_o, zW_o, zW_i, zC_c, zC_i, zC_o]); omega)); (case r4 => first | omega | ((simp (disch := omega) only [zU_c, zU_e, zU_k, zF_c, zF_i, zF_o, zW_o, zW_i, zC_c, zC_i, zC_o]); omega))))
              exact hsame hlt (by rw [hst, if_neg (by omega)])
      · repeat' (first
    | (with_reducible apply z_nm; (case he => repeat (with_reducible first | exact zv_l _ | exact zv_r | apply zv_add | apply zv_sub | apply zv_shl | apply zv_and)))
    | (with_reducible apply z_b_ck; (case h => with_unfolding_all rfl))
    | (with_reducible apply z_I; (case h => first | exact zg_I0 (by assumption) | with_unfolding_all rfl); (case hy => first | ((simp (disch := omega) only [zU_c, zU_e, zU_k, zF_c, zF_i, zF_o, zW_o, zW_i, zC_c, zC_i, zC_o]); rfl) | rfl))
    | (with_reducible apply z_PU; (case he => repeat (with_reducible first | exact zv_l _ | exact zv_r | apply zv_add | apply zv_sub | apply zv_shl | apply zv_and)); (case h => with_reducible first | exact zp_27_3 _ | exact zp_27_4 _))
    | (with_reducible apply z_6has; (case e1 => repeat (with_reducible first | exact zv_l _ | exact zv_r | apply zv_add | apply zv_sub | apply zv_shl | apply zv_and)); (case e2 => repeat (with_reducible first | exact zv_l _ | exact zv_r | apply zv_add | apply zv_sub | apply zv_shl | apply zv_and)); (case r1 => first | omega | ((simp (disch := omega) only [zU_c, zU_e, zU_k, zF_c, zF_i, zF_o, zW_o, zW_i, zC_c, zC_i, zC_o]); omega)); (case r2 => first | omega | ((simp (disch := omega) only [zU_c, zU_e, zU_k, zF_c, zF_i, zF_o, zW_o, zW_i, zC_c, zC_i, zC_o]); omega)))
    | (with_reducible apply z_3open; (case a1 => assumption); (case e1 => repeat (with_reducible first | exact zv_l _ | exact zv_r | apply zv_add | apply zv_sub | apply zv_shl | apply zv_and)); (case r1 => first | omega | ((simp (disch := omega) only [zU_c, zU_e, zU_k, zF_c, zF_i, zF_o, zW_o, zW_i, zC_c, zC_i, zC_o]); omega)); (case a2 => assumption); intro _ _ _)
    | (with_reducible apply z_3aboveOf; (case a1 => assumption); (case e1 => repeat (with_reducible first | exact zv_l _ | exact zv_r | apply zv_add | apply zv_sub | apply zv_shl | apply zv_and)); (case r1 => first | omega | ((simp (disch := omega) only [zU_c, zU_e, zU_k, zF_c, zF_i, zF_o, zW_o, zW_i, zC_c, zC_i, zC_o]); omega)); (case r2 => first | omega | ((simp (disch := omega) only [zU_c, zU_e, zU_k, zF_c, zF_i, zF_o, zW_o, zW_i, zC_c, zC_i, zC_o]); omega)); (case r3 => first | omega | ((simp (disch := omega) only [zU_c, zU_e, zU_k, zF_c, zF_i, zF_o, zW_o, zW_i, zC_c, zC_i, zC_o]); omega)); (case r4 => first | omega | ((simp (disch := omega) only [zU_c, zU_e, zU_k, zF_c, zF_i, zF_o, zW_o, zW_i, zC_c, zC_i, zC_o]); omega))))
        exact hsame hlt (by rw [hst, if_pos hb])
  · intro u u0 u1
    rw [zU_c (by omega), zU_c (by omega)]
    exact hw.1 u u0 u1
  · exact zPa_34 hw.2
  · rw [zU_k (by omega), zU_e]
    rfl
  · rw [zU_e]
    rfl
theorem z_3find {m : zMe} {r : Nat} {e : Int32} {t : Int} (a1 : zG r) (e1 : e = zI t) (r1 : 0 ≤ t ∧ t < m r 0) (a2 : zWf m r) {α : Type} {kf : Int32 × Hp → Option (α × Hp)} {Q : α → zMe → Prop} (K : ∀ (v : Int32) (w : zMe), (fun v w => v = zI (zSet m r t).2 ∧ w 27 3 = ((zSet m r t).1 : Int) ∧ w 27 4 = (zSet m r t).2) v w → zOk (kf (v, zM (zW m (27) (29) w))) Q) : zOk ((f_X3_find 27 r e (zM m)).bind kf) Q := z_call (s_3find a1 e1 r1 a2) (fun v m1 h => by obtain ⟨w, rfl, hw⟩ := h; exact K v w hw)
