/-! Race: whether it can end; its games, its rooms -/
/-- as zRc, whatever room there is -/
def zRd1 (m : zMe) : Prop := (0 ≤ m 30 5 ∧ m 30 5 ≤ 9) ∧ (0 ≤ m 30 6 ∧ m 30 6 ≤ 3) ∧ (0 ≤ m 30 7 ∧ m 30 7 ≤ 1) ∧ (m 30 8 = 0 ∨ m 30 8 = 1) ∧ (∀ i, 0 ≤ i → i < m 30 5 → (0 ≤ m 32 i ∧ m 32 i < 6) ∧ (0 ≤ m 33 i ∧ m 33 i < 6) ∧ ¬ m 32 i = m 33 i) ∧ ∀ u, 0 ≤ u → u < 6 → -1000 ≤ m 31 u ∧ m 31 u ≤ 1000
/-- can end: room for all, and a run found -/
def zCe (m : zMe) : Prop := (∀ u, 0 ≤ u → u < 6 → 0 ≤ m 31 u) ∧ (zSo1 m 0).isSome = true
/-- behind it -/
def zCp (m : zMe) (v : Int32) (m1 : zMe) : Prop := ∃ w, m1 = zW m 35 35 w ∧ v = zI (zE (zCe m)) ∧ (zCe m → ∀ l, zSo1 m 0 = some l → ∀ j : Nat, j < l.length → w 35 (j : Int) = l.getD j 0)
theorem zE_B {p q : Prop} [Decidable q] (h : p ↔ q) : zE p = zB q := by
  by_cases hp : p
  · rw [zE_p hp, zB_p (h.mp hp)]
  · rw [zE_n hp, zB_n (fun x => hp (h.mpr x))]
set_option maxRecDepth 100000 in
set_option maxHeartbeats 1000000 in
theorem s_1canEnd {m : zMe} (a1 : zRd1 m) : zOk (f_X1_canEnd 30 (zM m)) (fun v m1 => zCp m v m1) := by
  obtain ⟨hS, hW, hD, hdr, hg, hf⟩ := id a1
  unfold f_X1_canEnd
  repeat' (first
    | (with_reducible apply z_nm; (case he => repeat (with_reducible first | exact zv_l _ | exact zv_r | apply zv_add | apply zv_sub)))
    | (with_reducible apply z_b_ck; (case h => with_unfolding_all rfl))
    | (with_reducible apply z_b_R; (case h => first | with_unfolding_all rfl))
    | (with_reducible apply z_L; (case he => repeat (with_reducible first | exact zv_l _ | exact zv_r | apply zv_add | apply zv_sub)); (case hn => with_reducible first | assumption | exact zl_2 | exact zl_6 | exact zl_31); (case h => omega); (case hy => first | ((simp (disch := omega) only [zU_c, zU_e, zU_k, zF_c, zF_i, zF_o, zW_o, zW_i, zC_c, zC_i, zC_o]); rfl) | rfl))
    | with_reducible refine z_bz ?_
    | with_reducible refine z_bzE ?_
    | (with_reducible apply z_bzl; (case h => omega)))
  refine z_lp (fun n v m1 => ∃ i : Int, v = (30, zI i) ∧ 0 ≤ i ∧ i ≤ 6 ∧ n = (6 - i).toNat ∧ m1 = m ∧ ∀ u, 0 ≤ u → u < i → 0 ≤ m 31 u) (fun _ _ v m1 => zCp m v m1) ?_ 600 6 _ _ (by omega) ⟨0, rfl, by omega, by omega, by omega, rfl, fun u h0 h1 => by exfalso; omega⟩
  rintro n v m1 k ⟨i, rfl, h0, h1, rfl, rfl, hu⟩ hk
  have hfi := hf i h0
  unfold f_X1_canEnd_2
  dsimp only
  (first
    | (with_reducible apply z_B; all_goals (intro _; try (exfalso; omega)))
    | (with_reducible apply z_E; all_goals intro _)
    | (with_reducible apply z_lt; (case ha => repeat (with_reducible first | exact zv_l _ | exact zv_r | apply zv_add | apply zv_sub)); (case hb => repeat (with_reducible first | exact zv_l _ | exact zv_r | apply zv_add | apply zv_sub)); (case hx => omega); (case hy => omega); all_goals (intro _; try (exfalso; omega)))
    | (with_reducible apply z_le; (case ha => repeat (with_reducible first | exact zv_l _ | exact zv_r | apply zv_add | apply zv_sub)); (case hb => repeat (with_reducible first | exact zv_l _ | exact zv_r | apply zv_add | apply zv_sub)); (case hx => omega); (case hy => omega); all_goals (intro _; try (exfalso; omega)))
    | (with_reducible apply z_eq; (case ha => repeat (with_reducible first | exact zv_l _ | exact zv_r | apply zv_add | apply zv_sub)); (case hb => repeat (with_reducible first | exact zv_l _ | exact zv_r | apply zv_add | apply zv_sub)); (case hx => omega); (case hy => omega); all_goals (intro _; try (exfalso; omega))))
  · have hi6 : i = 6 := by omega
    subst hi6
    have hR : zRc m1 := ⟨hS, hW, hD, hdr, hg, fun u h0 h1 => ⟨hu u h0 h1, (hf u h0 h1).2⟩⟩
    refine z_call (s1_fits (i := 0) hR ⟨Int.le_refl 0, hS.1⟩) (fun v m2 hp => ?_)
    obtain ⟨w, rfl, w1, rfl, w3⟩ := hp
    (first
    | (with_reducible apply z_nm; (case he => repeat (with_reducible first | exact zv_l _ | exact zv_r | apply zv_add | apply zv_sub)))
    | (with_reducible apply z_b_ck; (case h => with_unfolding_all rfl))
    | (with_reducible apply z_b_R; (case h => first | with_unfolding_all rfl))
    | (with_reducible apply z_L; (case he => repeat (with_reducible first | exact zv_l _ | exact zv_r | apply zv_add | apply zv_sub)); (case hn => with_reducible first | assumption | exact zl_2 | exact zl_6 | exact zl_31); (case h => omega); (case hy => first | ((simp (disch := omega) only [zU_c, zU_e, zU_k, zF_c, zF_i, zF_o, zW_o, zW_i, zC_c, zC_i, zC_o]); rfl) | rfl))
    | with_reducible refine z_bz ?_
    | with_reducible refine z_bzE ?_
    | (with_reducible apply z_bzl; (case h => omega)))
    refine ⟨_, _, rfl, w, rfl, ?_, fun _ l hl j hj => ?_⟩
    · rw [zE_B (q := (zSo1 m1 0).isSome = true)]
      exact ⟨fun q => q.2, fun q => ⟨hu, q⟩⟩
    · have := w3 l hl j hj
      rw [Int.zero_add] at this
      exact this
  · have hfi := hfi (by omega)
    repeat' (first | (first
    | (with_reducible apply z_nm; (case he => repeat (with_reducible first | exact zv_l _ | exact zv_r | apply zv_add | apply zv_sub)))
    | (with_reducible apply z_b_ck; (case h => with_unfolding_all rfl))
    | (with_reducible apply z_b_R; (case h => first | with_unfolding_all rfl))
    | (with_reducible apply z_L; (case he => repeat (with_reducible first | exact zv_l _ | exact zv_r | apply zv_add | apply zv_sub)); (case hn => with_reducible first | assumption | exact zl_2 | exact zl_6 | exact zl_31); (case h => omega); (case hy => first | ((simp (disch := omega) only [zU_c, zU_e, zU_k, zF_c, zF_i, zF_o, zW_o, zW_i, zC_c, zC_i, zC_o]); rfl) | rfl))
    | with_reducible refine z_bz ?_
    | with_reducible refine z_bzE ?_
    | (with_reducible apply z_bzl; (case h => omega))) | (first
    | (with_reducible apply z_B; all_goals (intro _; try (exfalso; omega)))
    | (with_reducible apply z_E; all_goals intro _)
    | (with_reducible apply z_lt; (case ha => repeat (with_reducible first | exact zv_l _ | exact zv_r | apply zv_add | apply zv_sub)); (case hb => repeat (with_reducible first | exact zv_l _ | exact zv_r | apply zv_add | apply zv_sub)); (case hx => omega); (case hy => omega); all_goals (intro _; try (exfalso; omega)))
    | (with_reducible apply z_le; (case ha => repeat (with_reducible first | exact zv_l _ | exact zv_r | apply zv_add | apply zv_sub)); (case hb => repeat (with_reducible first | exact zv_l _ | exact zv_r | apply zv_add | apply zv_sub)); (case hx => omega); (case hy => omega); all_goals (intro _; try (exfalso; omega)))
    | (with_reducible apply z_eq; (case ha => repeat (with_reducible first | exact zv_l _ | exact zv_r | apply zv_add | apply zv_sub)); (case hb => repeat (with_reducible first | exact zv_l _ | exact zv_r | apply zv_add | apply zv_sub)); (case hx => omega); (case hy => omega); all_goals (intro _; try (exfalso; omega)))))
    · rename_i hlt
      refine hk _ _ _ (by omega) ⟨i + 1, rfl, by omega, by omega, rfl, rfl, fun u q0 q1 => ?_⟩
      by_cases hq : u = i
      · subst hq
        assumption
      · exact hu u q0 (by omega)
    · rename_i hlt
      have hno : ¬ zCe m1 := fun q => hlt (q.1 i h0 (by omega))
      refine ⟨_, _, rfl, m1, zW_0 _ _ _, ?_, fun q => absurd q hno⟩
      rw [zE_n hno]
      rfl
theorem z_1canEnd {m : zMe} (a1 : zRd1 m) {α : Type} {kf : Int32 × Hp → Option (α × Hp)} {Q : α → zMe → Prop} (K : ∀ (v : Int32) (m1 : zMe), (fun v m1 => zCp m v m1) v m1 → zOk (kf (v, zM m1)) Q) : zOk ((f_X1_canEnd 30 (zM m)).bind kf) Q := z_call (s_1canEnd a1) K
set_option maxRecDepth 100000 in
set_option maxHeartbeats 1000000 in
theorem s_1enter {m : zMe} {e1 e2 e3 : Int32} {k a b : Int} (e4 : e1 = zI k) (e5 : e2 = zI a) (e6 : e3 = zI b) (r1 : 0 ≤ m 30 5 ∧ m 30 5 < 9) : f_X1_enter 30 e1 e2 e3 (zM m) = some ((), zM (zU (zU (zU (zU m 34 (m 30 5) k) 32 (m 30 5) a) 33 (m 30 5) b) 30 5 (m 30 5 + 1))) := by
  subst e4; subst e5; subst e6
  refine zOk.eq ?_
  unfold f_X1_enter
  repeat' (first
    | (with_reducible apply z_b_ck; (case h => with_unfolding_all rfl))
    | (with_reducible apply z_I; (case h => first | with_unfolding_all rfl); (case hy => first | ((simp (disch := omega) only [zU_c, zU_e, zU_k, zF_c, zF_i, zF_o, zW_o, zW_i, zC_c, zC_i, zC_o]); rfl) | rfl))
    | (with_reducible apply z_b_R; (case h => first | with_unfolding_all rfl))
    | (with_reducible apply z_PU; (case he => repeat (with_reducible first | exact zv_l _ | exact zv_r | apply zv_add)); (case h => with_reducible first | exact zp_30_5 _))
    | (with_reducible apply z_S; (case he => repeat (with_reducible first | exact zv_l _ | exact zv_r | apply zv_add)); (case hg => repeat (with_reducible first | exact zv_l _ | exact zv_r | apply zv_add)); (case hn => with_reducible first | assumption | exact zl_5 | exact zl_9 | exact zl_32 | exact zl_33 | exact zl_34); (case h => omega)))
  exact ⟨_, _, rfl, rfl, rfl⟩
theorem z_1enter {m : zMe} {e1 e2 e3 : Int32} {k a b : Int} (e4 : e1 = zI k) (e5 : e2 = zI a) (e6 : e3 = zI b) (r1 : 0 ≤ m 30 5 ∧ m 30 5 < 9) {α : Type} {kf : Unit × Hp → Option (α × Hp)} {Q : α → zMe → Prop} (K : zOk (kf ((), zM (zU (zU (zU (zU m 34 (m 30 5) k) 32 (m 30 5) a) 33 (m 30 5) b) 30 5 (m 30 5 + 1)))) Q) : zOk ((f_X1_enter 30 e1 e2 e3 (zM m)).bind kf) Q := z_b (s_1enter e4 e5 e6 r1) K
/-- the games left that are not t's, of the first n -/
def zLs (m : zMe) (r : Nat) (t : Int) : Nat → List Nat
  | 0 => []
  | n + 1 => if m (r + 7) (n : Int) = -1 ∧ (¬ m (r + 4) (n : Int) = t ∧ ¬ m (r + 5) (n : Int) = t) then zLs m r t n ++ [n] else zLs m r t n
theorem zLs_len (m : zMe) (r : Nat) (t : Int) (n : Nat) : (zLs m r t n).length ≤ n := by
  induction n with
  | zero => simp [zLs]
  | succ n ih =>
    unfold zLs
    split
    · rw [List.length_append]
      simp only [List.length_cons, List.length_nil]
      omega
    · omega
theorem zLs_lt (m : zMe) (r : Nat) (t : Int) (n : Nat) : ∀ x ∈ zLs m r t n, x < n := by
  induction n with
  | zero => simp [zLs]
  | succ n ih =>
    unfold zLs
    split
    · intro x hx
      rcases List.mem_append.mp hx with h | h
      · have := ih x h
        omega
      · have := List.mem_singleton.mp h
        omega
    · intro x hx
      have := ih x hx
      omega
/-- entries of a race: these games -/
def zEs (w m : zMe) (r : Nat) (l : List Nat) : Prop := w 30 5 = (l.length : Int) ∧ ∀ j : Nat, j < l.length → w 34 (j : Int) = ((l.getD j 0 : Nat) : Int) ∧ w 32 (j : Int) = m (r + 4) ((l.getD j 0 : Nat) : Int) ∧ w 33 (j : Int) = m (r + 5) ((l.getD j 0 : Nat) : Int)
theorem zEs_add {w m : zMe} {r k : Nat} {l : List Nat} (h : zEs w m r l) : zEs (zU (zU (zU (zU w 34 (w 30 5) (k : Int)) 32 (w 30 5) (m (r + 4) (k : Int))) 33 (w 30 5) (m (r + 5) (k : Int))) 30 5 (w 30 5 + 1)) m r (l ++ [k]) := by
  obtain ⟨h1, h2⟩ := h
  refine ⟨?_, fun j hj => ?_⟩
  · rw [zU_e, h1, List.length_append]
    rfl
  · rw [List.length_append] at hj
    simp only [List.length_cons, List.length_nil] at hj
    by_cases hq : j = l.length
    · subst hq
      have e : (l ++ [k]).getD l.length 0 = k := by simp [List.getD]
      rw [e, ← h1]
      refine ⟨?_, ?_, ?_⟩
      · rw [zU_c (by omega), zU_c (by omega), zU_c (by omega), zU_e]
      · rw [zU_c (by omega), zU_c (by omega), zU_e]
      · rw [zU_c (by omega), zU_e]
    · have hj2 : j < l.length := by omega
      have e : (l ++ [k]).getD j 0 = l.getD j 0 := by simp [List.getD, List.getElem?_append_left hj2]
      obtain ⟨q1, q2, q3⟩ := h2 j hj2
      rw [e]
      refine ⟨?_, ?_, ?_⟩
      · rw [zU_c (by omega), zU_c (by omega), zU_c (by omega), zU_k (by omega)]
        exact q1
      · rw [zU_c (by omega), zU_c (by omega), zU_k (by omega), zU_c (by omega)]
        exact q2
      · rw [zU_c (by omega), zU_k (by omega), zU_c (by omega), zU_c (by omega)]
        exact q3
theorem zEs_c {w w' m : zMe} {r : Nat} {l : List Nat} (h : zEs w m r l) (h5 : w' 30 5 = w 30 5) (h34 : w' 34 = w 34) (h32 : w' 32 = w 32) (h33 : w' 33 = w 33) : zEs w' m r l := by
  unfold zEs at h ⊢
  rw [h5, h34, h32, h33]
  exact h
/-- what the own games that are lost bring to others: of the first n -/
def zLo (m : zMe) (r : Nat) (t : Int) (wins n : Nat) (u : Int) : Int := zSm n (fun k => if m (r + 7) (k : Int) = -1 ∧ wins.testBit k = false ∧ ((m (r + 4) (k : Int) = t ∧ m (r + 5) (k : Int) = u) ∨ (m (r + 5) (k : Int) = t ∧ m (r + 4) (k : Int) = u)) then m r 2 + 1 else 0)
/-- the rooms of a race of t that wins these -/
def zRo (m : zMe) (r : Nat) (t : Int) (wins : Nat) (n : Nat) (u : Int) : Int := (zPt m r t + (m r 2 + 1) * (zPop wins : Nat)) - zPt m r u - zLo m r t wins n u
/-- behind open -/
def zOp (m : zMe) (r : Nat) (t : Int) (wins : Nat) (w : zMe) : Prop := zEs w m r (zLs m r t (m r 1).toNat) ∧ (∀ u, 0 ≤ u → u < 6 → w 31 u = zRo m r t wins (m r 1).toNat u) ∧ w 30 6 = m r 2 + 1 ∧ w 30 7 = (if m r 2 = 0 then 0 else 1) ∧ w 30 8 = (if m r 2 = 0 then 0 else 1)
