/-! without a game: class and reference tell the same -/
/-- the group at 3 without game g -/
def zDp3 (m : zMe) (g : Int) : zMe := fun c j => if c = 3 then (if j = 1 then m 3 1 - 1 else m 3 j) else if 7 ≤ c ∧ c ≤ 10 then (if j < g then m c j else m c (j + 1)) else m c j
theorem zDp3_1 {m : zMe} {g : Int} : zDp3 m g 3 1 = m 3 1 - 1 := rfl
theorem zDp3_0 {m : zMe} {g : Int} : zDp3 m g 3 0 = m 3 0 := rfl
theorem zDp3_2 {m : zMe} {g : Int} : zDp3 m g 3 2 = m 3 2 := rfl
theorem zDp3_g {m : zMe} {g j : Int} {c : Nat} (hc : 7 ≤ c ∧ c ≤ 10) : zDp3 m g c j = if j < g then m c j else m c (j + 1) := by
  unfold zDp3
  rw [if_neg (by omega), if_pos hc]
theorem zDp3_o {m : zMe} {g j : Int} {c : Nat} (hc : ¬ c = 3 ∧ ¬ (7 ≤ c ∧ c ≤ 10)) : zDp3 m g c j = m c j := by
  unfold zDp3
  rw [if_neg hc.1, if_neg hc.2]
theorem zDp3_Wf {m : zMe} {g : Int} (hW : zWf m 3) (hg : 0 ≤ g ∧ g < m 3 1) : zWf (zDp3 m g) 3 := by
  obtain ⟨⟨w0, w1, w2⟩, wa, wb, wc⟩ := hW
  refine ⟨⟨w0, by rw [zDp3_1]; omega, w2⟩, fun t t0 t1 => ?_, fun k k0 k1 => ?_, fun j j0 j1 => ?_⟩
  · rw [zDp3_o (by omega), zDp3_o (by omega)]
    exact wa t t0 t1
  · rw [zDp3_1] at k1
    rw [zDp3_g (c := 3 + 7) (by omega), zDp3_g (c := 3 + 4) (by omega), zDp3_g (c := 3 + 5) (by omega), zDp3_g (c := 3 + 6) (by omega), zDp3_0]
    by_cases hq : k < g
    · rw [if_pos hq, if_pos hq, if_pos hq, if_pos hq]
      exact wb k k0 (by omega)
    · rw [if_neg hq, if_neg hq, if_neg hq, if_neg hq]
      exact wb (k + 1) (by omega) (by omega)
  · rw [zDp3_o (by omega)]
    exact wc j j0 j1
theorem zDr_q {m2 w m : zMe} {g : Int} (h : zDr m2 19 g w) (hT : zTk m 19 3 m2) (hW : zWf m 3) (hg : 0 ≤ g ∧ g < m 3 1) : zGq w 19 (zDp3 m g) 3 := by
  obtain ⟨⟨h0, h1, h2⟩, ha, hb⟩ := h
  obtain ⟨⟨t0, t1, t2⟩, a1, a2, a3, a4, a5, a6, a7⟩ := hT
  have hTT := hW.1.1
  have hN := hW.1.2.1
  refine ⟨⟨by rw [h0, t0]; rfl, by rw [h1, t1]; rfl, by rw [h2, t2]; rfl⟩, fun t q0 q1 => ?_, fun k k0 k1 => ?_⟩
  · rw [zDp3_0] at q1
    rw [ha 1 (by omega), a1 t q0 (by omega), zDp3_o (by omega)]
  · rw [zDp3_1] at k1
    rw [hb 4 (by omega) k k0 (by omega), hb 5 (by omega) k k0 (by omega), hb 7 (by omega) k k0 (by omega), zDp3_g (by omega), zDp3_g (by omega), zDp3_g (by omega)]
    by_cases hq : k < g
    · rw [if_pos hq, if_pos hq, if_pos hq, if_pos hq, if_pos hq, if_pos hq]
      exact ⟨a4 k k0 (by omega), a5 k k0 (by omega), a7 k k0 (by omega)⟩
    · rw [if_neg hq, if_neg hq, if_neg hq, if_neg hq, if_neg hq, if_neg hq]
      exact ⟨a4 (k + 1) (by omega) (by omega), a5 (k + 1) (by omega) (by omega), a7 (k + 1) (by omega) (by omega)⟩
/-! sums, lists, counts with one place left out -/
theorem zSm_skip {f g : Nat → Int} {x : Nat} (hx : f x = 0) (h1 : ∀ k, k < x → f k = g k) (n : Nat) (hn : x ≤ n) (h2 : ∀ k, x ≤ k → k < n → f (k + 1) = g k) : zSm (n + 1) f = zSm n g := by
  induction n with
  | zero =>
    have : x = 0 := by omega
    subst this
    show (0 : Int) + f 0 = 0
    rw [hx]
    rfl
  | succ n ih =>
    show zSm (n + 1) f + f (n + 1) = zSm n g + g n
    by_cases hq : x = n + 1
    · subst hq
      rw [hx]
      show (zSm n f + f n) + 0 = _
      rw [h1 n (by omega), zSm_congr (fun k hk => h1 k (by omega))]
      omega
    · rw [ih (by omega) (fun k a b => h2 k a (by omega)), h2 n (by omega) (by omega)]
theorem zPn_skip {p q : Nat → Bool} {x : Nat} (hx : p x = false) (h1 : ∀ k, k < x → p k = q k) (n : Nat) (hn : x ≤ n) (h2 : ∀ k, x ≤ k → k < n → p (k + 1) = q k) : zPn (n + 1) p = zPn n q := by
  have e1 := zPn_Sm (n + 1) p
  have e2 := zPn_Sm n q
  have e3 := zSm_skip (f := fun k => if p k = true then 1 else 0) (g := fun k => if q k = true then 1 else 0) (x := x) (by rw [hx]; rfl) (fun k hk => by rw [h1 k hk]) n hn (fun k a b => by rw [h2 k a b])
  omega
/-- without g, as the reference looks at it -/
theorem zLs_skip {X m : zMe} {t g : Int} (hg0 : 0 ≤ g) (hx : X 53 g = -2) (h1 : ∀ k : Nat, (k : Int) < g → X 51 (51 + (k : Int)) = zDp3 m g (3 + 4) (k : Int) ∧ X 51 (60 + (k : Int)) = zDp3 m g (3 + 5) (k : Int) ∧ X 53 (k : Int) = zDp3 m g (3 + 7) (k : Int)) (n : Nat) (h2 : ∀ k : Nat, g ≤ (k : Int) → k < n → X 51 (51 + ((k + 1 : Nat) : Int)) = zDp3 m g (3 + 4) (k : Int) ∧ X 51 (60 + ((k + 1 : Nat) : Int)) = zDp3 m g (3 + 5) (k : Int) ∧ X 53 ((k + 1 : Nat) : Int) = zDp3 m g (3 + 7) (k : Int)) (hn : g ≤ (n : Int)) : zGl (zV X) 3 (zLs (zV X) 3 t (n + 1)) = zGl (zDp3 m g) 3 (zLs (zDp3 m g) 3 t n) := by
  have eX : ∀ n : Nat, zLs (zV X) 3 t (n + 1) = if X 53 (n : Int) = -1 ∧ (¬ X 51 (51 + (n : Int)) = t ∧ ¬ X 51 (60 + (n : Int)) = t) then zLs (zV X) 3 t n ++ [n] else zLs (zV X) 3 t n := fun n => rfl
  have eD : ∀ n : Nat, zLs (zDp3 m g) 3 t (n + 1) = if zDp3 m g (3 + 7) (n : Int) = -1 ∧ (¬ zDp3 m g (3 + 4) (n : Int) = t ∧ ¬ zDp3 m g (3 + 5) (n : Int) = t) then zLs (zDp3 m g) 3 t n ++ [n] else zLs (zDp3 m g) 3 t n := fun n => rfl
  have gX : ∀ (l : List Nat) (k : Nat), zGl (zV X) 3 (l ++ [k]) = zGl (zV X) 3 l ++ [(X 51 (51 + (k : Int)), X 51 (60 + (k : Int)))] := fun l k => List.map_append
  have gD : ∀ (l : List Nat) (k : Nat), zGl (zDp3 m g) 3 (l ++ [k]) = zGl (zDp3 m g) 3 l ++ [(zDp3 m g (3 + 4) (k : Int), zDp3 m g (3 + 5) (k : Int))] := fun l k => List.map_append
  have hA : ∀ n : Nat, (n : Int) ≤ g → zGl (zV X) 3 (zLs (zV X) 3 t n) = zGl (zDp3 m g) 3 (zLs (zDp3 m g) 3 t n) := fun n => by
    induction n with
    | zero => intro _; rfl
    | succ n ih =>
      intro hn
      obtain ⟨q1, q2, q3⟩ := h1 n (by omega)
      have hi := ih (by omega)
      rw [eX, eD, q1, q2, q3]
      split
      · rw [gX, gD, hi, q1, q2]
      · exact hi
  induction n with
  | zero =>
    have : g = 0 := by omega
    subst this
    have hx0 : X 53 ((0 : Nat) : Int) = -2 := hx
    rw [eX, if_neg (fun w => by have := w.1; omega)]
    exact hA 0 (by omega)
  | succ n ih =>
    by_cases hq : g = ((n + 1 : Nat) : Int)
    · rw [eX, if_neg (fun w => by have := w.1; rw [← hq, hx] at this; omega)]
      exact hA (n + 1) (by omega)
    · obtain ⟨q1, q2, q3⟩ := h2 n (by omega) (by omega)
      have hi := ih (fun k k0 k1 => h2 k k0 (by omega)) (by omega)
      rw [eX, eD n, q1, q2, q3]
      split
      · rw [gX, gD, hi, q1, q2]
      · exact hi
theorem zFoI_skip {m mc : zMe} {g t : Int} (hW : zWf mc 3) (hE : zEq2 mc m 3 51) (hg : 0 ≤ g ∧ g < mc 3 1) (ht : 0 ≤ t ∧ t < mc 3 0) {M : zMe} (hM : M = zF (zU (zL7 m (zRs m)) 53 g (-2)) 54 0 6 (zQt (zU (zL7 m (zRs m)) 53 g (-2)))) : zFoI M t = zHn (zDp3 mc g) 3 t := by
  have hC := zCr_L7 hW hE
  have hT := hW.1.1
  have hN := hW.1.2.1
  have hWd := zDp3_Wf hW hg
  generalize hX : zU (zL7 m (zRs m)) 53 g (-2) = X at hM
  have x51 : ∀ j, X 51 j = zL7 m (zRs m) 51 j := fun j => by rw [← hX, zU_c (by omega)]
  have x53g : X 53 g = -2 := by rw [← hX, zU_e]
  have x53 : ∀ j, ¬ j = g → X 53 j = zL7 m (zRs m) 53 j := fun j hj => by rw [← hX, zU_k hj]
  have xg : ∀ k, 0 ≤ k → k < mc 3 1 → ¬ k = g → X 51 (51 + k) = mc (3 + 4) k ∧ X 51 (60 + k) = mc (3 + 5) k ∧ X 53 k = mc (3 + 7) k := fun k k0 k1 hk => by
    rw [x51, x51, x53 k hk]
    exact hC.2.1 k k0 k1
  have hlow : ∀ k : Int, 0 ≤ k → k < g → X 51 (51 + k) = zDp3 mc g (3 + 4) k ∧ X 51 (60 + k) = zDp3 mc g (3 + 5) k ∧ X 53 k = zDp3 mc g (3 + 7) k := fun k k0 k1 => by
    rw [zDp3_g (by omega), zDp3_g (by omega), zDp3_g (by omega), if_pos k1, if_pos k1, if_pos k1]
    exact xg k k0 (by omega) (by omega)
  have hhigh : ∀ k : Int, g ≤ k → k < mc 3 1 - 1 → X 51 (51 + (k + 1)) = zDp3 mc g (3 + 4) k ∧ X 51 (60 + (k + 1)) = zDp3 mc g (3 + 5) k ∧ X 53 (k + 1) = zDp3 mc g (3 + 7) k := fun k k0 k1 => by
    rw [zDp3_g (by omega), zDp3_g (by omega), zDp3_g (by omega), if_neg (by omega), if_neg (by omega), if_neg (by omega)]
    exact xg (k + 1) (by omega) (by omega) (by omega)
  have c0 : X 51 0 = mc 3 0 := by rw [x51]; exact hC.1.1
  have c1 : X 51 1 = mc 3 1 := by rw [x51]; exact hC.1.2.1
  have c2 : X 51 2 = mc 3 2 := by rw [x51]; exact hC.1.2.2
  obtain ⟨n, en⟩ : ∃ n, (mc 3 1).toNat = n + 1 := ⟨(mc 3 1).toNat - 1, by omega⟩
  have en2 : (zDp3 mc g 3 1).toNat = n := by rw [zDp3_1]; omega
  have hpt : ∀ u, 0 ≤ u → u < mc 3 0 → zQt X u = zPt (zDp3 mc g) 3 u := fun u u0 u1 => by
    have hs : X 51 (3 + u) = zDp3 mc g (3 + 1) u := by
      rw [x51, zL7_51, zDp3_o (by omega)]
      exact (hE.2.1 u u0 u1).1
    unfold zQt zQi zPt zPi
    rw [c1, en, en2, hs, zDp3_0, if_pos u1]
    congr 1
    refine zSm_skip (x := g.toNat) ?_ (fun k hk => ?_) n (by omega) (fun k hk hkn => ?_)
    · rw [show ((g.toNat : Nat) : Int) = g by omega, x53g]
      rfl
    · obtain ⟨q1, q2, q3⟩ := hlow (k : Int) (by omega) (by omega)
      have hw := (hWd.2.2.1 (k : Int) (by omega) (by rw [zDp3_1]; omega)).1
      rw [q3]
      by_cases hl : zDp3 mc g (3 + 7) (k : Int) = -1
      · rw [if_pos hl, if_pos (by omega)]
      · rw [if_neg hl, if_neg (by omega)]
        unfold zG7 zGm
        rw [q1, q2, c2, zDp3_2]
    · obtain ⟨q1, q2, q3⟩ := hhigh (k : Int) (by omega) (by omega)
      have hw := (hWd.2.2.1 (k : Int) (by omega) (by rw [zDp3_1]; omega)).1
      rw [show ((k + 1 : Nat) : Int) = (k : Int) + 1 by omega, q3]
      by_cases hl : zDp3 mc g (3 + 7) (k : Int) = -1
      · rw [if_pos hl, if_pos (by omega)]
      · rw [if_neg hl, if_neg (by omega)]
        unfold zG7 zGm
        rw [q1, q2, c2, zDp3_2]
  have hown : zPop (zOwn (zV X) 3 t) = zPop (zOwn (zDp3 mc g) 3 t) := by
    have e7 : zOwn (zV X) 3 t = zBn (X 51 1).toNat (fun k => decide (X 53 (k : Int) = -1 ∧ (X 51 (51 + (k : Int)) = t ∨ X 51 (60 + (k : Int)) = t))) := rfl
    have e8 : zOwn (zDp3 mc g) 3 t = zBn (zDp3 mc g 3 1).toNat (fun k => decide (zDp3 mc g (3 + 7) (k : Int) = -1 ∧ (zDp3 mc g (3 + 4) (k : Int) = t ∨ zDp3 mc g (3 + 5) (k : Int) = t))) := rfl
    rw [e7, e8, c1, en, en2, zPop_Bn (by omega), zPop_Bn (by omega)]
    refine zPn_skip (x := g.toNat) ?_ (fun k hk => ?_) n (by omega) (fun k hk hkn => ?_)
    · rw [show ((g.toNat : Nat) : Int) = g by omega, x53g]
      exact decide_eq_false (fun w => by have := w.1; omega)
    · obtain ⟨q1, q2, q3⟩ := hlow (k : Int) (by omega) (by omega)
      rw [q1, q2, q3]
    · obtain ⟨q1, q2, q3⟩ := hhigh (k : Int) (by omega) (by omega)
      rw [show ((k + 1 : Nat) : Int) = (k : Int) + 1 by omega, q1, q2, q3]
  have hls : zGl (zV X) 3 (zLs (zV X) 3 t (n + 1)) = zGl (zDp3 mc g) 3 (zLs (zDp3 mc g) 3 t n) := zLs_skip hg.1 x53g (fun k hk => hlow (k : Int) (by omega) hk) n (fun k k0 k1 => by
    rw [show ((k + 1 : Nat) : Int) = (k : Int) + 1 by omega]
    exact hhigh (k : Int) k0 (by omega)) (by omega)
  have eV : zV M = zV X := by
    funext c j
    rw [hM]
    rfl
  have m51 : ∀ j, M 51 j = X 51 j := fun j => by rw [hM, zF_c (by omega)]
  have m54 : ∀ u, 0 ≤ u → u < 6 → M 54 u = zQt X u := fun u u0 u1 => by rw [hM, zF_i (by omega), Int.sub_zero]
  have d0 : zDp3 mc g 3 0 = mc 3 0 := rfl
  have d2 : zDp3 mc g 3 2 = mc 3 2 := rfl
  unfold zFoI
  rw [m51, m51, m51, c0, c1, c2, eV, en, hls, m54 t ht.1 (by omega), hpt t ht.1 ht.2, hown, ← zHn_room hWd (t := t) (by rw [d0]; exact ht) (g := fun u => if u < zDp3 mc g 3 0 ∧ ¬ u = t then zRe (zDp3 mc g) 3 t - zPt (zDp3 mc g) 3 u else 0) (fun u => rfl), en2, d2]
  refine zFo_congr (fun u u0 u1 => ?_)
  show (if u < mc 3 0 ∧ ¬ u = t then _ else 0) = if u < mc 3 0 ∧ ¬ u = t then zRe (zDp3 mc g) 3 t - zPt (zDp3 mc g) 3 u else 0
  by_cases hq : u < mc 3 0 ∧ ¬ u = t
  · rw [if_pos hq, if_pos hq, m54 u u0 u1, hpt u u0 hq.1]
    rfl
  · rw [if_neg hq, if_neg hq]
noncomputable def zWo3 (m : zMe) (g : Int) : Nat := zBn (m 3 0).toNat (fun u => (zHn (zDp3 m g) 3 (u : Int)).isSome)
theorem s6_withoutE {m : zMe} {e : Int32} {g : Int} (e1 : e = zI g) (r1 : -2147483648 ≤ g ∧ g < 2147483648) (a1 : zWf m 3) : zOk (f_X6_without 0 e (zM m)) (fun v m1 => v = zI (if 0 ≤ g ∧ g < m 3 1 then (zWo3 m g : Int) else -2) ∧ zFr 19 m m1) := by
  subst e1
  have hG : zG 3 := Or.inl rfl
  have hG9 : zG 19 := Or.inr (Or.inr rfl)
  have hN := a1.1.2.1
  unfold f_X6_without
  (first
    | (with_reducible apply z_nm; (case he => repeat (with_reducible first | exact zv_l _ | exact zv_r | apply zv_add | apply zv_neg)))
    | (with_reducible apply z_b_ck; (case h => with_unfolding_all rfl))
    | (with_reducible apply z_b_R; (case h => first | with_unfolding_all rfl))
    | (with_reducible apply z_0hasGame; (case a1 => assumption); (case e1 => repeat (with_reducible first | exact zv_l _ | exact zv_r | apply zv_add | apply zv_neg)); (case r1 => first | omega | ((simp (disch := omega) only [zU_c, zU_e, zU_k, zF_c, zF_i, zF_o, zW_o, zW_i, zC_c, zC_i, zC_o]); omega)); (case r2 => first | omega | ((simp (disch := omega) only [zU_c, zU_e, zU_k, zF_c, zF_i, zF_o, zW_o, zW_i, zC_c, zC_i, zC_o]); omega)))
    | (with_reducible apply z_0takeFrom; (case a1 => assumption); (case a2 => assumption); (case a3 => assumption); intro _ _ _)
    | (with_reducible apply z_0drop; (case a1 => assumption); (case e1 => repeat (with_reducible first | exact zv_l _ | exact zv_r | apply zv_add | apply zv_neg)); (case r1 => first | omega | ((simp (disch := omega) only [zU_c, zU_e, zU_k, zF_c, zF_i, zF_o, zW_o, zW_i, zC_c, zC_i, zC_o]); omega)); (case r2 => first | omega | ((simp (disch := omega) only [zU_c, zU_e, zU_k, zF_c, zF_i, zF_o, zW_o, zW_i, zC_c, zC_i, zC_o]); omega)); intro _ _ _)
    | (with_reducible apply z_6whoCanWin; (case a1 => assumption); (case a2 => assumption); intro _ _ _)
    | (with_reducible apply z_6without; (case e1 => repeat (with_reducible first | exact zv_l _ | exact zv_r | apply zv_add | apply zv_neg)); (case r1 => first | omega | ((simp (disch := omega) only [zU_c, zU_e, zU_k, zF_c, zF_i, zF_o, zW_o, zW_i, zC_c, zC_i, zC_o]); omega)); (case a1 => assumption); intro _ _ _))
  (first
    | (with_reducible apply z_nm; (case he => repeat (with_reducible first | exact zv_l _ | exact zv_r | apply zv_add | apply zv_neg)))
    | (with_reducible apply z_b_ck; (case h => with_unfolding_all rfl))
    | (with_reducible apply z_b_R; (case h => first | with_unfolding_all rfl))
    | (with_reducible apply z_0hasGame; (case a1 => assumption); (case e1 => repeat (with_reducible first | exact zv_l _ | exact zv_r | apply zv_add | apply zv_neg)); (case r1 => first | omega | ((simp (disch := omega) only [zU_c, zU_e, zU_k, zF_c, zF_i, zF_o, zW_o, zW_i, zC_c, zC_i, zC_o]); omega)); (case r2 => first | omega | ((simp (disch := omega) only [zU_c, zU_e, zU_k, zF_c, zF_i, zF_o, zW_o, zW_i, zC_c, zC_i, zC_o]); omega)))
    | (with_reducible apply z_0takeFrom; (case a1 => assumption); (case a2 => assumption); (case a3 => assumption); intro _ _ _)
    | (with_reducible apply z_0drop; (case a1 => assumption); (case e1 => repeat (with_reducible first | exact zv_l _ | exact zv_r | apply zv_add | apply zv_neg)); (case r1 => first | omega | ((simp (disch := omega) only [zU_c, zU_e, zU_k, zF_c, zF_i, zF_o, zW_o, zW_i, zC_c, zC_i, zC_o]); omega)); (case r2 => first | omega | ((simp (disch := omega) only [zU_c, zU_e, zU_k, zF_c, zF_i, zF_o, zW_o, zW_i, zC_c, zC_i, zC_o]); omega)); intro _ _ _)
    | (with_reducible apply z_6whoCanWin; (case a1 => assumption); (case a2 => assumption); intro _ _ _)
    | (with_reducible apply z_6without; (case e1 => repeat (with_reducible first | exact zv_l _ | exact zv_r | apply zv_add | apply zv_neg)); (case r1 => first | omega | ((simp (disch := omega) only [zU_c, zU_e, zU_k, zF_c, zF_i, zF_o, zW_o, zW_i, zC_c, zC_i, zC_o]); omega)); (case a1 => assumption); intro _ _ _))
  (first
    | (with_reducible apply z_nm; (case he => repeat (with_reducible first | exact zv_l _ | exact zv_r | apply zv_add | apply zv_neg)))
    | (with_reducible apply z_b_ck; (case h => with_unfolding_all rfl))
    | (with_reducible apply z_b_R; (case h => first | with_unfolding_all rfl))
    | (with_reducible apply z_0hasGame; (case a1 => assumption); (case e1 => repeat (with_reducible first | exact zv_l _ | exact zv_r | apply zv_add | apply zv_neg)); (case r1 => first | omega | ((simp (disch := omega) only [zU_c, zU_e, zU_k, zF_c, zF_i, zF_o, zW_o, zW_i, zC_c, zC_i, zC_o]); omega)); (case r2 => first | omega | ((simp (disch := omega) only [zU_c, zU_e, zU_k, zF_c, zF_i, zF_o, zW_o, zW_i, zC_c, zC_i, zC_o]); omega)))
    | (with_reducible apply z_0takeFrom; (case a1 => assumption); (case a2 => assumption); (case a3 => assumption); intro _ _ _)
    | (with_reducible apply z_0drop; (case a1 => assumption); (case e1 => repeat (with_reducible first | exact zv_l _ | exact zv_r | apply zv_add | apply zv_neg)); (case r1 => first | omega | ((simp (disch := omega) only [zU_c, zU_e, zU_k, zF_c, zF_i, zF_o, zW_o, zW_i, zC_c, zC_i, zC_o]); omega)); (case r2 => first | omega | ((simp (disch := omega) only [zU_c, zU_e, zU_k, zF_c, zF_i, zF_o, zW_o, zW_i, zC_c, zC_i, zC_o]); omega)); intro _ _ _)
    | (with_reducible apply z_6whoCanWin; (case a1 => assumption); (case a2 => assumption); intro _ _ _)
    | (with_reducible apply z_6without; (case e1 => repeat (with_reducible first | exact zv_l _ | exact zv_r | apply zv_add | apply zv_neg)); (case r1 => first | omega | ((simp (disch := omega) only [zU_c, zU_e, zU_k, zF_c, zF_i, zF_o, zW_o, zW_i, zC_c, zC_i, zC_o]); omega)); (case a1 => assumption); intro _ _ _))
  refine z_B (fun hg => ?_) (fun hg => ?_)
  · rw [if_neg hg]
    exact ⟨_, _, rfl, rfl, zFr_r _ _⟩
  · rw [if_pos hg]
    (first
    | (with_reducible apply z_nm; (case he => repeat (with_reducible first | exact zv_l _ | exact zv_r | apply zv_add | apply zv_neg)))
    | (with_reducible apply z_b_ck; (case h => with_unfolding_all rfl))
    | (with_reducible apply z_b_R; (case h => first | with_unfolding_all rfl))
    | (with_reducible apply z_0hasGame; (case a1 => assumption); (case e1 => repeat (with_reducible first | exact zv_l _ | exact zv_r | apply zv_add | apply zv_neg)); (case r1 => first | omega | ((simp (disch := omega) only [zU_c, zU_e, zU_k, zF_c, zF_i, zF_o, zW_o, zW_i, zC_c, zC_i, zC_o]); omega)); (case r2 => first | omega | ((simp (disch := omega) only [zU_c, zU_e, zU_k, zF_c, zF_i, zF_o, zW_o, zW_i, zC_c, zC_i, zC_o]); omega)))
    | (with_reducible apply z_0takeFrom; (case a1 => assumption); (case a2 => assumption); (case a3 => assumption); intro _ _ _)
    | (with_reducible apply z_0drop; (case a1 => assumption); (case e1 => repeat (with_reducible first | exact zv_l _ | exact zv_r | apply zv_add | apply zv_neg)); (case r1 => first | omega | ((simp (disch := omega) only [zU_c, zU_e, zU_k, zF_c, zF_i, zF_o, zW_o, zW_i, zC_c, zC_i, zC_o]); omega)); (case r2 => first | omega | ((simp (disch := omega) only [zU_c, zU_e, zU_k, zF_c, zF_i, zF_o, zW_o, zW_i, zC_c, zC_i, zC_o]); omega)); intro _ _ _)
    | (with_reducible apply z_6whoCanWin; (case a1 => assumption); (case a2 => assumption); intro _ _ _)
    | (with_reducible apply z_6without; (case e1 => repeat (with_reducible first | exact zv_l _ | exact zv_r | apply zv_add | apply zv_neg)); (case r1 => first | omega | ((simp (disch := omega) only [zU_c, zU_e, zU_k, zF_c, zF_i, zF_o, zW_o, zW_i, zC_c, zC_i, zC_o]); omega)); (case a1 => assumption); intro _ _ _))
    (first
    | (with_reducible apply z_nm; (case he => repeat (with_reducible first | exact zv_l _ | exact zv_r | apply zv_add | apply zv_neg)))
    | (with_reducible apply z_b_ck; (case h => with_unfolding_all rfl))
    | (with_reducible apply z_b_R; (case h => first | with_unfolding_all rfl))
    | (with_reducible apply z_0hasGame; (case a1 => assumption); (case e1 => repeat (with_reducible first | exact zv_l _ | exact zv_r | apply zv_add | apply zv_neg)); (case r1 => first | omega | ((simp (disch := omega) only [zU_c, zU_e, zU_k, zF_c, zF_i, zF_o, zW_o, zW_i, zC_c, zC_i, zC_o]); omega)); (case r2 => first | omega | ((simp (disch := omega) only [zU_c, zU_e, zU_k, zF_c, zF_i, zF_o, zW_o, zW_i, zC_c, zC_i, zC_o]); omega)))
    | (with_reducible apply z_0takeFrom; (case a1 => assumption); (case a2 => assumption); (case a3 => assumption); intro _ _ _)
    | (with_reducible apply z_0drop; (case a1 => assumption); (case e1 => repeat (with_reducible first | exact zv_l _ | exact zv_r | apply zv_add | apply zv_neg)); (case r1 => first | omega | ((simp (disch := omega) only [zU_c, zU_e, zU_k, zF_c, zF_i, zF_o, zW_o, zW_i, zC_c, zC_i, zC_o]); omega)); (case r2 => first | omega | ((simp (disch := omega) only [zU_c, zU_e, zU_k, zF_c, zF_i, zF_o, zW_o, zW_i, zC_c, zC_i, zC_o]); omega)); intro _ _ _)
    | (with_reducible apply z_6whoCanWin; (case a1 => assumption); (case a2 => assumption); intro _ _ _)
    | (with_reducible apply z_6without; (case e1 => repeat (with_reducible first | exact zv_l _ | exact zv_r | apply zv_add | apply zv_neg)); (case r1 => first | omega | ((simp (disch := omega) only [zU_c, zU_e, zU_k, zF_c, zF_i, zF_o, zW_o, zW_i, zC_c, zC_i, zC_o]); omega)); (case a1 => assumption); intro _ _ _))
    refine s6_take a1 (fun m2 hF2 hW2 hT2 => ?_)
    have e1 : m2 19 1 = m 3 1 := hT2.1.2.1
    (first
    | (with_reducible apply z_nm; (case he => repeat (with_reducible first | exact zv_l _ | exact zv_r | apply zv_add | apply zv_neg)))
    | (with_reducible apply z_b_ck; (case h => with_unfolding_all rfl))
    | (with_reducible apply z_b_R; (case h => first | with_unfolding_all rfl))
    | (with_reducible apply z_0hasGame; (case a1 => assumption); (case e1 => repeat (with_reducible first | exact zv_l _ | exact zv_r | apply zv_add | apply zv_neg)); (case r1 => first | omega | ((simp (disch := omega) only [zU_c, zU_e, zU_k, zF_c, zF_i, zF_o, zW_o, zW_i, zC_c, zC_i, zC_o]); omega)); (case r2 => first | omega | ((simp (disch := omega) only [zU_c, zU_e, zU_k, zF_c, zF_i, zF_o, zW_o, zW_i, zC_c, zC_i, zC_o]); omega)))
    | (with_reducible apply z_0takeFrom; (case a1 => assumption); (case a2 => assumption); (case a3 => assumption); intro _ _ _)
    | (with_reducible apply z_0drop; (case a1 => assumption); (case e1 => repeat (with_reducible first | exact zv_l _ | exact zv_r | apply zv_add | apply zv_neg)); (case r1 => first | omega | ((simp (disch := omega) only [zU_c, zU_e, zU_k, zF_c, zF_i, zF_o, zW_o, zW_i, zC_c, zC_i, zC_o]); omega)); (case r2 => first | omega | ((simp (disch := omega) only [zU_c, zU_e, zU_k, zF_c, zF_i, zF_o, zW_o, zW_i, zC_c, zC_i, zC_o]); omega)); intro _ _ _)
    | (with_reducible apply z_6whoCanWin; (case a1 => assumption); (case a2 => assumption); intro _ _ _)
    | (with_reducible apply z_6without; (case e1 => repeat (with_reducible first | exact zv_l _ | exact zv_r | apply zv_add | apply zv_neg)); (case r1 => first | omega | ((simp (disch := omega) only [zU_c, zU_e, zU_k, zF_c, zF_i, zF_o, zW_o, zW_i, zC_c, zC_i, zC_o]); omega)); (case a1 => assumption); intro _ _ _))
    refine z_0drop hG9 rfl (by omega) (by omega) (fun _ w hw => ?_)
    have hW3 : zWf (zW m2 19 (19 + 7) w) 19 := zWf_S (zSame_Wi (by omega)) (zDr_Wf hw hW2 (by omega))
    have hF3 : zFr 19 m (zW m2 19 (19 + 7) w) := zFr_W hF2 (by omega)
    have hq3 : zGq (zW m2 19 (19 + 7) w) 19 (zDp3 m g) 3 := zGq_S (zDr_q hw hT2 a1 hg) (zSame_Wi (by omega))
    generalize zW m2 19 (19 + 7) w = m3 at hW3 hF3 hq3
    (first
    | (with_reducible apply z_nm; (case he => repeat (with_reducible first | exact zv_l _ | exact zv_r | apply zv_add | apply zv_neg)))
    | (with_reducible apply z_b_ck; (case h => with_unfolding_all rfl))
    | (with_reducible apply z_b_R; (case h => first | with_unfolding_all rfl))
    | (with_reducible apply z_0hasGame; (case a1 => assumption); (case e1 => repeat (with_reducible first | exact zv_l _ | exact zv_r | apply zv_add | apply zv_neg)); (case r1 => first | omega | ((simp (disch := omega) only [zU_c, zU_e, zU_k, zF_c, zF_i, zF_o, zW_o, zW_i, zC_c, zC_i, zC_o]); omega)); (case r2 => first | omega | ((simp (disch := omega) only [zU_c, zU_e, zU_k, zF_c, zF_i, zF_o, zW_o, zW_i, zC_c, zC_i, zC_o]); omega)))
    | (with_reducible apply z_0takeFrom; (case a1 => assumption); (case a2 => assumption); (case a3 => assumption); intro _ _ _)
    | (with_reducible apply z_0drop; (case a1 => assumption); (case e1 => repeat (with_reducible first | exact zv_l _ | exact zv_r | apply zv_add | apply zv_neg)); (case r1 => first | omega | ((simp (disch := omega) only [zU_c, zU_e, zU_k, zF_c, zF_i, zF_o, zW_o, zW_i, zC_c, zC_i, zC_o]); omega)); (case r2 => first | omega | ((simp (disch := omega) only [zU_c, zU_e, zU_k, zF_c, zF_i, zF_o, zW_o, zW_i, zC_c, zC_i, zC_o]); omega)); intro _ _ _)
    | (with_reducible apply z_6whoCanWin; (case a1 => assumption); (case a2 => assumption); intro _ _ _)
    | (with_reducible apply z_6without; (case e1 => repeat (with_reducible first | exact zv_l _ | exact zv_r | apply zv_add | apply zv_neg)); (case r1 => first | omega | ((simp (disch := omega) only [zU_c, zU_e, zU_k, zF_c, zF_i, zF_o, zW_o, zW_i, zC_c, zC_i, zC_o]); omega)); (case a1 => assumption); intro _ _ _))
    refine z_6whoCanWin hG9 hW3 (fun v m4 hv => ?_)
    obtain ⟨rfl, hF4⟩ := hv
    refine ⟨_, _, rfl, ?_, zFr_t hF3 hF4 (by omega)⟩
    rw [zWcw_Hn hW3, hq3.1.1, zDp3_0]
    have e : zBn (m 3 0).toNat (fun u => (zHn m3 19 (u : Int)).isSome) = zBn (m 3 0).toNat (fun u => (zHn (zDp3 m g) 3 (u : Int)).isSome) := zBn_congr (fun u hu => by rw [zHn_q hq3 (by omega)])
    unfold zWo3
    rw [← e]
theorem s7_withoutE {mc m : zMe} {e : Int32} {g : Int} (e1 : e = zI g) (r1 : -2147483648 ≤ g ∧ g < 2147483648) (hW : zWf mc 3) (hE : zEq2 mc m 3 51) : zOk (f_X7_without 50 e (zM m)) (fun v m1 => v = zI (if 0 ≤ g ∧ g < mc 3 1 then (zWo3 mc g : Int) else -2) ∧ zY m m1) := by
  subst e1
  have hR := zRw_E hW hE
  have hT := hW.1.1
  have e0 : m 51 0 = mc 3 0 := hE.1.1
  have e1 : m 51 1 = mc 3 1 := hE.1.2.1
  unfold f_X7_without
  (first
    | (with_reducible apply z_nm; (case he => repeat (with_reducible first | exact zv_l _ | exact zv_r | apply zv_neg)))
    | (with_reducible apply z_b_ck; (case h => with_unfolding_all rfl))
    | (with_reducible apply z_7isGame; (case e1 => repeat (with_reducible first | exact zv_l _ | exact zv_r | apply zv_neg)); (case r1 => first | omega | ((simp (disch := omega) only [zU_c, zU_e, zU_k, zF_c, zF_i, zF_o, zW_o, zW_i, zC_c, zC_i, zC_o]); omega)); (case r2 => first | omega | ((simp (disch := omega) only [zU_c, zU_e, zU_k, zF_c, zF_i, zF_o, zW_o, zW_i, zC_c, zC_i, zC_o]); omega)))
    | (with_reducible apply z_7looksWith; (case e3 => repeat (with_reducible first | exact zv_l _ | exact zv_r | apply zv_neg)); (case e4 => repeat (with_reducible first | exact zv_l _ | exact zv_r | apply zv_neg)); (case r1 => first | omega | ((simp (disch := omega) only [zU_c, zU_e, zU_k, zF_c, zF_i, zF_o, zW_o, zW_i, zC_c, zC_i, zC_o]); omega)); (case r2 => first | omega | ((simp (disch := omega) only [zU_c, zU_e, zU_k, zF_c, zF_i, zF_o, zW_o, zW_i, zC_c, zC_i, zC_o]); omega)); (case a2 => assumption))
    | (with_reducible apply z_7inSet; (case a1 => assumption); (case a2 => assumption); intro _ _ _)
    | (with_reducible apply z_7without; (case e1 => repeat (with_reducible first | exact zv_l _ | exact zv_r | apply zv_neg)); (case r1 => first | omega | ((simp (disch := omega) only [zU_c, zU_e, zU_k, zF_c, zF_i, zF_o, zW_o, zW_i, zC_c, zC_i, zC_o]); omega)); (case a1 => assumption); intro _ _ _))
  refine z_7isGame rfl r1 hR.1.2.1 ?_
  rw [e1]
  refine z_B (fun hg => ?_) (fun hg => ?_)
  · rw [if_neg hg]
    exact ⟨_, _, rfl, rfl, zY_r _⟩
  · rw [if_pos hg]
    refine s7_withE hW hE hg (x := -2) (by omega) rfl rfl (fun M hY2 hRM hAM hM => ?_)
    have hWd := zDp3_Wf hW hg
    have eM0 : M 51 0 = mc 3 0 := by rw [zX_51 hY2.1, e0]
    have hp : ∀ u, 0 ≤ u → u < M 51 0 → 0 ≤ M 54 u ∧ M 54 u ≤ 63 := fun u u0 u1 => by
      rw [eM0] at u1
      have hA := hRM
      rw [hM, zF_i (by omega), Int.sub_zero]
      have hX : ∀ j, zU (zL7 m (zRs m)) 53 g (-2) 51 j = m 51 j := fun j => by rw [zU_c (by omega), zL7_51]
      have := zQt_range (m := zU (zL7 m (zRs m)) 53 g (-2)) (zRw_X hX hR) (t := u) ⟨u0, by rw [hX, e0]; exact u1⟩
      omega
    refine z_call (s7_inSetX hRM hAM hp) (fun v m2 hv => ?_)
    obtain ⟨rfl, hY3⟩ := hv
    refine ⟨_, _, rfl, ?_, zY_t hY2 hY3⟩
    rw [eM0]
    have e : zBn (mc 3 0).toNat (fun u => (zFoI M (u : Int)).isSome) = zBn (mc 3 0).toNat (fun u => (zHn (zDp3 mc g) 3 (u : Int)).isSome) := zBn_congr (fun u hu => by rw [zFoI_skip hW hE hg ⟨by omega, by omega⟩ hM])
    unfold zWo3
    rw [← e]
theorem zp_withoutE {m : zMe} (h : zInv m) (a : Int32) : zPr (f_X6_without 0 a (zM m)) (f_X7_without 50 a) True := by
  obtain ⟨g, rfl, hg⟩ := zI_of a
  refine zPr_of ((s6_withoutE rfl hg h.1.1).mono (fun v m1 hv => ?_))
  obtain ⟨rfl, hF⟩ := hv
  have hE := zEq2_41 h.1.2 (m1 := m1) (fun c hc j => hF c (by omega) j)
  refine (s7_withoutE rfl hg h.1.1 hE).mono (fun w m2 hw => ?_)
  obtain ⟨rfl, hY⟩ := hw
  exact ⟨zInv_s h hF hY, fun _ => rfl⟩
