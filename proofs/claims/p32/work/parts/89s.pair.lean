/-! pairs: the calls that think, as far as they are known -/
theorem zp_isIn {m : zMe} (h : zInv m) (a : Int32) : zPr (f_X6_isIn 0 a (zM m)) (f_X7_isIn 50 a) False := by
  obtain ⟨t, rfl, ht⟩ := zI_of a
  exact zp_weak h ((s_6isIn rfl ht h.1.1).mono (fun v m1 q => q.2)) (fun m1 r1 r2 r3 => s_7isIn rfl ht r1)
theorem zp_all {m : zMe} (h : zInv m) : zPr (f_X6_all 0 (zM m)) (f_X7_all 50) False := zp_weak h ((s_6all h.1.1).mono (fun v m1 q => q.2)) (fun m1 r1 r2 r3 => s_7all r1)
theorem zp_set {m : zMe} (h : zInv m) (a b : Int32) : zPr (f_X6_set 0 a b (zM m)) (f_X7_set 50 a b) False := by
  obtain ⟨t, rfl, ht⟩ := zI_of a
  obtain ⟨x, rfl, hx⟩ := zI_of b
  exact zp_weak h ((s_6set rfl rfl ht hx h.1.1).mono (fun v m1 q => q.2)) (fun m1 r1 r2 r3 => s_7set rfl rfl ht hx r1)
theorem zp_run {m : zMe} (h : zInv m) (a b : Int32) : zPr (f_X6_run 0 a b (zM m)) (f_X7_run 50 a b) False := by
  obtain ⟨t, rfl, ht⟩ := zI_of a
  obtain ⟨x, rfl, hx⟩ := zI_of b
  exact zp_weak h (s_6run rfl rfl ht hx h.1.1) (fun m1 r1 r2 r3 => s_7run rfl rfl ht hx r1)
theorem zp_pattern {m : zMe} (h : zInv m) (a : Int32) : zPr (f_X6_pattern 0 a (zM m)) (f_X7_pattern 50 a) False := by
  obtain ⟨t, rfl, ht⟩ := zI_of a
  exact zp_weak h (s_6pattern rfl ht h.1.1) (fun m1 r1 r2 r3 => s_7pattern rfl ht r1)
theorem zp_needs {m : zMe} (h : zInv m) (a b : Int32) : zPr (f_X6_needs 0 a b (zM m)) (f_X7_needs 50 a b) False := by
  obtain ⟨t, rfl, ht⟩ := zI_of a
  obtain ⟨x, rfl, hx⟩ := zI_of b
  exact zp_weak h (s_6needs rfl rfl ht hx h.1.1) (fun m1 r1 r2 r3 => s_7needs rfl rfl ht hx r1 r3)
theorem zp_since {m : zMe} (h : zInv m) (a b : Int32) : zPr (f_X6_since 0 a b (zM m)) (f_X7_since 50 a b) False := by
  obtain ⟨t, rfl, ht⟩ := zI_of a
  obtain ⟨x, rfl, hx⟩ := zI_of b
  exact zp_weak h (s_6since rfl rfl ht hx h.1.1) (fun m1 r1 r2 r3 => s_7since rfl rfl ht hx r1)
theorem zp_help {m : zMe} (h : zInv m) (a b : Int32) : zPr (f_X6_help 0 a b (zM m)) (f_X7_help 50 a b) False := by
  obtain ⟨t, rfl, ht⟩ := zI_of a
  obtain ⟨x, rfl, hx⟩ := zI_of b
  exact zp_weak h (s_6help rfl rfl ht hx h.1.1) (fun m1 r1 r2 r3 => s_7help rfl rfl ht hx r1)
theorem zp_without {m : zMe} (h : zInv m) (a : Int32) : zPr (f_X6_without 0 a (zM m)) (f_X7_without 50 a) False := by
  obtain ⟨t, rfl, ht⟩ := zI_of a
  exact zp_weak h (s_6without rfl ht h.1.1) (fun m1 r1 r2 r3 => s_7without rfl ht r1)
theorem zp_tables {m : zMe} (h : zInv m) : zPr (f_X6_tables 0 (zM m)) (f_X7_tables 50) False := zp_weak h (s_6tables h.1.1) (fun m1 r1 r2 r3 => s_7tables r1)
theorem zp_tells {m : zMe} (h : zInv m) (a b : Int32) : zPr (f_X6_tells 0 a b (zM m)) (f_X7_tells 50 a b) False := by
  obtain ⟨t, rfl, ht⟩ := zI_of a
  obtain ⟨x, rfl, hx⟩ := zI_of b
  exact zp_weak h (s_6tells rfl rfl ht hx h.1.1 h.2.2.2.1.1) (fun m1 r1 r2 r3 => s_7tells rfl rfl ht hx r1 r2)
/-! points, games left, draws: the same on both sides -/
/-- class memory mc, reference memory mr: what the reference looks at -/
theorem zLk_53 {mr : zMe} {g : Int → Int} {k : Int} (h0 : 0 ≤ k) (h1 : k < mr 51 1) : zLk mr g 53 k = g k := by
  unfold zLk
  rw [zF_i (by omega), Int.sub_zero]
theorem zLk_51 {mr : zMe} {g : Int → Int} {j : Int} : zLk mr g 51 j = mr 51 j := by
  unfold zLk
  rw [zF_c (by omega)]
theorem zG7_E {mc mr : zMe} (hE : zEq2 mc mr 3 51) {k : Int} (h0 : 0 ≤ k) (h1 : k < mc 3 1) (res t : Int) : zG7 mr k res t = zGm mc 3 k res t := by
  obtain ⟨p1, p2, p3, p4⟩ := hE.2.2 k h0 h1
  unfold zG7 zGm
  rw [p1, p2, hE.1.2.2]
theorem zQt_E {mc mr : zMe} (hW : zWf mc 3) (hE : zEq2 mc mr 3 51) {t : Int} (ht : 0 ≤ t ∧ t < mc 3 0) : zQt (zLk mr (zRs mr)) t = zPt mc 3 t := by
  have e1 : mr 51 1 = mc 3 1 := hE.1.2.1
  obtain ⟨p1, p2, p3⟩ := hE.2.1 t ht.1 ht.2
  unfold zQt zQi zPt zPi
  rw [zLk_51, zLk_51, e1, p1, if_pos ht.2]
  congr 1
  refine zSm_congr (fun k hk => ?_)
  have hk1 : (k : Int) < mc 3 1 := by omega
  obtain ⟨g1, g2, g3, g4⟩ := hE.2.2 (k : Int) (by omega) hk1
  have hw := (hW.2.2.1 (k : Int) (by omega) hk1).1
  rw [zLk_53 (by omega) (by omega)]
  have er : zRs mr (k : Int) = mc (3 + 7) (k : Int) := g4
  rw [er]
  by_cases hl : mc (3 + 7) (k : Int) = -1
  · rw [if_pos hl, if_pos (by omega)]
  · rw [if_neg hl, if_neg (by omega)]
    have e : ∀ res, zG7 (zLk mr (zRs mr)) (k : Int) res t = zG7 mr (k : Int) res t := fun res => by
      unfold zG7
      rw [zLk_51, zLk_51, zLk_51]
    rw [e, zG7_E hE (by omega) hk1]
theorem zOwn_E {mc mr : zMe} (hE : zEq2 mc mr 3 51) (t : Int) : zOwn (zV (zL7 mr (zRs mr))) 3 t = zOwn mc 3 t := by
  have e1 : mr 51 1 = mc 3 1 := hE.1.2.1
  have e7 : zOwn (zV (zL7 mr (zRs mr))) 3 t = zBn (zL7 mr (zRs mr) 51 1).toNat (fun k => decide (zL7 mr (zRs mr) 53 (k : Int) = -1 ∧ (zL7 mr (zRs mr) 51 (51 + (k : Int)) = t ∨ zL7 mr (zRs mr) 51 (60 + (k : Int)) = t))) := rfl
  rw [e7, zL7_51, e1]
  unfold zOwn
  refine zBn_congr (fun k hk => ?_)
  obtain ⟨g1, g2, g3, g4⟩ := hE.2.2 (k : Int) (by omega) (by omega)
  have e53 : zL7 mr (zRs mr) 53 (k : Int) = mc (3 + 7) (k : Int) := by
    unfold zL7
    rw [zF_c (by omega), zLk_53 (by omega) (by omega)]
    exact g4
  rw [e53, zL7_51, zL7_51, g1, g2]
theorem zLeft_E {mc mr : zMe} (hE : zEq2 mc mr 3 51) : zLeft (zV (zL7 mr (zRs mr))) 3 = zLeft mc 3 := by
  have e1 : mr 51 1 = mc 3 1 := hE.1.2.1
  have e7 : zLeft (zV (zL7 mr (zRs mr))) 3 = zBn (zL7 mr (zRs mr) 51 1).toNat (fun k => decide (zL7 mr (zRs mr) 53 (k : Int) = -1)) := rfl
  rw [e7, zL7_51, e1]
  unfold zLeft
  refine zBn_congr (fun k hk => ?_)
  obtain ⟨g1, g2, g3, g4⟩ := hE.2.2 (k : Int) (by omega) (by omega)
  have e53 : zL7 mr (zRs mr) 53 (k : Int) = mc (3 + 7) (k : Int) := by
    unfold zL7
    rw [zF_c (by omega), zLk_53 (by omega) (by omega)]
    exact g4
  rw [e53]
theorem zDz_E {mc mr : zMe} (hE : zEq2 mc mr 3 51) (seed : Int32) (n : Nat) (hn : (n : Int) ≤ mc 3 1) : zDz7 mr seed n = zDzn mc 3 seed n := by
  induction n with
  | zero => rfl
  | succ n ih =>
    obtain ⟨g1, g2, g3, g4⟩ := hE.2.2 (n : Int) (by omega) (by omega)
    have er : zRs mr (n : Int) = mc (3 + 7) (n : Int) := g4
    unfold zDz7 zDzn
    rw [er, ih (by omega)]
theorem zDq_E {mc mr : zMe} (hW : zWf mc 3) (hE : zEq2 mc mr 3 51) (seed : Int32) {t : Int} (ht : 0 ≤ t ∧ t < mc 3 0) : zDq mr seed (mr 51 1).toNat t = zDp mc 3 seed (mc 3 1).toNat t := by
  have e1 : mr 51 1 = mc 3 1 := hE.1.2.1
  have e2 : mr 51 2 = mc 3 2 := hE.1.2.2
  unfold zDq zDp zDad
  rw [zQt_E hW hE ht, e1, e2]
  congr 1
  refine zSm_congr (fun k hk => ?_)
  obtain ⟨g1, g2, g3, g4⟩ := hE.2.2 (k : Int) (by omega) (by omega)
  have er : zRs mr (k : Int) = mc (3 + 7) (k : Int) := g4
  rw [er, zDz_E hE seed (k + 1) (by omega), zG7_E hE (by omega) (by omega)]
theorem zFs_E {mc mr : zMe} (hW : zWf mc 3) (hE : zEq2 mc mr 3 51) (seed : Int32) : zFs7 mr seed = zFs mc 3 seed := by
  have e0 : mr 51 0 = mc 3 0 := hE.1.1
  unfold zFs7 zFs
  rw [e0]
  exact zTop_congr (fun u hu => zDq_E hW hE seed (by omega))
theorem zCc_E {mc mr : zMe} (hW : zWf mc 3) (hE : zEq2 mc mr 3 51) (t : Int) (seed : Int32) (n : Nat) : zCc7 mr t seed n = zCc mc 3 t seed n := by
  induction n with
  | zero => rfl
  | succ n ih =>
    unfold zCc7 zCc
    rw [ih, zFs_E hW hE]
theorem zEq2_41 {m m1 : zMe} (hE : zEq2 m m 3 51) (h : ∀ c, 41 ≤ c → ∀ j, m1 c j = m c j) : zEq2 m m1 3 51 := zEq2_c (fun _ _ _ _ => rfl) (h 51 (by omega)) hE
theorem zp_drawn {m : zMe} (h : zInv m) (a : Int32) : zPr (f_X6_drawn 0 a (zM m)) (f_X7_drawn 50 a) True := by
  refine zp_exact (y := fun m1 => (zFs7 m1 a : Nat)) h (s_6drawn h.1.1) (fun m1 r1 r2 r3 => s_7drawn r1) (fun m1 hm => ?_)
  rw [zFs_E h.1.1 (zEq2_41 h.1.2 hm)]
theorem zp_chance {m : zMe} (h : zInv m) (a b c d : Int32) : zPr (f_X6_chance 0 a b c d (zM m)) (f_X7_chance 50 a b c d) True := by
  obtain ⟨t, rfl, ht⟩ := zI_of a
  obtain ⟨mm, rfl, hmm⟩ := zI_of c
  obtain ⟨p, rfl, hp⟩ := zI_of d
  refine zp_exact (y := fun m1 => if (0 ≤ t ∧ t < m1 51 0) ∧ (1 ≤ mm ∧ mm ≤ 20) ∧ (p = 0 ∨ p = 1) then zCv7 m1 t b mm.toNat p else -2) h (s_6chance rfl rfl rfl ht hmm hp h.1.1) (fun m1 r1 r2 r3 => s_7chance rfl rfl rfl ht hmm hp r1) (fun m1 hm => ?_)
  have hE := zEq2_41 h.1.2 hm
  have e0 : m1 51 0 = m 3 0 := hE.1.1
  show _ = if (0 ≤ t ∧ t < m1 51 0) ∧ (1 ≤ mm ∧ mm ≤ 20) ∧ (p = 0 ∨ p = 1) then zCv7 m1 t b mm.toNat p else -2
  rw [e0]
  unfold zCv7 zCv
  rw [zCc_E h.1.1 hE]
theorem zp_told {m : zMe} (h : zInv m) (a b : Int32) : zPr (f_X6_told 0 a b (zM m)) (f_X7_told 50 a b) True := by
  obtain ⟨t, rfl, ht⟩ := zI_of a
  obtain ⟨w, rfl, hw⟩ := zI_of b
  refine zp_exact (y := fun m1 => if 0 ≤ t ∧ t < m1 51 0 then zTv7 m1 t w else -2) h ((s_6told rfl rfl ht hw h.1.1).mono (fun v m1 q => ⟨q.1, zFr_19 q.2 (by omega)⟩)) (fun m1 r1 r2 r3 => s_7told rfl rfl ht hw r1) (fun m1 hm => ?_)
  have hE := zEq2_41 h.1.2 hm
  have e0 : m1 51 0 = m 3 0 := hE.1.1
  show _ = if 0 ≤ t ∧ t < m1 51 0 then zTv7 m1 t w else -2
  rw [e0]
  by_cases hq : 0 ≤ t ∧ t < m 3 0
  · rw [if_pos hq, if_pos hq]
    obtain ⟨p1, p2, p3⟩ := hE.2.1 t hq.1 hq.2
    have e2 : m1 51 2 = m 3 2 := hE.1.2.2
    unfold zTv zTv7 zRe
    rw [zQt_E h.1.1 hE hq, zOwn_E hE, p1, p2, e2]
    by_cases h10 : 10 ≤ w ∧ w < 16
    · have n5 : ¬ w = 0 ∧ ¬ w = 1 ∧ ¬ w = 2 ∧ ¬ w = 3 ∧ ¬ w = 4 ∧ (10 ≤ w ∧ w ≤ 15) := by omega
      obtain ⟨n0, n1, n2, n3, n4, n6⟩ := n5
      by_cases hl : w - 10 < m (3 + 2) t
      · rw [if_pos h10, if_pos hl, if_neg n0, if_neg n1, if_neg n2, if_neg n3, if_neg n4, if_pos n6, if_pos hl, show 15 + 6 * t + w - 10 = 15 + 6 * t + (w - 10) by omega, p3 (w - 10) (by omega) hl]
      · rw [if_pos h10, if_neg hl, if_neg n0, if_neg n1, if_neg n2, if_neg n3, if_neg n4, if_pos n6, if_neg hl]
    · rw [if_neg h10, if_neg (show ¬ (10 ≤ w ∧ w ≤ 15) by omega)]
  · rw [if_neg hq, if_neg hq]
