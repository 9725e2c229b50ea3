/-! pairs: sheets, load -/
theorem zIt_put (x : Int) : zIt (zByt x) (zAnd x 255) ∧ (0 ≤ zAnd x 255 ∧ zAnd x 255 ≤ 255) := by
  have h1 : zByt x = (zI x).toInt.bmod 256 := by
    unfold zByt
    rw [Int8.toInt_toInt32]
    exact Int32.toInt_toInt8 _
  have hb : (zI x).toInt = if 2 * (zI x).toBitVec.toNat < 4294967296 then ((zI x).toBitVec.toNat : Int) else ((zI x).toBitVec.toNat : Int) - 4294967296 := BitVec.toInt_eq_toNat_cond _
  have hl : (zI x).toBitVec.toNat < 4294967296 := (zI x).toBitVec.isLt
  have h2 : zAnd x 255 = if 2 * ((zI x).toBitVec.toNat % 256) < 4294967296 then (((zI x).toBitVec.toNat % 256 : Nat) : Int) else (((zI x).toBitVec.toNat % 256 : Nat) : Int) - 4294967296 := by
    have e : ((zI x).toBitVec &&& (255#32)).toNat = (zI x).toBitVec.toNat % 256 := by
      rw [BitVec.toNat_and]
      exact Nat.and_two_pow_sub_one_eq_mod _ 8
    rw [← e]
    exact BitVec.toInt_eq_toNat_cond _
  generalize (zI x).toBitVec.toNat = n at hb hl h2
  generalize (zI x).toInt = y at h1 hb
  rw [if_pos (by omega)] at h2
  rw [Int.bmod_def] at h1
  unfold zIt
  rw [h1, h2, hb]
  (repeat' split) <;> omega
theorem zSh_ne {s s' : Int} (hs : 0 ≤ s ∧ s < 4) (hs' : 0 ≤ s' ∧ s' < 4) (h : ¬ s' = s) : (¬ zSh s' = zSh s ∧ ¬ zSh s' = zSh s + 1) ∧ (¬ zSh s' + 1 = zSh s ∧ ¬ zSh s' + 1 = zSh s + 1) := by
  unfold zSh
  omega
theorem zSh_r {s : Int} (hs : 0 ≤ s ∧ s < 4) : 42 ≤ zSh s ∧ zSh s + 1 ≤ 49 := by
  unfold zSh
  omega
/-- one sheet that is written on both sides -/
theorem zSs_w {m m2 : zMe} {s : Int} (h : zSs m) (hs : 0 ≤ s ∧ s < 4) (h1 : ∀ c, 42 ≤ c → c ≤ 49 → ¬ c = zSh s → ¬ c = zSh s + 1 → ∀ j, m2 c j = m c j) (h2 : ∀ j, ¬ j = s → m2 59 j = m 59 j ∧ m2 60 j = m 60 j) (h3 : ∀ j, ¬ (40 * s ≤ j ∧ j < 40 * s + 40) → m2 61 j = m 61 j) (g1 : -1 ≤ m2 (zSh s) 1 ∧ m2 (zSh s) 1 ≤ 1) (g2 : 0 ≤ m2 (zSh s) 2 ∧ m2 (zSh s) 2 ≤ 40) (g3 : m2 59 s = m2 (zSh s) 1) (g4 : m2 60 s = m2 (zSh s) 2) (g5 : ∀ i, 0 ≤ i → i < 40 → (-2147483648 ≤ m2 (zSh s + 1) i ∧ m2 (zSh s + 1) i < 2147483648) ∧ zIt (m2 61 (40 * s + i)) (m2 (zSh s + 1) i)) : zSs m2 := by
  have hr := zSh_r hs
  refine ⟨fun r hrr => ?_, fun s' s0 s1 => ?_⟩
  · have hl : r = 42 ∨ r = 44 ∨ r = 46 ∨ r = 48 := hrr
    by_cases hq : r = zSh s
    · subst hq
      exact ⟨g1, g2, fun i i0 i1 => (g5 i i0 i1).1⟩
    · have hz : zSh s = 42 ∨ zSh s = 44 ∨ zSh s = 46 ∨ zSh s = 48 := zS_Sh hs
      have := h.1 r hrr
      rw [h1 r (by omega) (by omega) hq (by omega), h1 r (by omega) (by omega) hq (by omega)]
      refine ⟨this.1, this.2.1, fun i i0 i1 => ?_⟩
      rw [h1 (r + 1) (by omega) (by omega) (by omega) (by omega)]
      exact this.2.2 i i0 i1
  · by_cases hq : s' = s
    · subst hq
      exact ⟨g3, g4, fun i i0 i1 => (g5 i i0 i1).2⟩
    · obtain ⟨⟨n1, n2⟩, n3, n4⟩ := zSh_ne hs ⟨s0, s1⟩ hq
      have hr' := zSh_r ⟨s0, s1⟩
      obtain ⟨p1, p2, p3⟩ := h.2 s' s0 s1
      rw [(h2 s' hq).1, (h2 s' hq).2, h1 (zSh s') (by omega) (by omega) n1 n2, h1 (zSh s') (by omega) (by omega) n1 n2]
      refine ⟨p1, p2, fun i i0 i1 => ?_⟩
      rw [h3 (40 * s' + i) (by omega), h1 (zSh s' + 1) (by omega) (by omega) n3 n4]
      exact p3 i i0 i1
theorem zInv_sh {m m2 : zMe} (h : zInv m) (hs : zSs m2) (h1 : ∀ c, ¬ (42 ≤ c ∧ c ≤ 49) → ¬ (19 ≤ c ∧ c ≤ 40) → ¬ (59 ≤ c ∧ c ≤ 61) → ∀ j, ¬ zSr c j → m2 c j = m c j) (h8 : -1 ≤ m2 50 8 ∧ m2 50 8 < 512) : zInv m2 := by
  obtain ⟨hg, hk, ht, -, hm⟩ := h
  have e : ∀ c, c ≤ 18 ∨ c = 51 ∨ c = 52 ∨ c = 56 ∨ c = 57 → ∀ j, m2 c j = m c j := fun c q j => h1 c (by omega) (by omega) (by omega) j (by unfold zSr; omega)
  exact ⟨zIg_c hg (fun c q1 q2 => e c (by omega)) (e 51 (by omega)), zIg_c hk (fun c q1 q2 => e c (by omega)) (e 52 (by omega)), zTa_c ht (e 1 (by omega)) (e 2 (by omega)) (h1 50 (by omega) (by omega) (by omega) 11 (by unfold zSr; omega)) (e 56 (by omega)), hs, zMi_c hm (h1 50 (by omega) (by omega) (by omega) 2 (by unfold zSr; omega)) (e 0 (by omega) 9) (e 57 (by omega)) h8⟩
theorem zp_sheet {m : zMe} (h : zInv m) (a b c : Int32) : zPr (f_X6_sheet 0 a b c (zM m)) (f_X7_sheet 50 a b c) True := by
  obtain ⟨s, rfl, rs⟩ := zI_of a
  obtain ⟨b, rfl, rb⟩ := zI_of b
  obtain ⟨n, rfl, rn⟩ := zI_of c
  refine ⟨_, _, _, _, s_6sheet rfl rfl rfl rs rb rn, s_7sheet rfl rfl rfl rs rb rn, ?_, fun _ => rfl⟩
  by_cases hq : ((0 ≤ s ∧ s < 4) ∧ (b = -1 ∨ ((b = 0 ∨ b = 1) ∧ n ≤ 40))) ∧ (b = -1 ∨ 0 ≤ n)
  · rw [if_pos hq, if_pos hq]
    have hs := hq.1.1
    have hr := zSh_r hs
    have hn : 0 ≤ (if b = -1 then 0 else n) ∧ (if b = -1 then 0 else n) ≤ 40 := by split <;> omega
    generalize (if b = -1 then 0 else n) = n' at hn
    have e : ∀ c, ¬ c = zSh s → ¬ c = zSh s + 1 → ¬ c = 59 → ¬ c = 60 → ¬ c = 61 → ∀ j, zF (zU (zU (zF (zU (zU m (zSh s) 1 b) (zSh s) 2 n') (zSh s + 1) 0 40 (fun _ => 0)) 59 s b) 60 s n') 61 (40 * s) 40 (fun _ => 0) c j = m c j := fun c q1 q2 q3 q4 q5 j => by
      rw [zF_c q5, zU_c q4, zU_c q3, zF_c q2, zU_c q1, zU_c q1]
    refine zInv_sh h (zSs_w (s := s) h.2.2.2.1 hs (fun c q1 q2 q3 q4 j => e c q3 q4 (by omega) (by omega) (by omega) j) (fun j q => ⟨?_, ?_⟩) (fun j q => ?_) ?_ ?_ ?_ ?_ (fun i i0 i1 => ⟨?_, ?_⟩)) (fun c q1 q2 q3 j q4 => e c (by omega) (by omega) (by omega) (by omega) (by omega) j) ?_
    · rw [zF_c (by omega), zU_c (by omega), zU_k q, zF_c (by omega), zU_c (by omega), zU_c (by omega)]
    · rw [zF_c (by omega), zU_k q, zU_c (by omega), zF_c (by omega), zU_c (by omega), zU_c (by omega)]
    · rw [zF_o q, zU_c (by omega), zU_c (by omega), zF_c (by omega), zU_c (by omega), zU_c (by omega)]
    · rw [zF_c (by omega), zU_c (by omega), zU_c (by omega), zF_c (by omega), zU_k (by omega), zU_e]
      omega
    · rw [zF_c (by omega), zU_c (by omega), zU_c (by omega), zF_c (by omega), zU_e]
      exact hn
    · rw [zF_c (by omega), zU_c (by omega), zU_e, zF_c (by omega), zU_c (by omega), zU_c (by omega), zF_c (by omega), zU_k (by omega), zU_e]
    · rw [zF_c (by omega), zU_e, zF_c (by omega), zU_c (by omega), zU_c (by omega), zF_c (by omega), zU_e]
    · rw [zF_c (by omega), zU_c (by omega), zU_c (by omega), zF_i (by omega)]
      omega
    · rw [zF_i (by omega), zF_c (by omega), zU_c (by omega), zU_c (by omega), zF_i (by omega)]
      exact Or.inl rfl
    · rw [e 50 (by omega) (by omega) (by omega) (by omega) (by omega)]
      exact zB_8 h
  · rw [if_neg hq, if_neg hq]
    exact h
theorem zSs_59 {m : zMe} (h : zInv m) {s : Int} (hs : 0 ≤ s ∧ s < 4) : m 59 s = m (zSh s) 1 ∧ m 60 s = m (zSh s) 2 := by
  have := h.2.2.2.1.2 s hs.1 hs.2
  exact ⟨this.1, this.2.1⟩
theorem zp_put {m : zMe} (h : zInv m) (a b c : Int32) : zPr (f_X6_put 0 a b c (zM m)) (f_X7_put 50 a b c) True := by
  obtain ⟨s, rfl, rs⟩ := zI_of a
  obtain ⟨i, rfl, ri⟩ := zI_of b
  obtain ⟨x, rfl, rx⟩ := zI_of c
  have hA := s_6put (e1 := zI s) (e2 := zI i) (e3 := zI x) rfl rfl rfl rs ri h.2.2.2.1.1
  by_cases hq : (0 ≤ s ∧ s < 4) ∧ ¬ m (zSh s) 1 = -1 ∧ (0 ≤ i ∧ i < m (zSh s) 2)
  · obtain ⟨hs, hq1, hq2⟩ := id hq
    have hr := zSh_r hs
    obtain ⟨p1, p2⟩ := zSs_59 h hs
    have hsc := h.2.2.2.1.1 _ (zS_Sh hs)
    rw [if_pos hq, if_pos hs, if_neg hq1, if_pos hq2] at hA
    generalize hX : (if m (zSh s) 1 = 0 then zAnd x 255 else x) = X at hA
    have e : ∀ c, ¬ c = zSh s + 1 → ∀ j, zU m (zSh s + 1) i X c j = m c j := fun c q j => zU_c q
    have hB := s_7put (m := zU m (zSh s + 1) i X) (e1 := zI s) (e2 := zI i) (e3 := zI x) rfl rfl rfl rs ri (fun s' s0 s1 => by rw [e 59 (by omega), e 60 (by omega)]; exact zSs_7 h.2.2.2.1 s' s0 s1)
    rw [e 59 (by omega), e 60 (by omega), p1, p2, if_pos hq, if_pos hs, if_neg hq1, if_pos hq2] at hB
    generalize hY : (if m (zSh s) 1 = 0 then zByt x else x) = Y at hB
    have hXY : zIt Y X ∧ (-2147483648 ≤ X ∧ X < 2147483648) := by
      have := zIt_put x
      rw [← hX, ← hY]
      split
      · exact ⟨this.1, by omega⟩
      · exact ⟨Or.inl rfl, rx⟩
    have e2 : ∀ c, ¬ c = zSh s + 1 → ¬ c = 61 → ∀ j, zU (zU m (zSh s + 1) i X) 61 (40 * s + i) Y c j = m c j := fun c q1 q2 j => by rw [zU_c q2, zU_c q1]
    refine ⟨_, _, _, _, hA, hB, zInv_sh h (zSs_w (s := s) h.2.2.2.1 hs (fun c q1 q2 q3 q4 j => e2 c q4 (by omega) j) (fun j q => ⟨e2 59 (by omega) (by omega) j, e2 60 (by omega) (by omega) j⟩) (fun j q => ?_) ?_ ?_ ?_ ?_ (fun k k0 k1 => ?_)) (fun c q1 q2 q3 j q4 => e2 c (by omega) (by omega) j) ?_, fun _ => rfl⟩
    · rw [zU_k (by omega), zU_c (by omega)]
    · rw [e2 (zSh s) (by omega) (by omega)]
      exact hsc.1
    · rw [e2 (zSh s) (by omega) (by omega)]
      exact hsc.2.1
    · rw [e2 (zSh s) (by omega) (by omega), e2 59 (by omega) (by omega), p1]
    · rw [e2 (zSh s) (by omega) (by omega), e2 60 (by omega) (by omega), p2]
    · by_cases hk : k = i
      · subst hk
        rw [zU_c (by omega), zU_e, zU_e]
        exact ⟨hXY.2, hXY.1⟩
      · rw [zU_c (c := zSh s + 1) (by omega), zU_k hk, zU_k (by omega), zU_c (by omega)]
        exact ⟨hsc.2.2 k k0 k1, (h.2.2.2.1.2 s hs.1 hs.2).2.2 k k0 k1⟩
    · rw [e2 50 (by omega) (by omega)]
      exact zB_8 h
  · rw [if_neg hq] at hA
    have hB := s_7put (m := m) (e1 := zI s) (e2 := zI i) (e3 := zI x) rfl rfl rfl rs ri (zSs_7 h.2.2.2.1)
    by_cases hs : 0 ≤ s ∧ s < 4
    · obtain ⟨p1, p2⟩ := zSs_59 h hs
      rw [p1, p2, if_neg hq] at hB
      exact ⟨_, _, _, _, hA, hB, h, fun _ => rfl⟩
    · rw [if_neg hs] at hA
      rw [if_neg hs, if_neg (fun q => hs q.1)] at hB
      exact ⟨_, _, _, _, hA, hB, h, fun _ => rfl⟩
theorem zp_copy {m : zMe} (h : zInv m) (a b c d e : Int32) : zPr (f_X6_copy 0 a b c d e (zM m)) (f_X7_copy 50 a b c d e) True := by
  obtain ⟨s, rfl, rs⟩ := zI_of a
  obtain ⟨i, rfl, ri⟩ := zI_of b
  obtain ⟨o, rfl, ro⟩ := zI_of c
  obtain ⟨j, rfl, rj⟩ := zI_of d
  obtain ⟨n, rfl, rn⟩ := zI_of e
  have hS := h.2.2.2.1
  refine zPr_of ((s_6copy rfl rfl rfl rfl rfl rs ri ro rj rn hS.1).mono (fun v m1 hv => ?_))
  have hB : ∀ M : zMe, (∀ c, 50 ≤ c → ∀ j, M c j = m c j) → ∀ P : Int32 → zMe → Prop, (∀ v m1, ((¬ ((0 ≤ s ∧ s < 4) ∧ (0 ≤ o ∧ o < 4)) ∧ v = zI (-2) ∧ m1 = M) ∨ (((0 ≤ s ∧ s < 4) ∧ (0 ≤ o ∧ o < 4)) ∧ ((m (zSh s) 1 = -1 ∨ m (zSh o) 1 = -1) ∧ v = zI (-11) ∧ m1 = M ∨ (¬ m (zSh s) 1 = -1 ∧ ¬ m (zSh o) 1 = -1) ∧ (¬ m (zSh s) 1 = m (zSh o) 1 ∧ v = zI (-13) ∧ m1 = M ∨ m (zSh s) 1 = m (zSh o) 1 ∧ (¬ (zHo m (zSh s) i n ∧ zHo m (zSh o) j n) ∧ v = zI (-12) ∧ m1 = M ∨ (zHo m (zSh s) i n ∧ zHo m (zSh o) j n) ∧ v = zI n ∧ m1 = zC M 61 (40 * s + i) 61 (40 * o + j) n))))) → P v m1) → zOk (f_X7_copy 50 (zI s) (zI i) (zI o) (zI j) (zI n) (zM M)) P := fun M hM P hP => by
    refine (s_7copy (m := M) rfl rfl rfl rfl rfl rs ri ro rj rn (fun s' s0 s1 => by rw [hM 59 (by omega), hM 60 (by omega)]; exact zSs_7 hS s' s0 s1)).mono (fun w m2 hw => hP w m2 ?_)
    rcases hw with hw | ⟨hso, hw⟩
    · exact Or.inl hw
    · obtain ⟨p1, p2⟩ := zSs_59 h hso.1
      obtain ⟨q1, q2⟩ := zSs_59 h hso.2
      unfold zHo7 at hw
      rw [hM 59 (by omega), hM 59 (by omega), hM 60 (by omega), hM 60 (by omega), p1, p2, q1, q2] at hw
      exact Or.inr ⟨hso, hw⟩
  rcases hv with ⟨n1, rfl, rfl⟩ | ⟨n1, ⟨n2, rfl, rfl⟩ | ⟨n2, ⟨n3, rfl, rfl⟩ | ⟨n3, ⟨n4, rfl, rfl⟩ | ⟨n4, rfl, rfl⟩⟩⟩⟩
  · refine hB _ (fun _ _ _ => rfl) _ (fun w m2 hw => ?_)
    rcases hw with ⟨-, rfl, rfl⟩ | ⟨g1, -⟩
    · exact ⟨h, fun _ => rfl⟩
    · exact absurd g1 n1
  · refine hB _ (fun _ _ _ => rfl) _ (fun w m2 hw => ?_)
    rcases hw with ⟨g1, -⟩ | ⟨-, ⟨-, rfl, rfl⟩ | ⟨g2, -⟩⟩
    · exact absurd n1 g1
    · exact ⟨h, fun _ => rfl⟩
    · exact absurd n2 (fun q => q.elim g2.1 g2.2)
  · refine hB _ (fun _ _ _ => rfl) _ (fun w m2 hw => ?_)
    rcases hw with ⟨g1, -⟩ | ⟨-, ⟨g2, -⟩ | ⟨-, ⟨-, rfl, rfl⟩ | ⟨g3, -⟩⟩⟩
    · exact absurd n1 g1
    · exact absurd g2 (fun q => q.elim n2.1 n2.2)
    · exact ⟨h, fun _ => rfl⟩
    · exact absurd g3 n3
  · refine hB _ (fun _ _ _ => rfl) _ (fun w m2 hw => ?_)
    rcases hw with ⟨g1, -⟩ | ⟨-, ⟨g2, -⟩ | ⟨-, ⟨g3, -⟩ | ⟨-, ⟨-, rfl, rfl⟩ | ⟨g4, -⟩⟩⟩⟩
    · exact absurd n1 g1
    · exact absurd g2 (fun q => q.elim n2.1 n2.2)
    · exact absurd n3 g3
    · exact ⟨h, fun _ => rfl⟩
    · exact absurd g4 n4
  · have hs := n1.1
    have ho := n1.2
    have hrs := zSh_r hs
    have hro := zSh_r ho
    refine hB (zC m (zSh s + 1) i (zSh o + 1) j n) (fun c hc j => zC_c (by omega)) _ (fun w m2 hw => ?_)
    rcases hw with ⟨g1, -⟩ | ⟨-, ⟨g2, -⟩ | ⟨-, ⟨g3, -⟩ | ⟨-, ⟨g4, -⟩ | ⟨-, rfl, rfl⟩⟩⟩⟩
    · exact absurd n1 g1
    · exact absurd g2 (fun q => q.elim n2.1 n2.2)
    · exact absurd n3 g3
    · exact absurd n4 g4
    · obtain ⟨⟨a1, a2, a3⟩, b1, b2, b3⟩ := n4
      obtain ⟨p1, p2⟩ := zSs_59 h hs
      obtain ⟨q1, q2⟩ := zSs_59 h ho
      have hsc := hS.1 _ (zS_Sh hs)
      have hoc := hS.1 _ (zS_Sh ho)
      have e2 : ∀ c, ¬ c = zSh o + 1 → ¬ c = 61 → ∀ k, zC (zC m (zSh s + 1) i (zSh o + 1) j n) 61 (40 * s + i) 61 (40 * o + j) n c k = m c k := fun c q1 q2 k => by rw [zC_c q2, zC_c q1]
      refine ⟨zInv_sh h (zSs_w (s := o) hS ho (fun c q1 q2 q3 q4 k => e2 c q4 (by omega) k) (fun k q => ⟨e2 59 (by omega) (by omega) k, e2 60 (by omega) (by omega) k⟩) (fun k q => ?_) ?_ ?_ ?_ ?_ (fun k k0 k1 => ?_)) (fun c q1 q2 q3 k q4 => e2 c (by omega) (by omega) k) ?_, fun _ => rfl⟩
      · rw [zC_o (by omega), zC_c (by omega)]
      · rw [e2 (zSh o) (by omega) (by omega)]
        exact hoc.1
      · rw [e2 (zSh o) (by omega) (by omega)]
        exact hoc.2.1
      · rw [e2 (zSh o) (by omega) (by omega), e2 59 (by omega) (by omega), q1]
      · rw [e2 (zSh o) (by omega) (by omega), e2 60 (by omega) (by omega), q2]
      · by_cases hk : j ≤ k ∧ k < j + n
        · rw [zC_c (c := zSh o + 1) (by omega), zC_i hk, zC_i (by omega), zC_c (by omega), show 40 * s + i + (40 * o + k - (40 * o + j)) = 40 * s + (i + (k - j)) by omega]
          exact ⟨hsc.2.2 _ (by omega) (by omega), (hS.2 s hs.1 hs.2).2.2 _ (by omega) (by omega)⟩
        · rw [zC_c (c := zSh o + 1) (by omega), zC_o hk, zC_o (by omega), zC_c (by omega)]
          exact ⟨hoc.2.2 k k0 k1, (hS.2 o ho.1 ho.2).2.2 k k0 k1⟩
      · rw [e2 50 (by omega) (by omega)]
        exact zB_8 h
theorem zp_film {m : zMe} (h : zInv m) (a b : Int32) : zPr (f_X6_film 0 a b (zM m)) (f_X7_film 50 a b) True := by
  obtain ⟨s, rfl, rs⟩ := zI_of a
  have hA := s_6film (e1 := zI s) (e2 := b) rfl rs h.1.1
  have hS := h.2.2.2.1
  have hT := h.1.1.1.1
  by_cases hs : 0 ≤ s ∧ s < 4
  · have hr := zSh_r hs
    rw [if_pos hs, if_pos hs] at hA
    generalize hM : zF (zF (zU (zU (zF m 40 0 6 (zDp m 3 b (m 3 1).toNat)) (zSh s) 1 1) (zSh s) 2 (m 3 0)) (zSh s + 1) 0 40 (fun _ => 0)) (zSh s + 1) 0 (m 3 0) (zDp m 3 b (m 3 1).toNat) = M at hA
    have eM : ∀ c, ¬ c = zSh s → ¬ c = zSh s + 1 → ¬ c = 40 → ∀ j, M c j = m c j := fun c q1 q2 q3 j => by
      rw [← hM, zF_c q2, zF_c q2, zU_c q1, zU_c q1, zF_c q3]
    have hE : zEq2 m M 3 51 := zEq2_c (fun _ _ _ _ => rfl) (eM 51 (by omega) (by omega) (by omega)) h.1.2
    have e0 : M 51 0 = m 3 0 := hE.1.1
    have hB := s_7film (m := M) (e1 := zI s) (e2 := b) rfl rs (zRw_E h.1.1 hE)
    rw [e0, if_pos hs, if_pos hs] at hB
    have eD : ∀ c, ¬ zSr c 0 → ¬ c = 50 → ∀ j, zDm M b c j = M c j := fun c q1 q2 j => zDm_X c j (by unfold zSr at q1 ⊢; omega)
    have e50 : ∀ j, ¬ zSr 50 j → zDm M b 50 j = M 50 j := fun j q => zDm_X 50 j q
    have e2 : ∀ c, ¬ c = zSh s → ¬ c = zSh s + 1 → ¬ c = 40 → ¬ (59 ≤ c ∧ c ≤ 61) → ∀ j, ¬ zSr c j → zF (zF (zU (zU (zDm M b) 59 s 1) 60 s (m 3 0)) 61 (40 * s) 40 (fun _ => 0)) 61 (40 * s) (m 3 0) (zDq M b (M 51 1).toNat) c j = m c j := fun c q1 q2 q3 q4 j q5 => by
      rw [zF_c (by omega), zF_c (by omega), zU_c (by omega), zU_c (by omega), zDm_X c j q5, eM c q1 q2 q3]
    have e3 : ∀ c, c = zSh s ∨ c = zSh s + 1 → ∀ j, zF (zF (zU (zU (zDm M b) 59 s 1) 60 s (m 3 0)) 61 (40 * s) 40 (fun _ => 0)) 61 (40 * s) (m 3 0) (zDq M b (M 51 1).toNat) c j = M c j := fun c q j => by
      rw [zF_c (by omega), zF_c (by omega), zU_c (by omega), zU_c (by omega), zDm_X c j (by unfold zSr; omega)]
    refine ⟨_, _, _, _, hA, hB, zInv_sh h (zSs_w (s := s) hS hs (fun c q1 q2 q3 q4 j => e2 c q3 q4 (by omega) (by omega) j (by unfold zSr; omega)) (fun j q => ⟨?_, ?_⟩) (fun j q => ?_) ?_ ?_ ?_ ?_ (fun i i0 i1 => ?_)) (fun c q1 q2 q3 j q4 => e2 c (by omega) (by omega) (by omega) q3 j q4) ?_, fun _ => rfl⟩
    · rw [zF_c (by omega), zF_c (by omega), zU_c (by omega), zU_k q, zDm_X 59 j (by unfold zSr; omega), eM 59 (by omega) (by omega) (by omega)]
    · rw [zF_c (by omega), zF_c (by omega), zU_k q, zU_c (by omega), zDm_X 60 j (by unfold zSr; omega), eM 60 (by omega) (by omega) (by omega)]
    · rw [zF_o (by omega), zF_o (by omega), zU_c (by omega), zU_c (by omega), zDm_X 61 j (by unfold zSr; omega), eM 61 (by omega) (by omega) (by omega)]
    · rw [e3 _ (Or.inl rfl), ← hM, zF_c (by omega), zF_c (by omega), zU_k (by omega), zU_e]
      omega
    · rw [e3 _ (Or.inl rfl), ← hM, zF_c (by omega), zF_c (by omega), zU_e]
      omega
    · have hM1 : M (zSh s) 1 = 1 := by rw [← hM, zF_c (by omega), zF_c (by omega), zU_k (by omega), zU_e]
      rw [e3 _ (Or.inl rfl), hM1, zF_c (by omega), zF_c (by omega), zU_c (by omega), zU_e]
    · have hM2 : M (zSh s) 2 = m 3 0 := by rw [← hM, zF_c (by omega), zF_c (by omega), zU_e]
      rw [e3 _ (Or.inl rfl), hM2, zF_c (by omega), zF_c (by omega), zU_e]
    · rw [e3 _ (Or.inr rfl)]
      by_cases hi : i < m 3 0
      · have hd := zDp_range (seed := b) h.1.1 i0
        have e1 : M (zSh s + 1) i = zDp m 3 b (m 3 1).toNat i := by
          rw [← hM, zF_i (by omega), Int.sub_zero]
        rw [e1, zF_i (by omega), show 40 * s + i - 40 * s = i by omega, zDq_E h.1.1 hE b ⟨i0, hi⟩]
        exact ⟨by omega, Or.inl rfl⟩
      · have e1 : M (zSh s + 1) i = 0 := by
          rw [← hM, zF_o (by omega), zF_i (by omega)]
        rw [e1, zF_o (by omega), zF_i (by omega)]
        exact ⟨by omega, Or.inl rfl⟩
    · rw [zF_c (by omega), zF_c (by omega), zU_c (by omega), zU_c (by omega)]
      exact zDm_Y.2 (by rw [eM 50 (by omega) (by omega) (by omega)]; exact zB_8 h)
  · rw [if_neg hs, if_neg hs] at hA
    have hB := s_7film (m := m) (e1 := zI s) (e2 := b) rfl rs (zIg_R h.1)
    rw [if_neg hs, if_neg hs] at hB
    exact ⟨_, _, _, _, hA, hB, h, fun _ => rfl⟩
theorem zp_load {m : zMe} (h : zInv m) (a b c d : Int32) : zPr (f_X6_load 0 a b c d (zM m)) (f_X7_load 50 a b c d) True := by
  obtain ⟨s, rfl, rs⟩ := zI_of a
  obtain ⟨x, rfl, rx⟩ := zI_of b
  obtain ⟨fr, rfl, rf⟩ := zI_of c
  obtain ⟨n, rfl, rn⟩ := zI_of d
  have hS := h.2.2.2.1
  refine zPr_of ((s_6load rfl rfl rfl rfl rs rx rf rn h.1.1 hS.1).mono (fun v m1 hv => ?_))
  have hB : ∀ M : zMe, (∀ c, 50 ≤ c → ∀ j, M c j = m c j) → zOk (f_X7_load 50 (zI s) (zI x) (zI fr) (zI n) (zM M)) (fun v m1 => (¬ ((0 ≤ s ∧ s < 4) ∧ (x = 0 ∨ x = 1) ∧ (0 ≤ n ∧ n ≤ 9)) ∧ v = zI (-2) ∧ m1 = M) ∨ (((0 ≤ s ∧ s < 4) ∧ (x = 0 ∨ x = 1) ∧ (0 ≤ n ∧ n ≤ 9)) ∧ ((m (zSh s) 1 = -1 ∧ v = zI (-11) ∧ m1 = M) ∨ (¬ m (zSh s) 1 = -1 ∧ ¬ m (zSh s) 1 = x ∧ v = zI (-13) ∧ m1 = M) ∨ (m (zSh s) 1 = x ∧ zLp7 m M (zSh s) fr n v m1)))) := fun M hM => by
    refine s_7load (mc := m) (m := M) rfl rfl rfl rfl rs rx rf rn h.1.1 (zEq2_c (fun _ _ _ _ => rfl) (hM 51 (by omega)) h.1.2) hS.1 (fun s' s0 s1 => ?_)
    rw [hM 59 (by omega), hM 60 (by omega)]
    obtain ⟨p1, p2, p3⟩ := hS.2 s' s0 s1
    refine ⟨p1, p2, fun i i0 i1 => ?_⟩
    rw [hM 61 (by omega)]
    exact p3 i i0 i1
  rcases hv with ⟨n1, rfl, rfl⟩ | ⟨n1, ⟨n2, rfl, rfl⟩ | ⟨n2, n3, rfl, rfl⟩ | ⟨n2, hp⟩⟩
  · refine (hB _ (fun _ _ _ => rfl)).mono (fun w m2 hw => ?_)
    rcases hw with ⟨-, rfl, rfl⟩ | ⟨g1, -⟩
    · exact ⟨h, fun _ => rfl⟩
    · exact absurd g1 n1
  · refine (hB _ (fun _ _ _ => rfl)).mono (fun w m2 hw => ?_)
    rcases hw with ⟨g1, -⟩ | ⟨-, ⟨-, rfl, rfl⟩ | ⟨g2, -⟩ | ⟨g2, -⟩⟩
    · exact absurd n1 g1
    · exact ⟨h, fun _ => rfl⟩
    · exact absurd n2 g2
    · exfalso
      omega
  · refine (hB _ (fun _ _ _ => rfl)).mono (fun w m2 hw => ?_)
    rcases hw with ⟨g1, -⟩ | ⟨-, ⟨g2, -⟩ | ⟨-, -, rfl, rfl⟩ | ⟨g2, -⟩⟩
    · exact absurd n1 g1
    · exact absurd g2 n2
    · exact ⟨h, fun _ => rfl⟩
    · exact absurd g2 n3
  · obtain ⟨j, hj, hok, rfl, hend⟩ := hp
    refine (hB (zLd m (zSh s + 1) fr j) (fun c hc i => zLd_c (by omega))).mono (fun w m2 hw => ?_)
    rcases hw with ⟨g1, -⟩ | ⟨-, ⟨g2, -⟩ | ⟨-, g2, -⟩ | ⟨-, j2, hj2, hok2, ⟨hE2, hF2⟩, hend2⟩⟩
    · exact absurd n1 g1
    · exfalso
      omega
    · exact absurd n2 g2
    · have hjj : j2 = j := by
        rcases Nat.lt_trichotomy j2 j with hlt | heq | hgt
        · exfalso
          rcases hend2 with ⟨q, -⟩ | ⟨-, q, -⟩
          · omega
          · exact q (hok j2 hlt)
        · exact heq
        · exfalso
          rcases hend with ⟨q, -⟩ | ⟨-, q, -⟩
          · omega
          · exact q (hok2 j hgt)
      subst hjj
      refine ⟨zInv_g h (zIg_m (zLd_Wf h.1.1) hE2 (fun c q1 q2 i => hF2 c (by omega) i) (fun i => rfl)) (fun c q1 q2 q3 i q4 q5 => ?_) ?_, fun _ => ?_⟩
      · rw [hF2 c q3, zLd_c q1]
      · rw [hF2 50 (by omega), zLd_c (by omega)]
        exact zB_8 h
      · rcases hend with ⟨q1, q2⟩ | ⟨q1, q2, q3⟩
        · rcases hend2 with ⟨r1, r2⟩ | ⟨r1, r2, r3⟩
          · rw [q2, r2]
          · exfalso
            omega
        · rcases hend2 with ⟨r1, r2⟩ | ⟨r1, r2, r3⟩
          · exfalso
            omega
          · rw [q3, r3]
