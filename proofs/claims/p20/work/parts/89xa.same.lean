/-! groups that are alike; what is looked at -/
/-- two groups alike in all that is used for runs -/
def zGq (a : zMe) (ra : Nat) (b : zMe) (rb : Nat) : Prop := (a ra 0 = b rb 0 ∧ a ra 1 = b rb 1 ∧ a ra 2 = b rb 2) ∧ (∀ t, 0 ≤ t → t < b rb 0 → a (ra + 1) t = b (rb + 1) t) ∧ ∀ k, 0 ≤ k → k < b rb 1 → a (ra + 4) k = b (rb + 4) k ∧ a (ra + 5) k = b (rb + 5) k ∧ a (ra + 7) k = b (rb + 7) k
theorem zLs_q {a b : zMe} {ra rb : Nat} {t : Int} {n : Nat} (h : ∀ k : Nat, k < n → a (ra + 4) (k : Int) = b (rb + 4) (k : Int) ∧ a (ra + 5) (k : Int) = b (rb + 5) (k : Int) ∧ a (ra + 7) (k : Int) = b (rb + 7) (k : Int)) : zLs a ra t n = zLs b rb t n := by
  induction n with
  | zero => rfl
  | succ n ih =>
    obtain ⟨h1, h2, h3⟩ := h n (by omega)
    unfold zLs
    rw [h1, h2, h3, ih (fun k hk => h k (by omega))]
theorem zPt_q {a b : zMe} {ra rb : Nat} (h : zGq a ra b rb) {u : Int} (u0 : 0 ≤ u) : zPt a ra u = zPt b rb u := by
  obtain ⟨⟨h0, h1, h2⟩, hs, hg⟩ := h
  unfold zPt zPi
  rw [h0, h1]
  congr 1
  · by_cases hu : u < b rb 0
    · rw [if_pos hu, if_pos hu, hs u u0 hu]
    · rw [if_neg hu, if_neg hu]
  · refine zSm_congr (fun k hk => ?_)
    obtain ⟨g1, g2, g3⟩ := hg (k : Int) (by omega) (by omega)
    unfold zGm
    rw [g1, g2, g3, h2]
theorem zOwn_q {a b : zMe} {ra rb : Nat} (h : zGq a ra b rb) (t : Int) : zOwn a ra t = zOwn b rb t := by
  obtain ⟨⟨h0, h1, h2⟩, hs, hg⟩ := h
  unfold zOwn
  rw [h1]
  refine zBn_congr (fun k hk => ?_)
  obtain ⟨g1, g2, g3⟩ := hg (k : Int) (by omega) (by omega)
  rw [g1, g2, g3]
theorem zHn_q {a b : zMe} {ra rb : Nat} (h : zGq a ra b rb) {t : Int} (t0 : 0 ≤ t) : zHn a ra t = zHn b rb t := by
  have hg := h.2.2
  have h1 := h.1.2.1
  have eLs : zLs a ra t (b rb 1).toNat = zLs b rb t (b rb 1).toNat := zLs_q (fun k hk => hg (k : Int) (by omega) (by omega))
  have eGl : zGl a ra (zLs b rb t (b rb 1).toNat) = zGl b rb (zLs b rb t (b rb 1).toNat) := by
    refine List.map_congr_left (fun k hk => ?_)
    have hk := (zLs_in hk).1
    obtain ⟨g1, g2, g3⟩ := hg (k : Int) (by omega) (by omega)
    rw [g1, g2]
  unfold zHn
  rw [h1, h.1.2.2, eLs, eGl]
  refine zFo_congr (fun u u0 u1 => ?_)
  unfold zFr1 zRe
  rw [zPt_q h t0, zPt_q h u0, zOwn_q h, h.1.2.2]
/-- what the reference holds ahead of counting is this group -/
def zCs (X mc : zMe) (r : Nat) : Prop := (X 51 0 = mc r 0 ∧ X 51 1 = mc r 1 ∧ X 51 2 = mc r 2) ∧ (∀ t, 0 ≤ t → t < mc r 0 → X 51 (3 + t) = mc (r + 1) t) ∧ ∀ k, 0 ≤ k → k < mc r 1 → X 51 (51 + k) = mc (r + 4) k ∧ X 51 (60 + k) = mc (r + 5) k ∧ X 53 k = mc (r + 7) k
theorem zQt_P {X mc : zMe} {r : Nat} (hW : zWf mc r) (h : zCs X mc r) {t : Int} (ht : 0 ≤ t ∧ t < mc r 0) : zQt X t = zPt mc r t := by
  obtain ⟨⟨h0, h1, h2⟩, hs, hg⟩ := h
  unfold zQt zQi zPt zPi
  rw [h1, hs t ht.1 ht.2, if_pos ht.2]
  congr 1
  refine zSm_congr (fun k hk => ?_)
  obtain ⟨g1, g2, g3⟩ := hg (k : Int) (by omega) (by omega)
  have hw := (hW.2.2.1 (k : Int) (by omega) (by omega)).1
  rw [g3]
  by_cases hl : mc (r + 7) (k : Int) = -1
  · rw [if_pos hl, if_pos (by omega)]
  · rw [if_neg hl, if_neg (by omega)]
    unfold zG7 zGm
    rw [g1, g2, h2]
theorem zCr_P {X mc : zMe} {r : Nat} (hW : zWf mc r) (h : zCs X mc r) : zCr (zF X 54 0 6 (zQt X)) mc r := by
  have hT := hW.1.1
  refine ⟨⟨by rw [zF_c (by omega)]; exact h.1.1, by rw [zF_c (by omega)]; exact h.1.2.1, by rw [zF_c (by omega)]; exact h.1.2.2⟩, fun k k0 k1 => ?_, fun u u0 u1 => ?_⟩
  · rw [zF_c (by omega), zF_c (by omega), zF_c (by omega)]
    exact h.2.2 k k0 k1
  · rw [zF_i (by omega), Int.sub_zero]
    exact zQt_P hW h ⟨u0, u1⟩
/-- a memory that is looked at: what the search wants of it -/
theorem zCr_p {M mc : zMe} {r : Nat} (hW : zWf mc r) (h : zCr M mc r) : ∀ u, 0 ≤ u → u < M 51 0 → 0 ≤ M 54 u ∧ M 54 u ≤ 63 := fun u u0 u1 => by
  rw [h.1.1] at u1
  rw [h.2.2 u u0 u1]
  have := zPt_range hW u0
  omega
theorem zIn_Hn {M mc m2 : zMe} {r : Nat} {t : Int} {v : Int32} (hW : zWf mc r) (hC : zCr M mc r) (ht : 0 ≤ t ∧ t < mc r 0) (h : zIp M t 0 v m2) : v = zI (zB ((zHn mc r t).isSome = true)) := by
  rw [h.1, zFoI_r hC hW ht]
/-- a group that was taken for a thought -/
theorem zTk_q {m1 m : zMe} (h : zTk m 19 3 m1) (hW : zWf m 3) : zGq m1 19 m 3 := by
  obtain ⟨h0, h1, h2, h3, h4, h5, h6, h7⟩ := h
  have hT := hW.1.1
  have hN := hW.1.2.1
  exact ⟨h0, fun t t0 t1 => h1 t t0 (by omega), fun k k0 k1 => ⟨h4 k k0 (by omega), h5 k k0 (by omega), h7 k k0 (by omega)⟩⟩
/-- with a result of one game -/
theorem zGq_res {a b : zMe} {ra rb : Nat} {g x : Int} (h : zGq a ra b rb) : zGq (zU a (ra + 7) g x) ra (zU b (rb + 7) g x) rb := by
  obtain ⟨⟨h0, h1, h2⟩, hs, hg⟩ := h
  refine ⟨⟨?_, ?_, ?_⟩, fun t t0 t1 => ?_, fun k k0 k1 => ?_⟩
  · rw [zU_c (by omega), zU_c (by omega)]; exact h0
  · rw [zU_c (by omega), zU_c (by omega)]; exact h1
  · rw [zU_c (by omega), zU_c (by omega)]; exact h2
  · rw [zU_c (by omega)] at t1
    rw [zU_c (by omega), zU_c (by omega)]
    exact hs t t0 t1
  · rw [zU_c (by omega)] at k1
    obtain ⟨g1, g2, g3⟩ := hg k k0 k1
    refine ⟨by rw [zU_c (by omega), zU_c (by omega)]; exact g1, by rw [zU_c (by omega), zU_c (by omega)]; exact g2, ?_⟩
    by_cases hq : k = g
    · subst hq
      rw [zU_e, zU_e]
    · rw [zU_k hq, zU_k hq]
      exact g3
theorem zGq_S {a a' b : zMe} {ra rb : Nat} (h : zGq a ra b rb) (hS : zSame a a' ra) : zGq a' ra b rb := by
  unfold zGq at h ⊢
  simp only [hS ra (by omega) (by omega), hS (ra + 1) (by omega) (by omega), hS (ra + 4) (by omega) (by omega), hS (ra + 5) (by omega) (by omega), hS (ra + 7) (by omega) (by omega)]
  exact h
/-- looked at with one game as x -/
theorem zCs_with {mc m : zMe} {g x : Int} (hW : zWf mc 3) (hE : zEq2 mc m 3 51) (hg : 0 ≤ g ∧ g < mc 3 1) : zCs (zU (zL7 m (zRs m)) 53 g x) (zU mc (3 + 7) g x) 3 := by
  have hC := zCr_L7 hW hE
  refine ⟨⟨?_, ?_, ?_⟩, fun t t0 t1 => ?_, fun k k0 k1 => ?_⟩
  · rw [zU_c (by omega), zU_c (by omega)]; exact hC.1.1
  · rw [zU_c (by omega), zU_c (by omega)]; exact hC.1.2.1
  · rw [zU_c (by omega), zU_c (by omega)]; exact hC.1.2.2
  · rw [zU_c (by omega)] at t1
    rw [zU_c (by omega), zU_c (by omega), zL7_51]
    exact (hE.2.1 t t0 t1).1
  · rw [zU_c (by omega)] at k1
    obtain ⟨g1, g2, g3⟩ := hC.2.1 k k0 k1
    refine ⟨by rw [zU_c (by omega), zU_c (by omega)]; exact g1, by rw [zU_c (by omega), zU_c (by omega)]; exact g2, ?_⟩
    by_cases hq : k = g
    · subst hq
      rw [zU_e, zU_e]
    · rw [zU_k hq, zU_k hq]
      exact g3
theorem s7_withE {mc m : zMe} {g x : Int} (hW : zWf mc 3) (hE : zEq2 mc m 3 51) (hg : 0 ≤ g ∧ g < mc 3 1) (hx : -2 ≤ x ∧ x ≤ 2) {e1 e2 : Int32} (he1 : e1 = zI g) (he2 : e2 = zI x) {α : Type} {f : Unit × Hp → Option (α × Hp)} {Q : α → zMe → Prop} (K : ∀ M, zY m M → zRw M → zAs M → M = zF (zU (zL7 m (zRs m)) 53 g x) 54 0 6 (zQt (zU (zL7 m (zRs m)) 53 g x)) → zOk (f ((), zM M)) Q) : zOk ((f_X7_looksWith 50 e1 e2 (zM m)).bind f) Q := by
  have hR := zRw_E hW hE
  have e1' : m 51 1 = mc 3 1 := hE.1.2.1
  refine z_7looksWith he1 he2 (by omega) hx hR ?_
  have hA := zL7_A hR
  have hY2 : zY m (zF (zU (zL7 m (zRs m)) 53 g x) 54 0 6 (zQt (zU (zL7 m (zRs m)) 53 g x))) := zY_t zL7_Y (zY_8 (zX_F (zX_U (zX_r _) (Or.inl rfl)) (Or.inr (Or.inl rfl))) (by rw [zF_c (by omega), zU_c (by omega)]))
  refine K _ hY2 (zRw_X (zX_51 hY2.1) hR) (fun k k0 k1 => ?_) rfl
  rw [zX_51 hY2.1] at k1
  rw [zF_c (by omega)]
  by_cases hq : k = g
  · subst hq
    rw [zU_e]
    exact hx
  · rw [zU_k hq]
    exact hA k k0 (by rw [zL7_51]; exact k1)
