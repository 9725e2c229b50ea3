/-! as it begins -/
theorem zM0_0 {c : Nat} {j : Int} (h : ¬ c = 57 ∧ ¬ c = 59 ∧ ¬ c = 42 ∧ ¬ c = 44 ∧ ¬ c = 46 ∧ ¬ c = 48) : zM0 c j = 0 := by
  unfold zM0
  rw [if_neg h.1, if_neg h.2.1, if_neg (by omega)]
theorem zM0_s {c : Nat} (h : zS c) : zM0 c 1 = -1 ∧ zM0 c 2 = 0 := by
  rcases h with rfl | rfl | rfl | rfl <;> exact ⟨rfl, rfl⟩
theorem zM0_g {r q : Nat} (h : ∀ c, r ≤ c → c ≤ r + 7 → ∀ j, zM0 c j = 0) (h2 : ∀ j, zM0 q j = 0) : zIg zM0 r q := by
  have e0 := h r (by omega) (by omega)
  refine ⟨⟨⟨by rw [e0]; omega, by rw [e0]; omega, by rw [e0]; omega⟩, fun t t0 t1 => ?_, fun k k0 k1 => ?_, fun j j0 j1 => ?_⟩, ⟨⟨by rw [e0, h2], by rw [e0, h2], by rw [e0, h2]⟩, fun t t0 t1 => ?_, fun k k0 k1 => ?_⟩⟩
  · rw [e0] at t1
    exfalso
    omega
  · rw [e0] at k1
    exfalso
    omega
  · rw [h (r + 3) (by omega) (by omega)]
    omega
  · rw [e0] at t1
    exfalso
    omega
  · rw [e0] at k1
    exfalso
    omega
theorem zInv_0 : zInv zM0 := by
  refine ⟨zM0_g (fun c q1 q2 j => zM0_0 (by omega)) (fun j => zM0_0 (by omega)), zM0_g (fun c q1 q2 j => zM0_0 (by omega)) (fun j => zM0_0 (by omega)), ⟨⟨?_, ?_, ?_, fun j j0 j1 => ?_⟩, ?_, ?_, fun j j0 j1 => ?_⟩, ⟨fun r hr => ?_, fun s s0 s1 => ?_⟩, ⟨?_, ?_⟩, fun j j0 j1 => rfl, ?_⟩
  · rw [zM0_0 (by omega)]
    omega
  · rw [zM0_0 (by omega), zM0_0 (by omega), zM0_0 (by omega)]
    omega
  · rw [zM0_0 (by omega)]
    omega
  · rw [zM0_0 (by omega)]
    omega
  · rw [zM0_0 (by omega), zM0_0 (by omega), zM0_0 (by omega)]
    exact ⟨rfl, rfl, rfl⟩
  · rw [zM0_0 (by omega), zM0_0 (by omega)]
  · rw [zM0_0 (by omega), zM0_0 (by omega)]
  · have hl : r = 42 ∨ r = 44 ∨ r = 46 ∨ r = 48 := hr
    rw [(zM0_s hr).1, (zM0_s hr).2]
    refine ⟨by omega, by omega, fun i i0 i1 => ?_⟩
    rw [zM0_0 (by omega)]
    omega
  · have hz := zS_Sh ⟨s0, s1⟩
    have hl : zSh s = 42 ∨ zSh s = 44 ∨ zSh s = 46 ∨ zSh s = 48 := hz
    rw [(zM0_s hz).1, (zM0_s hz).2]
    refine ⟨?_, zM0_0 (by omega), fun i i0 i1 => ?_⟩
    · unfold zM0
      rw [if_neg (by omega), if_pos rfl, if_pos ⟨s0, s1⟩]
    · rw [zM0_0 (by omega), zM0_0 (by omega)]
      exact Or.inl rfl
  · rw [zM0_0 (by omega), zM0_0 (by omega)]
  · rw [zM0_0 (by omega)]
    exact Or.inl rfl
  · rw [zM0_0 (by omega)]
    omega
theorem z_sL {α : Type} {xs : Nat → Int32} {sl : Nat} {e : Int32} {i : Int} {f : Int32 → Option (α × Hp)} {Q : α → zMe → Prop} (he : e = zI i) (h : 0 ≤ i ∧ i < sl) (hs : sl ≤ 3584) (K : zOk (f (xs i.toNat)) Q) : zOk ((sL xs sl e).bind f) Q := by
  subst he
  refine z_b ?_ K
  unfold sL
  rw [zI_nat h.1 (by omega), if_neg]
  rintro (q | q)
  · exact zI_nn h.1 (by omega) q
  · omega
