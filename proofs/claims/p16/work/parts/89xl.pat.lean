/-! pattern of the class, exact -/
theorem zCe_L {m w2 : zMe} {l : List Nat} {F : Int → Int} (hW : zWf m 3) (p1 : zEs w2 m 3 l) (p2 : ∀ u, 0 ≤ u → u < 6 → w2 31 u = F u) (p3 : w2 30 6 = m 3 2 + 1) (p4 : w2 30 7 = if m 3 2 = 0 then 0 else 1) (p5 : w2 30 8 = 0) (hl : ∀ k, k ∈ l → (k : Int) < m 3 1) : zCe w2 ↔ ∃ ys, zFi (m 3 2) 0 (zGl m 3 l) F ys := by
  have hK := hW.1.2.2
  have hT := hW.1.1
  have hj : ∀ j : Int, 0 ≤ j → j < 0 + l.length → (w2 32 j = zOf m 3 l 4 j ∧ w2 33 j = zOf m 3 l 5 j) ∧ (0 ≤ zOf m 3 l 4 j ∧ zOf m 3 l 4 j < 6) ∧ (0 ≤ zOf m 3 l 5 j ∧ zOf m 3 l 5 j < 6) ∧ ¬ zOf m 3 l 4 j = zOf m 3 l 5 j := fun j j0 j1 => by
    have hj : j.toNat < l.length := by omega
    have e : ((j.toNat : Nat) : Int) = j := by omega
    obtain ⟨-, g2, g3⟩ := p1.2 j.toNat hj
    rw [e] at g2 g3
    have hlt := hl (l.getD j.toNat 0) (by rw [show l.getD j.toNat 0 = l[j.toNat] from by simp [List.getD, hj]]; exact List.getElem_mem hj)
    have hg := hW.2.2.1 ((l.getD j.toNat 0 : Nat) : Int) (by omega) hlt
    unfold zOf
    exact ⟨⟨g2, g3⟩, by omega, by omega, by omega⟩
  have eS : (∀ u, 0 ≤ u → u < 6 → 0 ≤ F u) → zSo1 w2 0 = zFo (m 3 2) 0 (zGl m 3 l) F := fun hf => by
    have e1 : zSv (w2 32) (w2 33) (m 3 2 + 1) (if m 3 2 = 0 then 0 else 1) 0 l.length (w2 31) 0 = zSv (zOf m 3 l 4) (zOf m 3 l 5) (m 3 2 + 1) (if m 3 2 = 0 then 0 else 1) 0 l.length F 0 := zSv_congr (fun j a b => by
      have h := hj j a b
      exact ⟨h.1.1, h.1.2, by rw [h.1.1]; exact h.2.1, by rw [h.1.2]; exact h.2.2.1⟩) p2
    unfold zSo1
    rw [p3, p4, p5, p1.1, show ((l.length : Int) - 0).toNat = l.length by omega, e1, zSv_F hK (fun j a b => (hj j a b).2) hf, zOf_Gl]
  unfold zCe
  constructor
  · rintro ⟨h1, h2⟩
    rw [eS (fun u u0 u1 => by rw [← p2 u u0 u1]; exact h1 u u0 u1)] at h2
    exact zFo_iff.mp h2
  · rintro ⟨ys, h⟩
    have hf : ∀ u, 0 ≤ u → u < 6 → 0 ≤ F u := fun u u0 u1 => Int.le_trans (zTo_0 hK _ _) (h.2.2 u u0 u1)
    refine ⟨fun u u0 u1 => by rw [p2 u u0 u1]; exact hf u u0 u1, ?_⟩
    rw [eS hf]
    exact zFo_iff.mpr ⟨ys, h⟩
theorem zFt_in {pat x : Nat} {l : List Nat} (h : x ∈ zFt pat l) : x ∈ l := by
  induction l with
  | nil => exact h
  | cons k ks ih =>
    have e : zFt pat (k :: ks) = if pat.testBit k = true then zFt pat ks else k :: zFt pat ks := rfl
    rw [e] at h
    split at h
    · exact List.mem_cons_of_mem _ (ih h)
    · rcases List.mem_cons.mp h with q | q
      · rw [q]
        simp
      · exact List.mem_cons_of_mem _ (ih q)
set_option maxRecDepth 100000 in
set_option maxHeartbeats 1000000 in
theorem s6_suf1 {m : zMe} {t : Int} {bits : Nat} (r1 : 0 ≤ t ∧ t < m 3 0) (r2 : bits < 512) (a1 : zWf m 3) : zOk (f_X6_suffices 0 (zI t) (zI (bits : Int)) (zI 1) (zM m)) (fun v m1 => v = zI (zE (zPq m t bits)) ∧ zFr 27 m m1) := by
  have hT := a1.1.1
  have hN := a1.1.2.1
  have hK := a1.1.2.2
  unfold f_X6_suffices
  (first
    | (with_reducible apply z_b_ck; (case h => with_unfolding_all rfl))
    | (with_reducible apply z_b_R; (case h => first | with_unfolding_all rfl))
    | with_reducible refine z_bz ?_
    | with_reducible refine z_bzE ?_
    | (with_reducible apply z_bzl; (case h => omega))
    | (with_reducible apply z_0leftOf; (case a1 => assumption); (case e1 => repeat (with_reducible first | exact zv_l _ | exact zv_r | apply zv_add)); (case r2 => first | omega | ((simp (disch := omega) only [zU_c, zU_e, zU_k, zF_c, zF_i, zF_o, zW_o, zW_i, zC_c, zC_i, zC_o]); omega)); (case r1 => first | omega | ((simp (disch := omega) only [zU_c, zU_e, zU_k, zF_c, zF_i, zF_o, zW_o, zW_i, zC_c, zC_i, zC_o]); omega)); (case a2 => assumption))
    | (with_reducible apply z_1canEnd; (case a1 => assumption); intro _ _ _)
    | (with_reducible apply z_1open; (case a1 => assumption); (case e1 => repeat (with_reducible first | exact zv_l _ | exact zv_r | apply zv_add)); (case e2 => repeat (with_reducible first | exact zv_l _ | exact zv_r | apply zv_add)); (case r1 => first | omega | ((simp (disch := omega) only [zU_c, zU_e, zU_k, zF_c, zF_i, zF_o, zW_o, zW_i, zC_c, zC_i, zC_o]); omega)); (case a2 => assumption); (case a3 => assumption); intro _ _ _)
    | (with_reducible apply z_1drawOnly; (case a1 => assumption); (case e1 => repeat (with_reducible first | exact zv_l _ | exact zv_r | apply zv_add)); (case a2 => assumption); (case a3 => assumption); (case a4 => assumption); (case a5 => assumption); (case a6 => assumption); intro _ _ _)
    | (with_reducible apply z_6suffices; (case e4 => repeat (with_reducible first | exact zv_l _ | exact zv_r | apply zv_add)); (case e5 => repeat (with_reducible first | exact zv_l _ | exact zv_r | apply zv_add)); (case e6 => repeat (with_reducible first | exact zv_l _ | exact zv_r | apply zv_add)); (case r1 => first | omega | ((simp (disch := omega) only [zU_c, zU_e, zU_k, zF_c, zF_i, zF_o, zW_o, zW_i, zC_c, zC_i, zC_o]); omega)); (case r2 => first | omega | ((simp (disch := omega) only [zU_c, zU_e, zU_k, zF_c, zF_i, zF_o, zW_o, zW_i, zC_c, zC_i, zC_o]); omega)); (case r3 => first | omega | ((simp (disch := omega) only [zU_c, zU_e, zU_k, zF_c, zF_i, zF_o, zW_o, zW_i, zC_c, zC_i, zC_o]); omega)); (case a1 => assumption); intro _ _ _))
  (first
    | (with_reducible apply z_b_ck; (case h => with_unfolding_all rfl))
    | (with_reducible apply z_b_R; (case h => first | with_unfolding_all rfl))
    | with_reducible refine z_bz ?_
    | with_reducible refine z_bzE ?_
    | (with_reducible apply z_bzl; (case h => omega))
    | (with_reducible apply z_0leftOf; (case a1 => assumption); (case e1 => repeat (with_reducible first | exact zv_l _ | exact zv_r | apply zv_add)); (case r2 => first | omega | ((simp (disch := omega) only [zU_c, zU_e, zU_k, zF_c, zF_i, zF_o, zW_o, zW_i, zC_c, zC_i, zC_o]); omega)); (case r1 => first | omega | ((simp (disch := omega) only [zU_c, zU_e, zU_k, zF_c, zF_i, zF_o, zW_o, zW_i, zC_c, zC_i, zC_o]); omega)); (case a2 => assumption))
    | (with_reducible apply z_1canEnd; (case a1 => assumption); intro _ _ _)
    | (with_reducible apply z_1open; (case a1 => assumption); (case e1 => repeat (with_reducible first | exact zv_l _ | exact zv_r | apply zv_add)); (case e2 => repeat (with_reducible first | exact zv_l _ | exact zv_r | apply zv_add)); (case r1 => first | omega | ((simp (disch := omega) only [zU_c, zU_e, zU_k, zF_c, zF_i, zF_o, zW_o, zW_i, zC_c, zC_i, zC_o]); omega)); (case a2 => assumption); (case a3 => assumption); intro _ _ _)
    | (with_reducible apply z_1drawOnly; (case a1 => assumption); (case e1 => repeat (with_reducible first | exact zv_l _ | exact zv_r | apply zv_add)); (case a2 => assumption); (case a3 => assumption); (case a4 => assumption); (case a5 => assumption); (case a6 => assumption); intro _ _ _)
    | (with_reducible apply z_6suffices; (case e4 => repeat (with_reducible first | exact zv_l _ | exact zv_r | apply zv_add)); (case e5 => repeat (with_reducible first | exact zv_l _ | exact zv_r | apply zv_add)); (case e6 => repeat (with_reducible first | exact zv_l _ | exact zv_r | apply zv_add)); (case r1 => first | omega | ((simp (disch := omega) only [zU_c, zU_e, zU_k, zF_c, zF_i, zF_o, zW_o, zW_i, zC_c, zC_i, zC_o]); omega)); (case r2 => first | omega | ((simp (disch := omega) only [zU_c, zU_e, zU_k, zF_c, zF_i, zF_o, zW_o, zW_i, zC_c, zC_i, zC_o]); omega)); (case r3 => first | omega | ((simp (disch := omega) only [zU_c, zU_e, zU_k, zF_c, zF_i, zF_o, zW_o, zW_i, zC_c, zC_i, zC_o]); omega)); (case a1 => assumption); intro _ _ _))
  (first
    | (with_reducible apply z_b_ck; (case h => with_unfolding_all rfl))
    | (with_reducible apply z_b_R; (case h => first | with_unfolding_all rfl))
    | with_reducible refine z_bz ?_
    | with_reducible refine z_bzE ?_
    | (with_reducible apply z_bzl; (case h => omega))
    | (with_reducible apply z_0leftOf; (case a1 => assumption); (case e1 => repeat (with_reducible first | exact zv_l _ | exact zv_r | apply zv_add)); (case r2 => first | omega | ((simp (disch := omega) only [zU_c, zU_e, zU_k, zF_c, zF_i, zF_o, zW_o, zW_i, zC_c, zC_i, zC_o]); omega)); (case r1 => first | omega | ((simp (disch := omega) only [zU_c, zU_e, zU_k, zF_c, zF_i, zF_o, zW_o, zW_i, zC_c, zC_i, zC_o]); omega)); (case a2 => assumption))
    | (with_reducible apply z_1canEnd; (case a1 => assumption); intro _ _ _)
    | (with_reducible apply z_1open; (case a1 => assumption); (case e1 => repeat (with_reducible first | exact zv_l _ | exact zv_r | apply zv_add)); (case e2 => repeat (with_reducible first | exact zv_l _ | exact zv_r | apply zv_add)); (case r1 => first | omega | ((simp (disch := omega) only [zU_c, zU_e, zU_k, zF_c, zF_i, zF_o, zW_o, zW_i, zC_c, zC_i, zC_o]); omega)); (case a2 => assumption); (case a3 => assumption); intro _ _ _)
    | (with_reducible apply z_1drawOnly; (case a1 => assumption); (case e1 => repeat (with_reducible first | exact zv_l _ | exact zv_r | apply zv_add)); (case a2 => assumption); (case a3 => assumption); (case a4 => assumption); (case a5 => assumption); (case a6 => assumption); intro _ _ _)
    | (with_reducible apply z_6suffices; (case e4 => repeat (with_reducible first | exact zv_l _ | exact zv_r | apply zv_add)); (case e5 => repeat (with_reducible first | exact zv_l _ | exact zv_r | apply zv_add)); (case e6 => repeat (with_reducible first | exact zv_l _ | exact zv_r | apply zv_add)); (case r1 => first | omega | ((simp (disch := omega) only [zU_c, zU_e, zU_k, zF_c, zF_i, zF_o, zW_o, zW_i, zC_c, zC_i, zC_o]); omega)); (case r2 => first | omega | ((simp (disch := omega) only [zU_c, zU_e, zU_k, zF_c, zF_i, zF_o, zW_o, zW_i, zC_c, zC_i, zC_o]); omega)); (case r3 => first | omega | ((simp (disch := omega) only [zU_c, zU_e, zU_k, zF_c, zF_i, zF_o, zW_o, zW_i, zC_c, zC_i, zC_o]); omega)); (case a1 => assumption); intro _ _ _))
  refine z_eq (x := 1) (y := 0) rfl rfl (by omega) (by omega) (fun q => by exfalso; omega) (fun _ => ?_)
  (first
    | (with_reducible apply z_b_ck; (case h => with_unfolding_all rfl))
    | (with_reducible apply z_b_R; (case h => first | with_unfolding_all rfl))
    | with_reducible refine z_bz ?_
    | with_reducible refine z_bzE ?_
    | (with_reducible apply z_bzl; (case h => omega))
    | (with_reducible apply z_0leftOf; (case a1 => assumption); (case e1 => repeat (with_reducible first | exact zv_l _ | exact zv_r | apply zv_add)); (case r2 => first | omega | ((simp (disch := omega) only [zU_c, zU_e, zU_k, zF_c, zF_i, zF_o, zW_o, zW_i, zC_c, zC_i, zC_o]); omega)); (case r1 => first | omega | ((simp (disch := omega) only [zU_c, zU_e, zU_k, zF_c, zF_i, zF_o, zW_o, zW_i, zC_c, zC_i, zC_o]); omega)); (case a2 => assumption))
    | (with_reducible apply z_1canEnd; (case a1 => assumption); intro _ _ _)
    | (with_reducible apply z_1open; (case a1 => assumption); (case e1 => repeat (with_reducible first | exact zv_l _ | exact zv_r | apply zv_add)); (case e2 => repeat (with_reducible first | exact zv_l _ | exact zv_r | apply zv_add)); (case r1 => first | omega | ((simp (disch := omega) only [zU_c, zU_e, zU_k, zF_c, zF_i, zF_o, zW_o, zW_i, zC_c, zC_i, zC_o]); omega)); (case a2 => assumption); (case a3 => assumption); intro _ _ _)
    | (with_reducible apply z_1drawOnly; (case a1 => assumption); (case e1 => repeat (with_reducible first | exact zv_l _ | exact zv_r | apply zv_add)); (case a2 => assumption); (case a3 => assumption); (case a4 => assumption); (case a5 => assumption); (case a6 => assumption); intro _ _ _)
    | (with_reducible apply z_6suffices; (case e4 => repeat (with_reducible first | exact zv_l _ | exact zv_r | apply zv_add)); (case e5 => repeat (with_reducible first | exact zv_l _ | exact zv_r | apply zv_add)); (case e6 => repeat (with_reducible first | exact zv_l _ | exact zv_r | apply zv_add)); (case r1 => first | omega | ((simp (disch := omega) only [zU_c, zU_e, zU_k, zF_c, zF_i, zF_o, zW_o, zW_i, zC_c, zC_i, zC_o]); omega)); (case r2 => first | omega | ((simp (disch := omega) only [zU_c, zU_e, zU_k, zF_c, zF_i, zF_o, zW_o, zW_i, zC_c, zC_i, zC_o]); omega)); (case r3 => first | omega | ((simp (disch := omega) only [zU_c, zU_e, zU_k, zF_c, zF_i, zF_o, zW_o, zW_i, zC_c, zC_i, zC_o]); omega)); (case a1 => assumption); intro _ _ _))
  refine z_0leftOf (r := 3) (Or.inl rfl) rfl (by omega) hN (zWf_g2 a1) ?_
  unfold f_X6_suffices_25
  refine z_1open (r := 3) (Or.inl rfl) rfl rfl r1 a1 (zOwn_lt hN) (fun _ w hw => ?_)
  have hS : zSame m (zW m 30 34 w) 3 := zSame_W (by omega)
  refine z_eq (x := 1) (y := 0) rfl rfl (by omega) (by omega) (fun q => by exfalso; omega) (fun _ => ?_)
  (first
    | (with_reducible apply z_b_ck; (case h => with_unfolding_all rfl))
    | (with_reducible apply z_b_R; (case h => first | with_unfolding_all rfl))
    | with_reducible refine z_bz ?_
    | with_reducible refine z_bzE ?_
    | (with_reducible apply z_bzl; (case h => omega))
    | (with_reducible apply z_0leftOf; (case a1 => assumption); (case e1 => repeat (with_reducible first | exact zv_l _ | exact zv_r | apply zv_add)); (case r2 => first | omega | ((simp (disch := omega) only [zU_c, zU_e, zU_k, zF_c, zF_i, zF_o, zW_o, zW_i, zC_c, zC_i, zC_o]); omega)); (case r1 => first | omega | ((simp (disch := omega) only [zU_c, zU_e, zU_k, zF_c, zF_i, zF_o, zW_o, zW_i, zC_c, zC_i, zC_o]); omega)); (case a2 => assumption))
    | (with_reducible apply z_1canEnd; (case a1 => assumption); intro _ _ _)
    | (with_reducible apply z_1open; (case a1 => assumption); (case e1 => repeat (with_reducible first | exact zv_l _ | exact zv_r | apply zv_add)); (case e2 => repeat (with_reducible first | exact zv_l _ | exact zv_r | apply zv_add)); (case r1 => first | omega | ((simp (disch := omega) only [zU_c, zU_e, zU_k, zF_c, zF_i, zF_o, zW_o, zW_i, zC_c, zC_i, zC_o]); omega)); (case a2 => assumption); (case a3 => assumption); intro _ _ _)
    | (with_reducible apply z_1drawOnly; (case a1 => assumption); (case e1 => repeat (with_reducible first | exact zv_l _ | exact zv_r | apply zv_add)); (case a2 => assumption); (case a3 => assumption); (case a4 => assumption); (case a5 => assumption); (case a6 => assumption); intro _ _ _)
    | (with_reducible apply z_6suffices; (case e4 => repeat (with_reducible first | exact zv_l _ | exact zv_r | apply zv_add)); (case e5 => repeat (with_reducible first | exact zv_l _ | exact zv_r | apply zv_add)); (case e6 => repeat (with_reducible first | exact zv_l _ | exact zv_r | apply zv_add)); (case r1 => first | omega | ((simp (disch := omega) only [zU_c, zU_e, zU_k, zF_c, zF_i, zF_o, zW_o, zW_i, zC_c, zC_i, zC_o]); omega)); (case r2 => first | omega | ((simp (disch := omega) only [zU_c, zU_e, zU_k, zF_c, zF_i, zF_o, zW_o, zW_i, zC_c, zC_i, zC_o]); omega)); (case r3 => first | omega | ((simp (disch := omega) only [zU_c, zU_e, zU_k, zF_c, zF_i, zF_o, zW_o, zW_i, zC_c, zC_i, zC_o]); omega)); (case a1 => assumption); intro _ _ _))
  have hln := zLs_len m 3 t (m 3 1).toNat
  have hE : zEs (zW m 30 34 w) (zW m 30 34 w) 3 (zLs m 3 t (m 3 1).toNat) := by
    have h1 := hw.1
    unfold zEs at h1 ⊢
    rw [zW_f (c := 30) (by omega), zW_f (c := 34) (by omega), zW_f (c := 32) (by omega), zW_f (c := 33) (by omega)]
    simp only [hS (3 + 4) (by omega) (by omega), hS (3 + 5) (by omega) (by omega)]
    exact h1
  have hlt : ∀ x ∈ zLs m 3 t (m 3 1).toNat, (x : Int) < (zW m 30 34 w) 3 1 := by
    rw [hS 3 (by omega) (by omega)]
    exact zLs_lt2 hN.1
  have hRd := zRd1_W (m := m) (zOp_Rd a1 r1.1 hw)
  refine z_1drawOnly (r := 3) (Or.inl rfl) rfl (zWf_S hS a1) hE hlt r2 (by omega) (fun _ w2 h2 => ?_)
  obtain ⟨p1, p2, p3, p4, p5⟩ := h2
  have hfl := zFl_len (zLs m 3 t (m 3 1).toNat) bits (zLs m 3 t (m 3 1).toNat).length
  have hRd2 : zRd1 w2 := by
    refine zEs_Rd (zWf_S hS a1) p1 (fun x hx => ?_) (by omega) (by rw [p3]; exact hRd.2.1) (by rw [p4]; exact hRd.2.2.1) (Or.inl p5) (fun u u0 u1 => ?_)
    · have hb : ∀ x ∈ zLs m 3 t (m 3 1).toNat, x < (m 3 1).toNat := zLs_lt m 3 t _
      have := zFl_lt hb (Nat.le_refl _) x hx
      rw [hS 3 (by omega) (by omega)]
      omega
    · have h1 := zDw_range (m := zW m 30 34 w) (r := 3) (l := zLs m 3 t (m 3 1).toNat) (pat := bits) (D := zW m 30 34 w 30 7) hRd.2.2.1 (zLs m 3 t (m 3 1).toNat).length u
      have h2 := zRo_range a1 r1.1 u0 (zOwn m 3 t)
      rw [p2 u u0 u1, zW_i (c := 31) (by omega), hw.2.1 u u0 u1]
      omega
  have hce : zCe w2 ↔ zPq m t bits := by
    refine zCe_L a1 ?_ (fun u u0 u1 => ?_) ?_ ?_ p5 (fun k hk => ?_)
    · rw [zFl_Ft] at p1
      unfold zEs at p1 ⊢
      simp only [hS (3 + 4) (by omega) (by omega), hS (3 + 5) (by omega) (by omega)] at p1
      exact p1
    · rw [p2 u u0 u1, zW_i (c := 31) (by omega), hw.2.1 u u0 u1, zRo_own, zDw_c]
      simp only [hS (3 + 4) (by omega) (by omega), hS (3 + 5) (by omega) (by omega)]
      rw [zW_i (c := 30) (by omega), hw.2.2.2.1]
    · rw [p3, zW_i (c := 30) (by omega), hw.2.2.1]
    · rw [p4, zW_i (c := 30) (by omega), hw.2.2.2.1]
    · have := zLs_lt m 3 t (m 3 1).toNat k (zFt_in hk)
      omega
  unfold f_X6_suffices_40
  (first
    | (with_reducible apply z_b_ck; (case h => with_unfolding_all rfl))
    | (with_reducible apply z_b_R; (case h => first | with_unfolding_all rfl))
    | with_reducible refine z_bz ?_
    | with_reducible refine z_bzE ?_
    | (with_reducible apply z_bzl; (case h => omega))
    | (with_reducible apply z_0leftOf; (case a1 => assumption); (case e1 => repeat (with_reducible first | exact zv_l _ | exact zv_r | apply zv_add)); (case r2 => first | omega | ((simp (disch := omega) only [zU_c, zU_e, zU_k, zF_c, zF_i, zF_o, zW_o, zW_i, zC_c, zC_i, zC_o]); omega)); (case r1 => first | omega | ((simp (disch := omega) only [zU_c, zU_e, zU_k, zF_c, zF_i, zF_o, zW_o, zW_i, zC_c, zC_i, zC_o]); omega)); (case a2 => assumption))
    | (with_reducible apply z_1canEnd; (case a1 => assumption); intro _ _ _)
    | (with_reducible apply z_1open; (case a1 => assumption); (case e1 => repeat (with_reducible first | exact zv_l _ | exact zv_r | apply zv_add)); (case e2 => repeat (with_reducible first | exact zv_l _ | exact zv_r | apply zv_add)); (case r1 => first | omega | ((simp (disch := omega) only [zU_c, zU_e, zU_k, zF_c, zF_i, zF_o, zW_o, zW_i, zC_c, zC_i, zC_o]); omega)); (case a2 => assumption); (case a3 => assumption); intro _ _ _)
    | (with_reducible apply z_1drawOnly; (case a1 => assumption); (case e1 => repeat (with_reducible first | exact zv_l _ | exact zv_r | apply zv_add)); (case a2 => assumption); (case a3 => assumption); (case a4 => assumption); (case a5 => assumption); (case a6 => assumption); intro _ _ _)
    | (with_reducible apply z_6suffices; (case e4 => repeat (with_reducible first | exact zv_l _ | exact zv_r | apply zv_add)); (case e5 => repeat (with_reducible first | exact zv_l _ | exact zv_r | apply zv_add)); (case e6 => repeat (with_reducible first | exact zv_l _ | exact zv_r | apply zv_add)); (case r1 => first | omega | ((simp (disch := omega) only [zU_c, zU_e, zU_k, zF_c, zF_i, zF_o, zW_o, zW_i, zC_c, zC_i, zC_o]); omega)); (case r2 => first | omega | ((simp (disch := omega) only [zU_c, zU_e, zU_k, zF_c, zF_i, zF_o, zW_o, zW_i, zC_c, zC_i, zC_o]); omega)); (case r3 => first | omega | ((simp (disch := omega) only [zU_c, zU_e, zU_k, zF_c, zF_i, zF_o, zW_o, zW_i, zC_c, zC_i, zC_o]); omega)); (case a1 => assumption); intro _ _ _))
  refine z_1canEnd (zRd1_W hRd2) (fun v m1 hp => ?_)
  obtain ⟨w3, rfl, rfl, -⟩ := hp
  (first
    | (with_reducible apply z_b_ck; (case h => with_unfolding_all rfl))
    | (with_reducible apply z_b_R; (case h => first | with_unfolding_all rfl))
    | with_reducible refine z_bz ?_
    | with_reducible refine z_bzE ?_
    | (with_reducible apply z_bzl; (case h => omega))
    | (with_reducible apply z_0leftOf; (case a1 => assumption); (case e1 => repeat (with_reducible first | exact zv_l _ | exact zv_r | apply zv_add)); (case r2 => first | omega | ((simp (disch := omega) only [zU_c, zU_e, zU_k, zF_c, zF_i, zF_o, zW_o, zW_i, zC_c, zC_i, zC_o]); omega)); (case r1 => first | omega | ((simp (disch := omega) only [zU_c, zU_e, zU_k, zF_c, zF_i, zF_o, zW_o, zW_i, zC_c, zC_i, zC_o]); omega)); (case a2 => assumption))
    | (with_reducible apply z_1canEnd; (case a1 => assumption); intro _ _ _)
    | (with_reducible apply z_1open; (case a1 => assumption); (case e1 => repeat (with_reducible first | exact zv_l _ | exact zv_r | apply zv_add)); (case e2 => repeat (with_reducible first | exact zv_l _ | exact zv_r | apply zv_add)); (case r1 => first | omega | ((simp (disch := omega) only [zU_c, zU_e, zU_k, zF_c, zF_i, zF_o, zW_o, zW_i, zC_c, zC_i, zC_o]); omega)); (case a2 => assumption); (case a3 => assumption); intro _ _ _)
    | (with_reducible apply z_1drawOnly; (case a1 => assumption); (case e1 => repeat (with_reducible first | exact zv_l _ | exact zv_r | apply zv_add)); (case a2 => assumption); (case a3 => assumption); (case a4 => assumption); (case a5 => assumption); (case a6 => assumption); intro _ _ _)
    | (with_reducible apply z_6suffices; (case e4 => repeat (with_reducible first | exact zv_l _ | exact zv_r | apply zv_add)); (case e5 => repeat (with_reducible first | exact zv_l _ | exact zv_r | apply zv_add)); (case e6 => repeat (with_reducible first | exact zv_l _ | exact zv_r | apply zv_add)); (case r1 => first | omega | ((simp (disch := omega) only [zU_c, zU_e, zU_k, zF_c, zF_i, zF_o, zW_o, zW_i, zC_c, zC_i, zC_o]); omega)); (case r2 => first | omega | ((simp (disch := omega) only [zU_c, zU_e, zU_k, zF_c, zF_i, zF_o, zW_o, zW_i, zC_c, zC_i, zC_o]); omega)); (case r3 => first | omega | ((simp (disch := omega) only [zU_c, zU_e, zU_k, zF_c, zF_i, zF_o, zW_o, zW_i, zC_c, zC_i, zC_o]); omega)); (case a1 => assumption); intro _ _ _))
  exact ⟨_, _, rfl, by rw [zE_iff (zCe_W.trans hce)], zFr_W (zFr_W (zFr_W (zFr_r _ _) (by omega)) (by omega)) (by omega)⟩
theorem zPq_S {m m1 : zMe} {t : Int} {b : Nat} (hS : zSame m m1 3) : zPq m1 t b ↔ zPq m t b := by
  have hF : zFr1 m1 3 t = zFr1 m 3 t := by
    funext u
    unfold zFr1
    rw [zRe_S hS, zPt_S hS]
  unfold zPq zGl
  simp only [hF, zLs_S hS, hS 3 (by omega) (by omega), hS (3 + 4) (by omega) (by omega), hS (3 + 5) (by omega) (by omega)]
theorem zLs_memI {m : zMe} {r : Nat} {t : Int} {n k : Nat} : k ∈ zLs m r t n ↔ k < n ∧ m (r + 7) (k : Int) = -1 ∧ ¬ m (r + 4) (k : Int) = t ∧ ¬ m (r + 5) (k : Int) = t := by
  constructor
  · exact zLs_in
  · intro h
    induction n with
    | zero => exact absurd h.1 (by omega)
    | succ n ih =>
      have e : zLs m r t (n + 1) = if m (r + 7) (n : Int) = -1 ∧ (¬ m (r + 4) (n : Int) = t ∧ ¬ m (r + 5) (n : Int) = t) then zLs m r t n ++ [n] else zLs m r t n := rfl
      rw [e]
      by_cases hk : k = n
      · subst hk
        rw [if_pos ⟨h.2.1, h.2.2⟩]
        simp
      · have := ih ⟨by omega, h.2⟩
        split
        · exact List.mem_append_left _ this
        · exact this
/-- what pattern tells -/
def zPe (m : zMe) (t y : Int) : Prop := (¬ (0 ≤ t ∧ t < m 3 0) ∧ y = -2) ∨ ((0 ≤ t ∧ t < m 3 0) ∧ zMn (zPp m t) y)
theorem zPe_u {m : zMe} {t y y' : Int} (h1 : zPe m t y) (h2 : zPe m t y') : y = y' := by
  rcases h1 with ⟨h, rfl⟩ | ⟨h, hz⟩
  · rcases h2 with ⟨g, rfl⟩ | ⟨g, hz⟩
    · rfl
    · exact absurd g h
  · rcases h2 with ⟨g, rfl⟩ | ⟨g, hz'⟩
    · exact absurd h g
    · exact zMn_u hz hz'
theorem s6_patternE {m : zMe} {e : Int32} {t : Int} (e1 : e = zI t) (r1 : -2147483648 ≤ t ∧ t < 2147483648) (a1 : zWf m 3) : zOk (f_X6_pattern 0 e (zM m)) (fun v m1 => (∃ y, v = zI y ∧ zPe m t y) ∧ zFr 19 m m1) := by
  subst e1
  have hG : zG 3 := Or.inl rfl
  have hT := a1.1.1
  have hN := a1.1.2.1
  unfold f_X6_pattern
  (first
    | (with_reducible apply z_nm; (case he => repeat (with_reducible first | exact zv_l _ | exact zv_r | apply zv_add | apply zv_neg | apply zv_and | apply zv_xor)))
    | (with_reducible apply z_b_ck; (case h => with_unfolding_all rfl))
    | (with_reducible apply z_b_R; (case h => first | with_unfolding_all rfl))
    | (with_reducible apply z_0hasTeam; (case a1 => assumption); (case e1 => repeat (with_reducible first | exact zv_l _ | exact zv_r | apply zv_add | apply zv_neg | apply zv_and | apply zv_xor)); (case r1 => first | omega | ((simp (disch := omega) only [zU_c, zU_e, zU_k, zF_c, zF_i, zF_o, zW_o, zW_i, zC_c, zC_i, zC_o]); omega)); (case r2 => first | omega | ((simp (disch := omega) only [zU_c, zU_e, zU_k, zF_c, zF_i, zF_o, zW_o, zW_i, zC_c, zC_i, zC_o]); omega)))
    | (with_reducible apply z_0left; (case a1 => assumption); (case r1 => first | omega | ((simp (disch := omega) only [zU_c, zU_e, zU_k, zF_c, zF_i, zF_o, zW_o, zW_i, zC_c, zC_i, zC_o]); omega)); (case a2 => assumption))
    | (with_reducible apply z_0leftOf; (case a1 => assumption); (case e1 => repeat (with_reducible first | exact zv_l _ | exact zv_r | apply zv_add | apply zv_neg | apply zv_and | apply zv_xor)); (case r2 => first | omega | ((simp (disch := omega) only [zU_c, zU_e, zU_k, zF_c, zF_i, zF_o, zW_o, zW_i, zC_c, zC_i, zC_o]); omega)); (case r1 => first | omega | ((simp (disch := omega) only [zU_c, zU_e, zU_k, zF_c, zF_i, zF_o, zW_o, zW_i, zC_c, zC_i, zC_o]); omega)); (case a2 => assumption))
    | (with_reducible apply z_6fewestFor; (case e4 => repeat (with_reducible first | exact zv_l _ | exact zv_r | apply zv_add | apply zv_neg | apply zv_and | apply zv_xor)); (case e5 => repeat (with_reducible first | exact zv_l _ | exact zv_r | apply zv_add | apply zv_neg | apply zv_and | apply zv_xor)); (case e6 => repeat (with_reducible first | exact zv_l _ | exact zv_r | apply zv_add | apply zv_neg | apply zv_and | apply zv_xor)); (case r1 => first | omega | ((simp (disch := omega) only [zU_c, zU_e, zU_k, zF_c, zF_i, zF_o, zW_o, zW_i, zC_c, zC_i, zC_o]); omega)); (case r2 => first | omega | ((simp (disch := omega) only [zU_c, zU_e, zU_k, zF_c, zF_i, zF_o, zW_o, zW_i, zC_c, zC_i, zC_o]); omega)); (case r3 => first | omega | ((simp (disch := omega) only [zU_c, zU_e, zU_k, zF_c, zF_i, zF_o, zW_o, zW_i, zC_c, zC_i, zC_o]); omega)); (case a1 => assumption); intro _ _ _)
    | (with_reducible apply z_6pattern; (case e1 => repeat (with_reducible first | exact zv_l _ | exact zv_r | apply zv_add | apply zv_neg | apply zv_and | apply zv_xor)); (case r1 => first | omega | ((simp (disch := omega) only [zU_c, zU_e, zU_k, zF_c, zF_i, zF_o, zW_o, zW_i, zC_c, zC_i, zC_o]); omega)); (case a1 => assumption); intro _ _ _))
  (first
    | (with_reducible apply z_nm; (case he => repeat (with_reducible first | exact zv_l _ | exact zv_r | apply zv_add | apply zv_neg | apply zv_and | apply zv_xor)))
    | (with_reducible apply z_b_ck; (case h => with_unfolding_all rfl))
    | (with_reducible apply z_b_R; (case h => first | with_unfolding_all rfl))
    | (with_reducible apply z_0hasTeam; (case a1 => assumption); (case e1 => repeat (with_reducible first | exact zv_l _ | exact zv_r | apply zv_add | apply zv_neg | apply zv_and | apply zv_xor)); (case r1 => first | omega | ((simp (disch := omega) only [zU_c, zU_e, zU_k, zF_c, zF_i, zF_o, zW_o, zW_i, zC_c, zC_i, zC_o]); omega)); (case r2 => first | omega | ((simp (disch := omega) only [zU_c, zU_e, zU_k, zF_c, zF_i, zF_o, zW_o, zW_i, zC_c, zC_i, zC_o]); omega)))
    | (with_reducible apply z_0left; (case a1 => assumption); (case r1 => first | omega | ((simp (disch := omega) only [zU_c, zU_e, zU_k, zF_c, zF_i, zF_o, zW_o, zW_i, zC_c, zC_i, zC_o]); omega)); (case a2 => assumption))
    | (with_reducible apply z_0leftOf; (case a1 => assumption); (case e1 => repeat (with_reducible first | exact zv_l _ | exact zv_r | apply zv_add | apply zv_neg | apply zv_and | apply zv_xor)); (case r2 => first | omega | ((simp (disch := omega) only [zU_c, zU_e, zU_k, zF_c, zF_i, zF_o, zW_o, zW_i, zC_c, zC_i, zC_o]); omega)); (case r1 => first | omega | ((simp (disch := omega) only [zU_c, zU_e, zU_k, zF_c, zF_i, zF_o, zW_o, zW_i, zC_c, zC_i, zC_o]); omega)); (case a2 => assumption))
    | (with_reducible apply z_6fewestFor; (case e4 => repeat (with_reducible first | exact zv_l _ | exact zv_r | apply zv_add | apply zv_neg | apply zv_and | apply zv_xor)); (case e5 => repeat (with_reducible first | exact zv_l _ | exact zv_r | apply zv_add | apply zv_neg | apply zv_and | apply zv_xor)); (case e6 => repeat (with_reducible first | exact zv_l _ | exact zv_r | apply zv_add | apply zv_neg | apply zv_and | apply zv_xor)); (case r1 => first | omega | ((simp (disch := omega) only [zU_c, zU_e, zU_k, zF_c, zF_i, zF_o, zW_o, zW_i, zC_c, zC_i, zC_o]); omega)); (case r2 => first | omega | ((simp (disch := omega) only [zU_c, zU_e, zU_k, zF_c, zF_i, zF_o, zW_o, zW_i, zC_c, zC_i, zC_o]); omega)); (case r3 => first | omega | ((simp (disch := omega) only [zU_c, zU_e, zU_k, zF_c, zF_i, zF_o, zW_o, zW_i, zC_c, zC_i, zC_o]); omega)); (case a1 => assumption); intro _ _ _)
    | (with_reducible apply z_6pattern; (case e1 => repeat (with_reducible first | exact zv_l _ | exact zv_r | apply zv_add | apply zv_neg | apply zv_and | apply zv_xor)); (case r1 => first | omega | ((simp (disch := omega) only [zU_c, zU_e, zU_k, zF_c, zF_i, zF_o, zW_o, zW_i, zC_c, zC_i, zC_o]); omega)); (case a1 => assumption); intro _ _ _))
  (first
    | (with_reducible apply z_nm; (case he => repeat (with_reducible first | exact zv_l _ | exact zv_r | apply zv_add | apply zv_neg | apply zv_and | apply zv_xor)))
    | (with_reducible apply z_b_ck; (case h => with_unfolding_all rfl))
    | (with_reducible apply z_b_R; (case h => first | with_unfolding_all rfl))
    | (with_reducible apply z_0hasTeam; (case a1 => assumption); (case e1 => repeat (with_reducible first | exact zv_l _ | exact zv_r | apply zv_add | apply zv_neg | apply zv_and | apply zv_xor)); (case r1 => first | omega | ((simp (disch := omega) only [zU_c, zU_e, zU_k, zF_c, zF_i, zF_o, zW_o, zW_i, zC_c, zC_i, zC_o]); omega)); (case r2 => first | omega | ((simp (disch := omega) only [zU_c, zU_e, zU_k, zF_c, zF_i, zF_o, zW_o, zW_i, zC_c, zC_i, zC_o]); omega)))
    | (with_reducible apply z_0left; (case a1 => assumption); (case r1 => first | omega | ((simp (disch := omega) only [zU_c, zU_e, zU_k, zF_c, zF_i, zF_o, zW_o, zW_i, zC_c, zC_i, zC_o]); omega)); (case a2 => assumption))
    | (with_reducible apply z_0leftOf; (case a1 => assumption); (case e1 => repeat (with_reducible first | exact zv_l _ | exact zv_r | apply zv_add | apply zv_neg | apply zv_and | apply zv_xor)); (case r2 => first | omega | ((simp (disch := omega) only [zU_c, zU_e, zU_k, zF_c, zF_i, zF_o, zW_o, zW_i, zC_c, zC_i, zC_o]); omega)); (case r1 => first | omega | ((simp (disch := omega) only [zU_c, zU_e, zU_k, zF_c, zF_i, zF_o, zW_o, zW_i, zC_c, zC_i, zC_o]); omega)); (case a2 => assumption))
    | (with_reducible apply z_6fewestFor; (case e4 => repeat (with_reducible first | exact zv_l _ | exact zv_r | apply zv_add | apply zv_neg | apply zv_and | apply zv_xor)); (case e5 => repeat (with_reducible first | exact zv_l _ | exact zv_r | apply zv_add | apply zv_neg | apply zv_and | apply zv_xor)); (case e6 => repeat (with_reducible first | exact zv_l _ | exact zv_r | apply zv_add | apply zv_neg | apply zv_and | apply zv_xor)); (case r1 => first | omega | ((simp (disch := omega) only [zU_c, zU_e, zU_k, zF_c, zF_i, zF_o, zW_o, zW_i, zC_c, zC_i, zC_o]); omega)); (case r2 => first | omega | ((simp (disch := omega) only [zU_c, zU_e, zU_k, zF_c, zF_i, zF_o, zW_o, zW_i, zC_c, zC_i, zC_o]); omega)); (case r3 => first | omega | ((simp (disch := omega) only [zU_c, zU_e, zU_k, zF_c, zF_i, zF_o, zW_o, zW_i, zC_c, zC_i, zC_o]); omega)); (case a1 => assumption); intro _ _ _)
    | (with_reducible apply z_6pattern; (case e1 => repeat (with_reducible first | exact zv_l _ | exact zv_r | apply zv_add | apply zv_neg | apply zv_and | apply zv_xor)); (case r1 => first | omega | ((simp (disch := omega) only [zU_c, zU_e, zU_k, zF_c, zF_i, zF_o, zW_o, zW_i, zC_c, zC_i, zC_o]); omega)); (case a1 => assumption); intro _ _ _))
  refine z_B (fun hq => ?_) (fun hq => ?_)
  · exact ⟨_, _, rfl, ⟨-2, rfl, Or.inl ⟨hq, rfl⟩⟩, zFr_r _ _⟩
  · (first
    | (with_reducible apply z_nm; (case he => repeat (with_reducible first | exact zv_l _ | exact zv_r | apply zv_add | apply zv_neg | apply zv_and | apply zv_xor)))
    | (with_reducible apply z_b_ck; (case h => with_unfolding_all rfl))
    | (with_reducible apply z_b_R; (case h => first | with_unfolding_all rfl))
    | (with_reducible apply z_0hasTeam; (case a1 => assumption); (case e1 => repeat (with_reducible first | exact zv_l _ | exact zv_r | apply zv_add | apply zv_neg | apply zv_and | apply zv_xor)); (case r1 => first | omega | ((simp (disch := omega) only [zU_c, zU_e, zU_k, zF_c, zF_i, zF_o, zW_o, zW_i, zC_c, zC_i, zC_o]); omega)); (case r2 => first | omega | ((simp (disch := omega) only [zU_c, zU_e, zU_k, zF_c, zF_i, zF_o, zW_o, zW_i, zC_c, zC_i, zC_o]); omega)))
    | (with_reducible apply z_0left; (case a1 => assumption); (case r1 => first | omega | ((simp (disch := omega) only [zU_c, zU_e, zU_k, zF_c, zF_i, zF_o, zW_o, zW_i, zC_c, zC_i, zC_o]); omega)); (case a2 => assumption))
    | (with_reducible apply z_0leftOf; (case a1 => assumption); (case e1 => repeat (with_reducible first | exact zv_l _ | exact zv_r | apply zv_add | apply zv_neg | apply zv_and | apply zv_xor)); (case r2 => first | omega | ((simp (disch := omega) only [zU_c, zU_e, zU_k, zF_c, zF_i, zF_o, zW_o, zW_i, zC_c, zC_i, zC_o]); omega)); (case r1 => first | omega | ((simp (disch := omega) only [zU_c, zU_e, zU_k, zF_c, zF_i, zF_o, zW_o, zW_i, zC_c, zC_i, zC_o]); omega)); (case a2 => assumption))
    | (with_reducible apply z_6fewestFor; (case e4 => repeat (with_reducible first | exact zv_l _ | exact zv_r | apply zv_add | apply zv_neg | apply zv_and | apply zv_xor)); (case e5 => repeat (with_reducible first | exact zv_l _ | exact zv_r | apply zv_add | apply zv_neg | apply zv_and | apply zv_xor)); (case e6 => repeat (with_reducible first | exact zv_l _ | exact zv_r | apply zv_add | apply zv_neg | apply zv_and | apply zv_xor)); (case r1 => first | omega | ((simp (disch := omega) only [zU_c, zU_e, zU_k, zF_c, zF_i, zF_o, zW_o, zW_i, zC_c, zC_i, zC_o]); omega)); (case r2 => first | omega | ((simp (disch := omega) only [zU_c, zU_e, zU_k, zF_c, zF_i, zF_o, zW_o, zW_i, zC_c, zC_i, zC_o]); omega)); (case r3 => first | omega | ((simp (disch := omega) only [zU_c, zU_e, zU_k, zF_c, zF_i, zF_o, zW_o, zW_i, zC_c, zC_i, zC_o]); omega)); (case a1 => assumption); intro _ _ _)
    | (with_reducible apply z_6pattern; (case e1 => repeat (with_reducible first | exact zv_l _ | exact zv_r | apply zv_add | apply zv_neg | apply zv_and | apply zv_xor)); (case r1 => first | omega | ((simp (disch := omega) only [zU_c, zU_e, zU_k, zF_c, zF_i, zF_o, zW_o, zW_i, zC_c, zC_i, zC_o]); omega)); (case a1 => assumption); intro _ _ _))
    refine z_0left hG hN (fun k q0 q1 => (zWf_g2 a1 k q0 q1).1) ?_
    (first
    | (with_reducible apply z_nm; (case he => repeat (with_reducible first | exact zv_l _ | exact zv_r | apply zv_add | apply zv_neg | apply zv_and | apply zv_xor)))
    | (with_reducible apply z_b_ck; (case h => with_unfolding_all rfl))
    | (with_reducible apply z_b_R; (case h => first | with_unfolding_all rfl))
    | (with_reducible apply z_0hasTeam; (case a1 => assumption); (case e1 => repeat (with_reducible first | exact zv_l _ | exact zv_r | apply zv_add | apply zv_neg | apply zv_and | apply zv_xor)); (case r1 => first | omega | ((simp (disch := omega) only [zU_c, zU_e, zU_k, zF_c, zF_i, zF_o, zW_o, zW_i, zC_c, zC_i, zC_o]); omega)); (case r2 => first | omega | ((simp (disch := omega) only [zU_c, zU_e, zU_k, zF_c, zF_i, zF_o, zW_o, zW_i, zC_c, zC_i, zC_o]); omega)))
    | (with_reducible apply z_0left; (case a1 => assumption); (case r1 => first | omega | ((simp (disch := omega) only [zU_c, zU_e, zU_k, zF_c, zF_i, zF_o, zW_o, zW_i, zC_c, zC_i, zC_o]); omega)); (case a2 => assumption))
    | (with_reducible apply z_0leftOf; (case a1 => assumption); (case e1 => repeat (with_reducible first | exact zv_l _ | exact zv_r | apply zv_add | apply zv_neg | apply zv_and | apply zv_xor)); (case r2 => first | omega | ((simp (disch := omega) only [zU_c, zU_e, zU_k, zF_c, zF_i, zF_o, zW_o, zW_i, zC_c, zC_i, zC_o]); omega)); (case r1 => first | omega | ((simp (disch := omega) only [zU_c, zU_e, zU_k, zF_c, zF_i, zF_o, zW_o, zW_i, zC_c, zC_i, zC_o]); omega)); (case a2 => assumption))
    | (with_reducible apply z_6fewestFor; (case e4 => repeat (with_reducible first | exact zv_l _ | exact zv_r | apply zv_add | apply zv_neg | apply zv_and | apply zv_xor)); (case e5 => repeat (with_reducible first | exact zv_l _ | exact zv_r | apply zv_add | apply zv_neg | apply zv_and | apply zv_xor)); (case e6 => repeat (with_reducible first | exact zv_l _ | exact zv_r | apply zv_add | apply zv_neg | apply zv_and | apply zv_xor)); (case r1 => first | omega | ((simp (disch := omega) only [zU_c, zU_e, zU_k, zF_c, zF_i, zF_o, zW_o, zW_i, zC_c, zC_i, zC_o]); omega)); (case r2 => first | omega | ((simp (disch := omega) only [zU_c, zU_e, zU_k, zF_c, zF_i, zF_o, zW_o, zW_i, zC_c, zC_i, zC_o]); omega)); (case r3 => first | omega | ((simp (disch := omega) only [zU_c, zU_e, zU_k, zF_c, zF_i, zF_o, zW_o, zW_i, zC_c, zC_i, zC_o]); omega)); (case a1 => assumption); intro _ _ _)
    | (with_reducible apply z_6pattern; (case e1 => repeat (with_reducible first | exact zv_l _ | exact zv_r | apply zv_add | apply zv_neg | apply zv_and | apply zv_xor)); (case r1 => first | omega | ((simp (disch := omega) only [zU_c, zU_e, zU_k, zF_c, zF_i, zF_o, zW_o, zW_i, zC_c, zC_i, zC_o]); omega)); (case a1 => assumption); intro _ _ _))
    refine z_0leftOf hG rfl (by omega) hN (zWf_g2 a1) ?_
    obtain ⟨b, hb, eb, hbit⟩ := zAndN (x := zLeft m 3) (w := zOwn m 3 t) (zLeft_lt (m := m) (r := 3) hN) (zOwn_lt hN)
    have eset : zI (zLeft m 3 : Nat) &&& (zI (zOwn m 3 t : Nat) ^^^ (-1 : Int32)) = zI (b : Int) := by
      rw [← eb]
      exact zv_and rfl (zv_xor rfl rfl)
    rw [eset]
    have hwi : ∀ k, b.testBit k = true ↔ k ∈ zLs m 3 t (m 3 1).toNat := fun k => by
      rw [hbit, zLs_memI]
      unfold zLeft zOwn
      rw [zBn_bit, zBn_bit]
      by_cases q0 : k < (m 3 1).toNat <;> by_cases q1 : m (3 + 7) (k : Int) = -1 <;> by_cases q2 : m (3 + 4) (k : Int) = t <;> by_cases q3 : m (3 + 5) (k : Int) = t <;> simp [q0, q1, q2, q3]
    refine z_call (s6_fewE (d := 1) (S := fun b => zCw m 3 t ∧ zPq m t b) hq hb a1 (fun hcw m3 c hF3 hc _ => ?_) (fun _ _ _ h => h.1)) (fun v m1 hv => ?_)
    · have hS3 : zSame m m3 3 := zFr_S hF3 (by omega)
      refine (s6_suf1 (by rw [hS3 3 (by omega) (by omega)]; exact hq) hc (zWf_S hS3 a1)).mono (fun v m1 h => ?_)
      have hi : zPq m3 t c ↔ (zCw m 3 t ∧ zPq m t c) := ⟨fun q => ⟨hcw, (zPq_S hS3).mp q⟩, fun q => (zPq_S hS3).mpr q.2⟩
      exact ⟨by rw [h.1, zE_iff hi], h.2⟩
    · obtain ⟨⟨z, rfl, hz⟩, hF⟩ := hv
      exact ⟨_, _, rfl, ⟨z, rfl, Or.inr ⟨hq, zPp_w a1 hq hwi hz⟩⟩, zFr_19 hF (by omega)⟩
