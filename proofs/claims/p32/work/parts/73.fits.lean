/-! Race: the whole search -/
theorem zSv_s (o p : Int → Int) (W D dr : Int) (n : Nat) (f : Int → Int) (i : Int) : zSv o p W D dr (n + 1) f i = (match (if W ≤ f (o i) then (zSv o p W D dr n (zSub f (o i) W) (i + 1)).map (fun l => 1 :: l) else none) with
    | some l => some l
    | none => if zNd o p W (o i) (n + 1) i ≤ f (o i) then none else
      match (if W ≤ f (p i) then (zSv o p W D dr n (zSub f (p i) W) (i + 1)).map (fun l => 2 :: l) else none) with
      | some l => some l
      | none => if dr = 0 then none else if zNd o p W (p i) (n + 1) i ≤ f (p i) then none else if D ≤ f (o i) ∧ D ≤ f (p i) then (zSv o p W D dr n (zSub (zSub f (o i) D) (p i) D) (i + 1)).map (fun l => 0 :: l) else none) := rfl
/-- the search leaves but picks from i on -/
def zPk (m m1 : zMe) (i : Int) : Prop := ∃ w, m1 = zW m 35 35 w ∧ ∀ j, j < i → w 35 j = m 35 j
theorem zPk_t {m m1 m2 : zMe} {i : Int} (h1 : zPk m m1 i) (h2 : zPk m1 m2 i) : zPk m m2 i := by
  obtain ⟨w, rfl, hw⟩ := h1
  obtain ⟨w', rfl, hw'⟩ := h2
  refine ⟨w', ?_, fun j hj => ?_⟩
  · funext c j
    unfold zW
    split <;> rfl
  · rw [hw' j hj, zW_i (by omega), hw j hj]
theorem zPk_c {m m1 : zMe} {i : Int} (h : zPk m m1 i) {c : Nat} (hc : ¬ c = 35) : m1 c = m c := by
  obtain ⟨w, rfl, -⟩ := h
  funext j
  exact zW_o (by omega)
theorem zRc_Pk {m m1 : zMe} {i : Int} (h : zPk m m1 i) (hR : zRc m) : zRc m1 := by
  unfold zRc at hR ⊢
  rw [zPk_c h (c := 30) (by omega), zPk_c h (c := 31) (by omega), zPk_c h (c := 32) (by omega), zPk_c h (c := 33) (by omega)]
  exact hR
theorem zPo_none {m : zMe} {i : Int} {m1 : zMe} (h : zPk m m1 i) : zPo m i none (zI (zB (False))) m1 := by
  obtain ⟨w, rfl, hw⟩ := h
  exact ⟨w, rfl, hw, rfl, fun l hl => by cases hl⟩
theorem zPo_pk {m m1 m2 : zMe} {i : Int} {sol : Option (List Int)} {v : Int32} (h : zPk m m1 i) (h2 : zPo m1 i sol v m2) : zPo m i sol v m2 := by
  obtain ⟨w', rfl, hw', e, hl⟩ := h2
  obtain ⟨w, hm, hw⟩ := zPk_t h ⟨w', rfl, hw'⟩
  refine ⟨w, hm, hw, e, fun l q j hj => ?_⟩
  have := congrFun (congrFun hm 35) (i + j)
  rw [zW_i (by omega), zW_i (by omega)] at this
  rw [← this]
  exact hl l q j hj
set_option maxRecDepth 100000 in
set_option maxHeartbeats 2000000 in
theorem s1_fits_r {m : zMe} {ks : Nat × Int32 → Hp → Option (Int32 × Hp)} {i : Int} (h : zRc m) (hi : 0 ≤ i ∧ i ≤ m 30 5) (hk : ∀ m', zRc m' → m' 30 5 = m 30 5 → i < m 30 5 → zOk (ks (30, zI (i + 1)) (zM m')) (zPo m' (i + 1) (zSo1 m' (i + 1)))) : zOk (f_X1_fits_r ks 30 (zI i) (zM m)) (zPo m i (zSo1 m i)) := by
  have hc := id h
  obtain ⟨hS, hW, hD, hdr, hg, hf⟩ := hc
  unfold f_X1_fits_r
  (first
    | (with_reducible apply z_nm; (case he => repeat (with_reducible first | exact zv_l _ | exact zv_r | apply zv_add | apply zv_sub)))
    | (with_reducible apply z_b_ck; (case h => with_unfolding_all rfl))
    | (with_reducible apply z_I; (case h => first | with_unfolding_all rfl); (case hy => first | ((simp (disch := omega) only [zU_c, zU_e, zU_k, zF_c, zF_i, zF_o, zW_o, zW_i, zC_c, zC_i, zC_o]); rfl) | rfl))
    | (with_reducible apply z_b_R; (case h => first | with_unfolding_all rfl))
    | (with_reducible apply z_L; (case he => repeat (with_reducible first | exact zv_l _ | exact zv_r | apply zv_add | apply zv_sub)); (case hn => with_reducible first | assumption | exact zl_2 | exact zl_5 | exact zl_6 | exact zl_7 | exact zl_8 | exact zl_31 | exact zl_32 | exact zl_33); (case h => omega); (case hy => first | ((simp (disch := omega) only [zU_c, zU_e, zU_k, zF_c, zF_i, zF_o, zW_o, zW_i, zC_c, zC_i, zC_o]); rfl) | rfl))
    | with_reducible refine z_bz ?_
    | with_reducible refine z_bzE ?_
    | (with_reducible apply z_bzl; (case h => omega))
    | (with_reducible apply z_1hasRoomForAll; (case e1 => repeat (with_reducible first | exact zv_l _ | exact zv_r | apply zv_add | apply zv_sub)); (case e2 => repeat (with_reducible first | exact zv_l _ | exact zv_r | apply zv_add | apply zv_sub)); (case a1 => assumption); (case r1 => first | omega | ((simp (disch := omega) only [zU_c, zU_e, zU_k, zF_c, zF_i, zF_o, zW_o, zW_i, zC_c, zC_i, zC_o]); omega)); (case r2 => first | omega | ((simp (disch := omega) only [zU_c, zU_e, zU_k, zF_c, zF_i, zF_o, zW_o, zW_i, zC_c, zC_i, zC_o]); omega))))
  (first
    | (with_reducible apply z_nm; (case he => repeat (with_reducible first | exact zv_l _ | exact zv_r | apply zv_add | apply zv_sub)))
    | (with_reducible apply z_b_ck; (case h => with_unfolding_all rfl))
    | (with_reducible apply z_I; (case h => first | with_unfolding_all rfl); (case hy => first | ((simp (disch := omega) only [zU_c, zU_e, zU_k, zF_c, zF_i, zF_o, zW_o, zW_i, zC_c, zC_i, zC_o]); rfl) | rfl))
    | (with_reducible apply z_b_R; (case h => first | with_unfolding_all rfl))
    | (with_reducible apply z_L; (case he => repeat (with_reducible first | exact zv_l _ | exact zv_r | apply zv_add | apply zv_sub)); (case hn => with_reducible first | assumption | exact zl_2 | exact zl_5 | exact zl_6 | exact zl_7 | exact zl_8 | exact zl_31 | exact zl_32 | exact zl_33); (case h => omega); (case hy => first | ((simp (disch := omega) only [zU_c, zU_e, zU_k, zF_c, zF_i, zF_o, zW_o, zW_i, zC_c, zC_i, zC_o]); rfl) | rfl))
    | with_reducible refine z_bz ?_
    | with_reducible refine z_bzE ?_
    | (with_reducible apply z_bzl; (case h => omega))
    | (with_reducible apply z_1hasRoomForAll; (case e1 => repeat (with_reducible first | exact zv_l _ | exact zv_r | apply zv_add | apply zv_sub)); (case e2 => repeat (with_reducible first | exact zv_l _ | exact zv_r | apply zv_add | apply zv_sub)); (case a1 => assumption); (case r1 => first | omega | ((simp (disch := omega) only [zU_c, zU_e, zU_k, zF_c, zF_i, zF_o, zW_o, zW_i, zC_c, zC_i, zC_o]); omega)); (case r2 => first | omega | ((simp (disch := omega) only [zU_c, zU_e, zU_k, zF_c, zF_i, zF_o, zW_o, zW_i, zC_c, zC_i, zC_o]); omega))))
  (first
    | (with_reducible apply z_B; all_goals (intro _; try (exfalso; omega)))
    | (with_reducible apply z_E; all_goals intro _)
    | (with_reducible apply z_lt; (case ha => repeat (with_reducible first | exact zv_l _ | exact zv_r | apply zv_add | apply zv_sub)); (case hb => repeat (with_reducible first | exact zv_l _ | exact zv_r | apply zv_add | apply zv_sub)); (case hx => omega); (case hy => omega); all_goals (intro _; try (exfalso; omega)))
    | (with_reducible apply z_le; (case ha => repeat (with_reducible first | exact zv_l _ | exact zv_r | apply zv_add | apply zv_sub)); (case hb => repeat (with_reducible first | exact zv_l _ | exact zv_r | apply zv_add | apply zv_sub)); (case hx => omega); (case hy => omega); all_goals (intro _; try (exfalso; omega)))
    | (with_reducible apply z_eq; (case ha => repeat (with_reducible first | exact zv_l _ | exact zv_r | apply zv_add | apply zv_sub)); (case hb => repeat (with_reducible first | exact zv_l _ | exact zv_r | apply zv_add | apply zv_sub)); (case hx => omega); (case hy => omega); all_goals (intro _; try (exfalso; omega))))
  · rename_i hlt
    obtain ⟨g1, g2, g3⟩ := hg i hi.1 hlt
    obtain ⟨q, eq⟩ : ∃ q, (m 30 5 - i).toNat = q + 1 := ⟨(m 30 5 - i).toNat - 1, by omega⟩
    have eq2 : (m 30 5 - (i + 1)).toNat = q := by omega
    (first
    | (with_reducible apply z_nm; (case he => repeat (with_reducible first | exact zv_l _ | exact zv_r | apply zv_add | apply zv_sub)))
    | (with_reducible apply z_b_ck; (case h => with_unfolding_all rfl))
    | (with_reducible apply z_I; (case h => first | with_unfolding_all rfl); (case hy => first | ((simp (disch := omega) only [zU_c, zU_e, zU_k, zF_c, zF_i, zF_o, zW_o, zW_i, zC_c, zC_i, zC_o]); rfl) | rfl))
    | (with_reducible apply z_b_R; (case h => first | with_unfolding_all rfl))
    | (with_reducible apply z_L; (case he => repeat (with_reducible first | exact zv_l _ | exact zv_r | apply zv_add | apply zv_sub)); (case hn => with_reducible first | assumption | exact zl_2 | exact zl_5 | exact zl_6 | exact zl_7 | exact zl_8 | exact zl_31 | exact zl_32 | exact zl_33); (case h => omega); (case hy => first | ((simp (disch := omega) only [zU_c, zU_e, zU_k, zF_c, zF_i, zF_o, zW_o, zW_i, zC_c, zC_i, zC_o]); rfl) | rfl))
    | with_reducible refine z_bz ?_
    | with_reducible refine z_bzE ?_
    | (with_reducible apply z_bzl; (case h => omega))
    | (with_reducible apply z_1hasRoomForAll; (case e1 => repeat (with_reducible first | exact zv_l _ | exact zv_r | apply zv_add | apply zv_sub)); (case e2 => repeat (with_reducible first | exact zv_l _ | exact zv_r | apply zv_add | apply zv_sub)); (case a1 => assumption); (case r1 => first | omega | ((simp (disch := omega) only [zU_c, zU_e, zU_k, zF_c, zF_i, zF_o, zW_o, zW_i, zC_c, zC_i, zC_o]); omega)); (case r2 => first | omega | ((simp (disch := omega) only [zU_c, zU_e, zU_k, zF_c, zF_i, zF_o, zW_o, zW_i, zC_c, zC_i, zC_o]); omega))))
    (first
    | (with_reducible apply z_nm; (case he => repeat (with_reducible first | exact zv_l _ | exact zv_r | apply zv_add | apply zv_sub)))
    | (with_reducible apply z_b_ck; (case h => with_unfolding_all rfl))
    | (with_reducible apply z_I; (case h => first | with_unfolding_all rfl); (case hy => first | ((simp (disch := omega) only [zU_c, zU_e, zU_k, zF_c, zF_i, zF_o, zW_o, zW_i, zC_c, zC_i, zC_o]); rfl) | rfl))
    | (with_reducible apply z_b_R; (case h => first | with_unfolding_all rfl))
    | (with_reducible apply z_L; (case he => repeat (with_reducible first | exact zv_l _ | exact zv_r | apply zv_add | apply zv_sub)); (case hn => with_reducible first | assumption | exact zl_2 | exact zl_5 | exact zl_6 | exact zl_7 | exact zl_8 | exact zl_31 | exact zl_32 | exact zl_33); (case h => omega); (case hy => first | ((simp (disch := omega) only [zU_c, zU_e, zU_k, zF_c, zF_i, zF_o, zW_o, zW_i, zC_c, zC_i, zC_o]); rfl) | rfl))
    | with_reducible refine z_bz ?_
    | with_reducible refine z_bzE ?_
    | (with_reducible apply z_bzl; (case h => omega))
    | (with_reducible apply z_1hasRoomForAll; (case e1 => repeat (with_reducible first | exact zv_l _ | exact zv_r | apply zv_add | apply zv_sub)); (case e2 => repeat (with_reducible first | exact zv_l _ | exact zv_r | apply zv_add | apply zv_sub)); (case a1 => assumption); (case r1 => first | omega | ((simp (disch := omega) only [zU_c, zU_e, zU_k, zF_c, zF_i, zF_o, zW_o, zW_i, zC_c, zC_i, zC_o]); omega)); (case r2 => first | omega | ((simp (disch := omega) only [zU_c, zU_e, zU_k, zF_c, zF_i, zF_o, zW_o, zW_i, zC_c, zC_i, zC_o]); omega))))
    refine z_call (s1_won (x := m 32 i) (res := 1) h ⟨hi.1, hlt⟩ g1 (fun m' hm he => hk m' hm he hlt)) (fun v m1 hp => ?_)
    rw [eq2] at hp
    have eS : zSo1 m i = zSv (m 32) (m 33) (m 30 6) (m 30 7) (m 30 8) (q + 1) (m 31) i := by
      unfold zSo1
      rw [eq]
    rw [eS, zSv_s]
    cases hs1 : (if m 30 6 ≤ m 31 (m 32 i) then (zSv (m 32) (m 33) (m 30 6) (m 30 7) (m 30 8) q (zSub (m 31) (m 32 i) (m 30 6)) (i + 1)).map (fun l => 1 :: l) else none) with
    | some l =>
      rw [hs1] at hp
      have hv : v = zI 1 := by obtain ⟨w, -, -, e, -⟩ := hp; rw [e]; rfl
      subst hv
      refine z_eq (x := 1) (y := 0) rfl rfl (by omega) (by omega) (fun q => by exfalso; omega) (fun _ => ?_)
      exact ⟨_, _, rfl, hp⟩
    | none =>
      rw [hs1] at hp
      have hv : v = zI 0 := by obtain ⟨w, -, -, e, -⟩ := hp; rw [e]; rfl
      subst hv
      refine z_eq (x := 0) (y := 0) rfl rfl (by omega) (by omega) (fun _ => ?_) (fun q => absurd rfl q)
      have hp1 : zPk m m1 i := by obtain ⟨w, e, e2, -, -⟩ := hp; exact ⟨w, e, e2⟩
      have hR1 := zRc_Pk hp1 h
      have e30 := zPk_c hp1 (c := 30) (by omega)
      have e31 := zPk_c hp1 (c := 31) (by omega)
      have e32 := zPk_c hp1 (c := 32) (by omega)
      have e33 := zPk_c hp1 (c := 33) (by omega)
      dsimp only
      rw [← e30, ← e31, ← e32, ← e33]
      rw [← e30] at hi hlt eq eq2 hk
      rw [← e32] at g1 g3
      rw [← e33] at g2 g3
      refine zOk.mono ?_ (fun v m2 hq => zPo_pk hp1 hq)
      clear hp hs1 eS e30 e31 e32 e33 hp1
      clear hS hW hD hdr hg hf h m
      obtain ⟨hS, hW, hD, hdr, hg, hf⟩ := id hR1
      (first
    | (with_reducible apply z_nm; (case he => repeat (with_reducible first | exact zv_l _ | exact zv_r | apply zv_add | apply zv_sub)))
    | (with_reducible apply z_b_ck; (case h => with_unfolding_all rfl))
    | (with_reducible apply z_I; (case h => first | with_unfolding_all rfl); (case hy => first | ((simp (disch := omega) only [zU_c, zU_e, zU_k, zF_c, zF_i, zF_o, zW_o, zW_i, zC_c, zC_i, zC_o]); rfl) | rfl))
    | (with_reducible apply z_b_R; (case h => first | with_unfolding_all rfl))
    | (with_reducible apply z_L; (case he => repeat (with_reducible first | exact zv_l _ | exact zv_r | apply zv_add | apply zv_sub)); (case hn => with_reducible first | assumption | exact zl_2 | exact zl_5 | exact zl_6 | exact zl_7 | exact zl_8 | exact zl_31 | exact zl_32 | exact zl_33); (case h => omega); (case hy => first | ((simp (disch := omega) only [zU_c, zU_e, zU_k, zF_c, zF_i, zF_o, zW_o, zW_i, zC_c, zC_i, zC_o]); rfl) | rfl))
    | with_reducible refine z_bz ?_
    | with_reducible refine z_bzE ?_
    | (with_reducible apply z_bzl; (case h => omega))
    | (with_reducible apply z_1hasRoomForAll; (case e1 => repeat (with_reducible first | exact zv_l _ | exact zv_r | apply zv_add | apply zv_sub)); (case e2 => repeat (with_reducible first | exact zv_l _ | exact zv_r | apply zv_add | apply zv_sub)); (case a1 => assumption); (case r1 => first | omega | ((simp (disch := omega) only [zU_c, zU_e, zU_k, zF_c, zF_i, zF_o, zW_o, zW_i, zC_c, zC_i, zC_o]); omega)); (case r2 => first | omega | ((simp (disch := omega) only [zU_c, zU_e, zU_k, zF_c, zF_i, zF_o, zW_o, zW_i, zC_c, zC_i, zC_o]); omega))))
      (first
    | (with_reducible apply z_nm; (case he => repeat (with_reducible first | exact zv_l _ | exact zv_r | apply zv_add | apply zv_sub)))
    | (with_reducible apply z_b_ck; (case h => with_unfolding_all rfl))
    | (with_reducible apply z_I; (case h => first | with_unfolding_all rfl); (case hy => first | ((simp (disch := omega) only [zU_c, zU_e, zU_k, zF_c, zF_i, zF_o, zW_o, zW_i, zC_c, zC_i, zC_o]); rfl) | rfl))
    | (with_reducible apply z_b_R; (case h => first | with_unfolding_all rfl))
    | (with_reducible apply z_L; (case he => repeat (with_reducible first | exact zv_l _ | exact zv_r | apply zv_add | apply zv_sub)); (case hn => with_reducible first | assumption | exact zl_2 | exact zl_5 | exact zl_6 | exact zl_7 | exact zl_8 | exact zl_31 | exact zl_32 | exact zl_33); (case h => omega); (case hy => first | ((simp (disch := omega) only [zU_c, zU_e, zU_k, zF_c, zF_i, zF_o, zW_o, zW_i, zC_c, zC_i, zC_o]); rfl) | rfl))
    | with_reducible refine z_bz ?_
    | with_reducible refine z_bzE ?_
    | (with_reducible apply z_bzl; (case h => omega))
    | (with_reducible apply z_1hasRoomForAll; (case e1 => repeat (with_reducible first | exact zv_l _ | exact zv_r | apply zv_add | apply zv_sub)); (case e2 => repeat (with_reducible first | exact zv_l _ | exact zv_r | apply zv_add | apply zv_sub)); (case a1 => assumption); (case r1 => first | omega | ((simp (disch := omega) only [zU_c, zU_e, zU_k, zF_c, zF_i, zF_o, zW_o, zW_i, zC_c, zC_i, zC_o]); omega)); (case r2 => first | omega | ((simp (disch := omega) only [zU_c, zU_e, zU_k, zF_c, zF_i, zF_o, zW_o, zW_i, zC_c, zC_i, zC_o]); omega))))
      (first
    | (with_reducible apply z_nm; (case he => repeat (with_reducible first | exact zv_l _ | exact zv_r | apply zv_add | apply zv_sub)))
    | (with_reducible apply z_b_ck; (case h => with_unfolding_all rfl))
    | (with_reducible apply z_I; (case h => first | with_unfolding_all rfl); (case hy => first | ((simp (disch := omega) only [zU_c, zU_e, zU_k, zF_c, zF_i, zF_o, zW_o, zW_i, zC_c, zC_i, zC_o]); rfl) | rfl))
    | (with_reducible apply z_b_R; (case h => first | with_unfolding_all rfl))
    | (with_reducible apply z_L; (case he => repeat (with_reducible first | exact zv_l _ | exact zv_r | apply zv_add | apply zv_sub)); (case hn => with_reducible first | assumption | exact zl_2 | exact zl_5 | exact zl_6 | exact zl_7 | exact zl_8 | exact zl_31 | exact zl_32 | exact zl_33); (case h => omega); (case hy => first | ((simp (disch := omega) only [zU_c, zU_e, zU_k, zF_c, zF_i, zF_o, zW_o, zW_i, zC_c, zC_i, zC_o]); rfl) | rfl))
    | with_reducible refine z_bz ?_
    | with_reducible refine z_bzE ?_
    | (with_reducible apply z_bzl; (case h => omega))
    | (with_reducible apply z_1hasRoomForAll; (case e1 => repeat (with_reducible first | exact zv_l _ | exact zv_r | apply zv_add | apply zv_sub)); (case e2 => repeat (with_reducible first | exact zv_l _ | exact zv_r | apply zv_add | apply zv_sub)); (case a1 => assumption); (case r1 => first | omega | ((simp (disch := omega) only [zU_c, zU_e, zU_k, zF_c, zF_i, zF_o, zW_o, zW_i, zC_c, zC_i, zC_o]); omega)); (case r2 => first | omega | ((simp (disch := omega) only [zU_c, zU_e, zU_k, zF_c, zF_i, zF_o, zW_o, zW_i, zC_c, zC_i, zC_o]); omega))))
      rw [eq]
      (first
    | (with_reducible apply z_B; all_goals (intro _; try (exfalso; omega)))
    | (with_reducible apply z_E; all_goals intro _)
    | (with_reducible apply z_lt; (case ha => repeat (with_reducible first | exact zv_l _ | exact zv_r | apply zv_add | apply zv_sub)); (case hb => repeat (with_reducible first | exact zv_l _ | exact zv_r | apply zv_add | apply zv_sub)); (case hx => omega); (case hy => omega); all_goals (intro _; try (exfalso; omega)))
    | (with_reducible apply z_le; (case ha => repeat (with_reducible first | exact zv_l _ | exact zv_r | apply zv_add | apply zv_sub)); (case hb => repeat (with_reducible first | exact zv_l _ | exact zv_r | apply zv_add | apply zv_sub)); (case hx => omega); (case hy => omega); all_goals (intro _; try (exfalso; omega)))
    | (with_reducible apply z_eq; (case ha => repeat (with_reducible first | exact zv_l _ | exact zv_r | apply zv_add | apply zv_sub)); (case hb => repeat (with_reducible first | exact zv_l _ | exact zv_r | apply zv_add | apply zv_sub)); (case hx => omega); (case hy => omega); all_goals (intro _; try (exfalso; omega))))
      · rename_i hno
        rw [if_neg hno]
        (first
    | (with_reducible apply z_nm; (case he => repeat (with_reducible first | exact zv_l _ | exact zv_r | apply zv_add | apply zv_sub)))
    | (with_reducible apply z_b_ck; (case h => with_unfolding_all rfl))
    | (with_reducible apply z_I; (case h => first | with_unfolding_all rfl); (case hy => first | ((simp (disch := omega) only [zU_c, zU_e, zU_k, zF_c, zF_i, zF_o, zW_o, zW_i, zC_c, zC_i, zC_o]); rfl) | rfl))
    | (with_reducible apply z_b_R; (case h => first | with_unfolding_all rfl))
    | (with_reducible apply z_L; (case he => repeat (with_reducible first | exact zv_l _ | exact zv_r | apply zv_add | apply zv_sub)); (case hn => with_reducible first | assumption | exact zl_2 | exact zl_5 | exact zl_6 | exact zl_7 | exact zl_8 | exact zl_31 | exact zl_32 | exact zl_33); (case h => omega); (case hy => first | ((simp (disch := omega) only [zU_c, zU_e, zU_k, zF_c, zF_i, zF_o, zW_o, zW_i, zC_c, zC_i, zC_o]); rfl) | rfl))
    | with_reducible refine z_bz ?_
    | with_reducible refine z_bzE ?_
    | (with_reducible apply z_bzl; (case h => omega))
    | (with_reducible apply z_1hasRoomForAll; (case e1 => repeat (with_reducible first | exact zv_l _ | exact zv_r | apply zv_add | apply zv_sub)); (case e2 => repeat (with_reducible first | exact zv_l _ | exact zv_r | apply zv_add | apply zv_sub)); (case a1 => assumption); (case r1 => first | omega | ((simp (disch := omega) only [zU_c, zU_e, zU_k, zF_c, zF_i, zF_o, zW_o, zW_i, zC_c, zC_i, zC_o]); omega)); (case r2 => first | omega | ((simp (disch := omega) only [zU_c, zU_e, zU_k, zF_c, zF_i, zF_o, zW_o, zW_i, zC_c, zC_i, zC_o]); omega))))
        (first
    | (with_reducible apply z_nm; (case he => repeat (with_reducible first | exact zv_l _ | exact zv_r | apply zv_add | apply zv_sub)))
    | (with_reducible apply z_b_ck; (case h => with_unfolding_all rfl))
    | (with_reducible apply z_I; (case h => first | with_unfolding_all rfl); (case hy => first | ((simp (disch := omega) only [zU_c, zU_e, zU_k, zF_c, zF_i, zF_o, zW_o, zW_i, zC_c, zC_i, zC_o]); rfl) | rfl))
    | (with_reducible apply z_b_R; (case h => first | with_unfolding_all rfl))
    | (with_reducible apply z_L; (case he => repeat (with_reducible first | exact zv_l _ | exact zv_r | apply zv_add | apply zv_sub)); (case hn => with_reducible first | assumption | exact zl_2 | exact zl_5 | exact zl_6 | exact zl_7 | exact zl_8 | exact zl_31 | exact zl_32 | exact zl_33); (case h => omega); (case hy => first | ((simp (disch := omega) only [zU_c, zU_e, zU_k, zF_c, zF_i, zF_o, zW_o, zW_i, zC_c, zC_i, zC_o]); rfl) | rfl))
    | with_reducible refine z_bz ?_
    | with_reducible refine z_bzE ?_
    | (with_reducible apply z_bzl; (case h => omega))
    | (with_reducible apply z_1hasRoomForAll; (case e1 => repeat (with_reducible first | exact zv_l _ | exact zv_r | apply zv_add | apply zv_sub)); (case e2 => repeat (with_reducible first | exact zv_l _ | exact zv_r | apply zv_add | apply zv_sub)); (case a1 => assumption); (case r1 => first | omega | ((simp (disch := omega) only [zU_c, zU_e, zU_k, zF_c, zF_i, zF_o, zW_o, zW_i, zC_c, zC_i, zC_o]); omega)); (case r2 => first | omega | ((simp (disch := omega) only [zU_c, zU_e, zU_k, zF_c, zF_i, zF_o, zW_o, zW_i, zC_c, zC_i, zC_o]); omega))))
        refine z_call (s1_won (x := m1 33 i) (res := 2) hR1 ⟨hi.1, hlt⟩ g2 (fun m' hm he => hk m' hm he hlt)) (fun v m2 hp => ?_)
        rw [eq2] at hp
        cases hs2 : (if m1 30 6 ≤ m1 31 (m1 33 i) then (zSv (m1 32) (m1 33) (m1 30 6) (m1 30 7) (m1 30 8) q (zSub (m1 31) (m1 33 i) (m1 30 6)) (i + 1)).map (fun l => 2 :: l) else none) with
        | some l =>
          rw [hs2] at hp
          have hv : v = zI 1 := by obtain ⟨w, -, -, e, -⟩ := hp; rw [e]; rfl
          subst hv
          refine z_eq (x := 1) (y := 0) rfl rfl (by omega) (by omega) (fun q => by exfalso; omega) (fun _ => ?_)
          exact ⟨_, _, rfl, hp⟩
        | none =>
          rw [hs2] at hp
          have hv : v = zI 0 := by obtain ⟨w, -, -, e, -⟩ := hp; rw [e]; rfl
          subst hv
          refine z_eq (x := 0) (y := 0) rfl rfl (by omega) (by omega) (fun _ => ?_) (fun q => absurd rfl q)
          have hp1 : zPk m1 m2 i := by obtain ⟨w, e, e2, -, -⟩ := hp; exact ⟨w, e, e2⟩
          have hR2 := zRc_Pk hp1 hR1
          have e30 := zPk_c hp1 (c := 30) (by omega)
          have e31 := zPk_c hp1 (c := 31) (by omega)
          have e32 := zPk_c hp1 (c := 32) (by omega)
          have e33 := zPk_c hp1 (c := 33) (by omega)
          dsimp only
          rw [← e30, ← e31, ← e32, ← e33]
          rw [← e30] at hi hlt eq eq2 hk
          rw [← e32] at g1 g3
          rw [← e33] at g2 g3
          refine zOk.mono ?_ (fun v m3 hq => zPo_pk hp1 hq)
          clear hp hs2 e30 e31 e32 e33 hp1 hno
          clear hS hW hD hdr hg hf hR1 m1
          obtain ⟨hS, hW, hD, hdr, hg, hf⟩ := id hR2
          (first
    | (with_reducible apply z_nm; (case he => repeat (with_reducible first | exact zv_l _ | exact zv_r | apply zv_add | apply zv_sub)))
    | (with_reducible apply z_b_ck; (case h => with_unfolding_all rfl))
    | (with_reducible apply z_I; (case h => first | with_unfolding_all rfl); (case hy => first | ((simp (disch := omega) only [zU_c, zU_e, zU_k, zF_c, zF_i, zF_o, zW_o, zW_i, zC_c, zC_i, zC_o]); rfl) | rfl))
    | (with_reducible apply z_b_R; (case h => first | with_unfolding_all rfl))
    | (with_reducible apply z_L; (case he => repeat (with_reducible first | exact zv_l _ | exact zv_r | apply zv_add | apply zv_sub)); (case hn => with_reducible first | assumption | exact zl_2 | exact zl_5 | exact zl_6 | exact zl_7 | exact zl_8 | exact zl_31 | exact zl_32 | exact zl_33); (case h => omega); (case hy => first | ((simp (disch := omega) only [zU_c, zU_e, zU_k, zF_c, zF_i, zF_o, zW_o, zW_i, zC_c, zC_i, zC_o]); rfl) | rfl))
    | with_reducible refine z_bz ?_
    | with_reducible refine z_bzE ?_
    | (with_reducible apply z_bzl; (case h => omega))
    | (with_reducible apply z_1hasRoomForAll; (case e1 => repeat (with_reducible first | exact zv_l _ | exact zv_r | apply zv_add | apply zv_sub)); (case e2 => repeat (with_reducible first | exact zv_l _ | exact zv_r | apply zv_add | apply zv_sub)); (case a1 => assumption); (case r1 => first | omega | ((simp (disch := omega) only [zU_c, zU_e, zU_k, zF_c, zF_i, zF_o, zW_o, zW_i, zC_c, zC_i, zC_o]); omega)); (case r2 => first | omega | ((simp (disch := omega) only [zU_c, zU_e, zU_k, zF_c, zF_i, zF_o, zW_o, zW_i, zC_c, zC_i, zC_o]); omega))))
          (first
    | (with_reducible apply z_B; all_goals (intro _; try (exfalso; omega)))
    | (with_reducible apply z_E; all_goals intro _)
    | (with_reducible apply z_lt; (case ha => repeat (with_reducible first | exact zv_l _ | exact zv_r | apply zv_add | apply zv_sub)); (case hb => repeat (with_reducible first | exact zv_l _ | exact zv_r | apply zv_add | apply zv_sub)); (case hx => omega); (case hy => omega); all_goals (intro _; try (exfalso; omega)))
    | (with_reducible apply z_le; (case ha => repeat (with_reducible first | exact zv_l _ | exact zv_r | apply zv_add | apply zv_sub)); (case hb => repeat (with_reducible first | exact zv_l _ | exact zv_r | apply zv_add | apply zv_sub)); (case hx => omega); (case hy => omega); all_goals (intro _; try (exfalso; omega)))
    | (with_reducible apply z_eq; (case ha => repeat (with_reducible first | exact zv_l _ | exact zv_r | apply zv_add | apply zv_sub)); (case hb => repeat (with_reducible first | exact zv_l _ | exact zv_r | apply zv_add | apply zv_sub)); (case hx => omega); (case hy => omega); all_goals (intro _; try (exfalso; omega))))
          · rename_i hd
            rw [if_pos hd]
            exact ⟨_, _, rfl, zPo_none ⟨m2, zW_0 _ _ _, fun _ _ => rfl⟩⟩
          · rename_i hd
            rw [if_neg hd]
            (first
    | (with_reducible apply z_nm; (case he => repeat (with_reducible first | exact zv_l _ | exact zv_r | apply zv_add | apply zv_sub)))
    | (with_reducible apply z_b_ck; (case h => with_unfolding_all rfl))
    | (with_reducible apply z_I; (case h => first | with_unfolding_all rfl); (case hy => first | ((simp (disch := omega) only [zU_c, zU_e, zU_k, zF_c, zF_i, zF_o, zW_o, zW_i, zC_c, zC_i, zC_o]); rfl) | rfl))
    | (with_reducible apply z_b_R; (case h => first | with_unfolding_all rfl))
    | (with_reducible apply z_L; (case he => repeat (with_reducible first | exact zv_l _ | exact zv_r | apply zv_add | apply zv_sub)); (case hn => with_reducible first | assumption | exact zl_2 | exact zl_5 | exact zl_6 | exact zl_7 | exact zl_8 | exact zl_31 | exact zl_32 | exact zl_33); (case h => omega); (case hy => first | ((simp (disch := omega) only [zU_c, zU_e, zU_k, zF_c, zF_i, zF_o, zW_o, zW_i, zC_c, zC_i, zC_o]); rfl) | rfl))
    | with_reducible refine z_bz ?_
    | with_reducible refine z_bzE ?_
    | (with_reducible apply z_bzl; (case h => omega))
    | (with_reducible apply z_1hasRoomForAll; (case e1 => repeat (with_reducible first | exact zv_l _ | exact zv_r | apply zv_add | apply zv_sub)); (case e2 => repeat (with_reducible first | exact zv_l _ | exact zv_r | apply zv_add | apply zv_sub)); (case a1 => assumption); (case r1 => first | omega | ((simp (disch := omega) only [zU_c, zU_e, zU_k, zF_c, zF_i, zF_o, zW_o, zW_i, zC_c, zC_i, zC_o]); omega)); (case r2 => first | omega | ((simp (disch := omega) only [zU_c, zU_e, zU_k, zF_c, zF_i, zF_o, zW_o, zW_i, zC_c, zC_i, zC_o]); omega))))
            (first
    | (with_reducible apply z_nm; (case he => repeat (with_reducible first | exact zv_l _ | exact zv_r | apply zv_add | apply zv_sub)))
    | (with_reducible apply z_b_ck; (case h => with_unfolding_all rfl))
    | (with_reducible apply z_I; (case h => first | with_unfolding_all rfl); (case hy => first | ((simp (disch := omega) only [zU_c, zU_e, zU_k, zF_c, zF_i, zF_o, zW_o, zW_i, zC_c, zC_i, zC_o]); rfl) | rfl))
    | (with_reducible apply z_b_R; (case h => first | with_unfolding_all rfl))
    | (with_reducible apply z_L; (case he => repeat (with_reducible first | exact zv_l _ | exact zv_r | apply zv_add | apply zv_sub)); (case hn => with_reducible first | assumption | exact zl_2 | exact zl_5 | exact zl_6 | exact zl_7 | exact zl_8 | exact zl_31 | exact zl_32 | exact zl_33); (case h => omega); (case hy => first | ((simp (disch := omega) only [zU_c, zU_e, zU_k, zF_c, zF_i, zF_o, zW_o, zW_i, zC_c, zC_i, zC_o]); rfl) | rfl))
    | with_reducible refine z_bz ?_
    | with_reducible refine z_bzE ?_
    | (with_reducible apply z_bzl; (case h => omega))
    | (with_reducible apply z_1hasRoomForAll; (case e1 => repeat (with_reducible first | exact zv_l _ | exact zv_r | apply zv_add | apply zv_sub)); (case e2 => repeat (with_reducible first | exact zv_l _ | exact zv_r | apply zv_add | apply zv_sub)); (case a1 => assumption); (case r1 => first | omega | ((simp (disch := omega) only [zU_c, zU_e, zU_k, zF_c, zF_i, zF_o, zW_o, zW_i, zC_c, zC_i, zC_o]); omega)); (case r2 => first | omega | ((simp (disch := omega) only [zU_c, zU_e, zU_k, zF_c, zF_i, zF_o, zW_o, zW_i, zC_c, zC_i, zC_o]); omega))))
            (first
    | (with_reducible apply z_nm; (case he => repeat (with_reducible first | exact zv_l _ | exact zv_r | apply zv_add | apply zv_sub)))
    | (with_reducible apply z_b_ck; (case h => with_unfolding_all rfl))
    | (with_reducible apply z_I; (case h => first | with_unfolding_all rfl); (case hy => first | ((simp (disch := omega) only [zU_c, zU_e, zU_k, zF_c, zF_i, zF_o, zW_o, zW_i, zC_c, zC_i, zC_o]); rfl) | rfl))
    | (with_reducible apply z_b_R; (case h => first | with_unfolding_all rfl))
    | (with_reducible apply z_L; (case he => repeat (with_reducible first | exact zv_l _ | exact zv_r | apply zv_add | apply zv_sub)); (case hn => with_reducible first | assumption | exact zl_2 | exact zl_5 | exact zl_6 | exact zl_7 | exact zl_8 | exact zl_31 | exact zl_32 | exact zl_33); (case h => omega); (case hy => first | ((simp (disch := omega) only [zU_c, zU_e, zU_k, zF_c, zF_i, zF_o, zW_o, zW_i, zC_c, zC_i, zC_o]); rfl) | rfl))
    | with_reducible refine z_bz ?_
    | with_reducible refine z_bzE ?_
    | (with_reducible apply z_bzl; (case h => omega))
    | (with_reducible apply z_1hasRoomForAll; (case e1 => repeat (with_reducible first | exact zv_l _ | exact zv_r | apply zv_add | apply zv_sub)); (case e2 => repeat (with_reducible first | exact zv_l _ | exact zv_r | apply zv_add | apply zv_sub)); (case a1 => assumption); (case r1 => first | omega | ((simp (disch := omega) only [zU_c, zU_e, zU_k, zF_c, zF_i, zF_o, zW_o, zW_i, zC_c, zC_i, zC_o]); omega)); (case r2 => first | omega | ((simp (disch := omega) only [zU_c, zU_e, zU_k, zF_c, zF_i, zF_o, zW_o, zW_i, zC_c, zC_i, zC_o]); omega))))
            rw [eq]
            (first
    | (with_reducible apply z_B; all_goals (intro _; try (exfalso; omega)))
    | (with_reducible apply z_E; all_goals intro _)
    | (with_reducible apply z_lt; (case ha => repeat (with_reducible first | exact zv_l _ | exact zv_r | apply zv_add | apply zv_sub)); (case hb => repeat (with_reducible first | exact zv_l _ | exact zv_r | apply zv_add | apply zv_sub)); (case hx => omega); (case hy => omega); all_goals (intro _; try (exfalso; omega)))
    | (with_reducible apply z_le; (case ha => repeat (with_reducible first | exact zv_l _ | exact zv_r | apply zv_add | apply zv_sub)); (case hb => repeat (with_reducible first | exact zv_l _ | exact zv_r | apply zv_add | apply zv_sub)); (case hx => omega); (case hy => omega); all_goals (intro _; try (exfalso; omega)))
    | (with_reducible apply z_eq; (case ha => repeat (with_reducible first | exact zv_l _ | exact zv_r | apply zv_add | apply zv_sub)); (case hb => repeat (with_reducible first | exact zv_l _ | exact zv_r | apply zv_add | apply zv_sub)); (case hx => omega); (case hy => omega); all_goals (intro _; try (exfalso; omega))))
            · rename_i hno
              rw [if_neg hno]
              refine z_call (s1_drawn hR2 ⟨hi.1, hlt⟩ (fun m' hm he => hk m' hm he hlt)) (fun v m3 hp => ?_)
              rw [eq2] at hp
              have hv : ∃ p : Bool, v = zI (zB (p = true)) := by obtain ⟨w, -, -, e, -⟩ := hp; exact ⟨_, e⟩
              obtain ⟨p, rfl⟩ := hv
              (first
    | (with_reducible apply z_nm; (case he => repeat (with_reducible first | exact zv_l _ | exact zv_r | apply zv_add | apply zv_sub)))
    | (with_reducible apply z_b_ck; (case h => with_unfolding_all rfl))
    | (with_reducible apply z_I; (case h => first | with_unfolding_all rfl); (case hy => first | ((simp (disch := omega) only [zU_c, zU_e, zU_k, zF_c, zF_i, zF_o, zW_o, zW_i, zC_c, zC_i, zC_o]); rfl) | rfl))
    | (with_reducible apply z_b_R; (case h => first | with_unfolding_all rfl))
    | (with_reducible apply z_L; (case he => repeat (with_reducible first | exact zv_l _ | exact zv_r | apply zv_add | apply zv_sub)); (case hn => with_reducible first | assumption | exact zl_2 | exact zl_5 | exact zl_6 | exact zl_7 | exact zl_8 | exact zl_31 | exact zl_32 | exact zl_33); (case h => omega); (case hy => first | ((simp (disch := omega) only [zU_c, zU_e, zU_k, zF_c, zF_i, zF_o, zW_o, zW_i, zC_c, zC_i, zC_o]); rfl) | rfl))
    | with_reducible refine z_bz ?_
    | with_reducible refine z_bzE ?_
    | (with_reducible apply z_bzl; (case h => omega))
    | (with_reducible apply z_1hasRoomForAll; (case e1 => repeat (with_reducible first | exact zv_l _ | exact zv_r | apply zv_add | apply zv_sub)); (case e2 => repeat (with_reducible first | exact zv_l _ | exact zv_r | apply zv_add | apply zv_sub)); (case a1 => assumption); (case r1 => first | omega | ((simp (disch := omega) only [zU_c, zU_e, zU_k, zF_c, zF_i, zF_o, zW_o, zW_i, zC_c, zC_i, zC_o]); omega)); (case r2 => first | omega | ((simp (disch := omega) only [zU_c, zU_e, zU_k, zF_c, zF_i, zF_o, zW_o, zW_i, zC_c, zC_i, zC_o]); omega))))
              exact ⟨_, _, rfl, hp⟩
            · rename_i hno
              rw [if_pos hno]
              exact ⟨_, _, rfl, zPo_none ⟨m2, zW_0 _ _ _, fun _ _ => rfl⟩⟩
      · rename_i hno
        rw [if_pos hno]
        exact ⟨_, _, rfl, zPo_none ⟨m1, zW_0 _ _ _, fun _ _ => rfl⟩⟩
  · have e : (m 30 5 - i).toNat = 0 := by omega
    have eS : zSo1 m i = some [] := by
      unfold zSo1
      rw [e]
      rfl
    rw [eS]
    refine ⟨_, _, rfl, m, zW_0 _ _ _, fun _ _ => rfl, rfl, fun l hl j hj => ?_⟩
    have hl := Option.some.inj hl
    subst hl
    exact absurd hj (by simp)
theorem s1_fits {m : zMe} {i : Int} (h : zRc m) (hi : 0 ≤ i ∧ i ≤ m 30 5) : zOk (f_X1_fits 12 30 (zI i) (zM m)) (zPo m i (zSo1 m i)) := by
  refine z_lp (fun n v m1 => ∃ i : Int, v = (30, zI i) ∧ (0 ≤ i ∧ i ≤ m1 30 5) ∧ n = (m1 30 5 - i).toNat ∧ zRc m1) (fun v m1 a m2 => ∀ i : Int, v = (30, zI i) → (0 ≤ i ∧ i ≤ m1 30 5) → zPo m1 i (zSo1 m1 i) a m2) ?_ 12 (m 30 5 - i).toNat (30, zI i) m (by have := h.1; omega) ⟨i, rfl, hi, rfl, h⟩ |>.mono (fun v m' q => q i rfl hi)
  rintro n v m1 k ⟨i, rfl, hi, rfl, hR⟩ hk
  have hS := hR.1
  refine zOk.mono (s1_fits_r hR hi (fun m' hm he hlt => ?_)) (fun a m2 q i' e' hi' => ?_)
  · exact zOk.mono (hk _ _ _ (by omega) ⟨i + 1, rfl, by omega, rfl, hm⟩) (fun a m2 q => q (i + 1) rfl (by omega))
  · have e : i' = i := by
      have e'' : zI i = zI i' := (Prod.mk.inj e').2
      exact ((zI_inj (by omega) (by omega)).mp e'').symm
    subst e
    exact q
