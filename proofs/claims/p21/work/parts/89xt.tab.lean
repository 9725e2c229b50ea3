/-! tables: the pair -/
set_option maxRecDepth 100000 in
set_option maxHeartbeats 1000000 in
theorem s7_tablesE {mc m : zMe} (hW : zWf mc 3) (hE : zEq2 mc m 3 51) : zOk (f_X7_tables 50 (zM m)) (fun v m1 => (∃ y, v = zI y ∧ zTbl mc y) ∧ zY m m1) := by
  have hR := zRw_E hW hE
  have hT := hW.1.1
  have hNc := hW.1.2.1
  unfold f_X7_tables
  (first
    | (with_reducible apply z_nm; (case he => repeat (with_reducible first | exact zv_l _ | exact zv_r | apply zv_sub | apply zv_neg)))
    | (with_reducible apply z_b_ck; (case h => with_unfolding_all rfl))
    | (with_reducible apply z_I; (case h => first | with_unfolding_all rfl); (case hy => first | ((simp (disch := omega) only [zU_c, zU_e, zU_k, zF_c, zF_i, zF_o, zW_o, zW_i, zC_c, zC_i, zC_o]); rfl) | rfl))
    | (with_reducible apply z_PU; (case he => repeat (with_reducible first | exact zv_l _ | exact zv_r | apply zv_sub | apply zv_neg)); (case h => with_reducible first | exact zp_50_17 _))
    | (with_reducible apply z_7ones; (case e1 => repeat (with_reducible first | exact zv_l _ | exact zv_r | apply zv_sub | apply zv_neg)); (case r1 => first | omega | ((simp (disch := omega) only [zU_c, zU_e, zU_k, zF_c, zF_i, zF_o, zW_o, zW_i, zC_c, zC_i, zC_o]); omega)))
    | (with_reducible apply z_7leftSet; (case r1 => first | omega | ((simp (disch := omega) only [zU_c, zU_e, zU_k, zF_c, zF_i, zF_o, zW_o, zW_i, zC_c, zC_i, zC_o]); omega)); (case a1 => assumption))
    | (with_reducible apply z_7looks; (case a2 => assumption))
    | (with_reducible apply z_7tables; (case a1 => assumption); intro _ _ _))
  refine z_7looks hR ?_
  have hC := zCr_L7 hW hE
  have hY : zY m (zL7 m (zRs m)) := zL7_Y
  have hA := zL7_A hR
  have hR2 : zRw (zL7 m (zRs m)) := zRw_X (zX_51 hY.1) hR
  generalize zL7 m (zRs m) = M at hC hY hA hR2 ⊢
  have hN := hR2.1.2.1
  have hCg := hC.2.1
  have hCp := hC.2.2
  have q0 : M 51 0 = mc 3 0 := hC.1.1
  have q1 : M 51 1 = mc 3 1 := hC.1.2.1
  have q2 : M 51 2 = mc 3 2 := hC.1.2.2
  have eLf : zLeft (zV M) 3 = zLeft mc 3 := by
    have e7 : zLeft (zV M) 3 = zBn (M 51 1).toNat (fun k => decide (M 53 (k : Int) = -1)) := rfl
    rw [e7, q1]
    unfold zLeft
    refine zBn_congr (fun k hk => ?_)
    rw [(hCg (k : Int) (by omega) (by omega)).2.2]
  refine z_7leftSet hN hA ?_
  refine z_7ones rfl (zLeft_lt (m := zV M) (r := 3) hN) ?_
  have hp := zPop_le (zLeft (zV M) 3)
  rw [eLf] at hp ⊢
  refine z_le (x := (zPop (zLeft mc 3) : Int)) (y := 4) rfl (zv_l 4) (by omega) (by omega) (fun h4 => ?_) (fun h4 => ?_)
  · (first
    | (with_reducible apply z_nm; (case he => repeat (with_reducible first | exact zv_l _ | exact zv_r | apply zv_sub | apply zv_neg)))
    | (with_reducible apply z_b_ck; (case h => with_unfolding_all rfl))
    | (with_reducible apply z_I; (case h => first | with_unfolding_all rfl); (case hy => first | ((simp (disch := omega) only [zU_c, zU_e, zU_k, zF_c, zF_i, zF_o, zW_o, zW_i, zC_c, zC_i, zC_o]); rfl) | rfl))
    | (with_reducible apply z_PU; (case he => repeat (with_reducible first | exact zv_l _ | exact zv_r | apply zv_sub | apply zv_neg)); (case h => with_reducible first | exact zp_50_17 _))
    | (with_reducible apply z_7ones; (case e1 => repeat (with_reducible first | exact zv_l _ | exact zv_r | apply zv_sub | apply zv_neg)); (case r1 => first | omega | ((simp (disch := omega) only [zU_c, zU_e, zU_k, zF_c, zF_i, zF_o, zW_o, zW_i, zC_c, zC_i, zC_o]); omega)))
    | (with_reducible apply z_7leftSet; (case r1 => first | omega | ((simp (disch := omega) only [zU_c, zU_e, zU_k, zF_c, zF_i, zF_o, zW_o, zW_i, zC_c, zC_i, zC_o]); omega)); (case a1 => assumption))
    | (with_reducible apply z_7looks; (case a2 => assumption))
    | (with_reducible apply z_7tables; (case a1 => assumption); intro _ _ _))
    have hY2 : zY m (zU M 50 17 0) := zY_t hY (zY_8 (zX_U (zX_r _) (by omega)) (zU_k (by omega)))
    have o : ∀ c j, ¬ (c = 50 ∧ j = 17) → zU M 50 17 0 c j = M c j := fun c j hc => by
      by_cases h50 : c = 50
      · subst h50
        exact zU_k (by omega)
      · exact zU_c h50
    have o17 : zU M 50 17 0 50 17 = 0 := zU_e
    generalize zU M 50 17 0 = M2 at hY2 o o17 ⊢
    have o51 : ∀ j, M2 51 j = M 51 j := fun j => o 51 j (by omega)
    have eLf2 : zLeft (zV M2) 3 = zLeft mc 3 := by
      rw [zLeft_53 (o51 1) (fun j => o 53 j (by omega)), eLf]
    have eSg : zSg (zLeft mc 3) (mc 3 1).toNat 0 = zLa mc 3 (mc 3 1).toNat := zSg_La (fun k hk => by
      rw [← eLf, zLeft_bit (by omega), (hCg (k : Int) (by omega) (by omega)).2.2, decide_eq_true_iff])
    have eN : (M2 51 1 - 0).toNat = (mc 3 1).toNat := by
      rw [o51, q1, Int.sub_zero]
    have eTn : zTn M2 0 = zPop (zLeft mc 3) := by
      unfold zTn
      rw [eLf2, eN, show (0 : Int).toNat = 0 from rfl, eSg, zLa_pop hNc]
    have hq : zTaq M2 0 := by
      refine ⟨zRw_X o51 hR2, fun k k0 k1 => ?_, by rw [o51]; omega, ?_, fun u u0 u1 => ?_, fun j hj => ?_⟩
      · rw [o51] at k1
        rw [o 53 k (by omega)]
        exact hA k k0 k1
      · rw [o17, eTn]
        have h1 : 3 ^ zPop (zLeft mc 3) ≤ 3 ^ 4 := Nat.pow_le_pow_right (by omega) (by omega)
        have h2 : (3 : Nat) ^ 4 = 81 := rfl
        omega
      · rw [o51, q0] at u1
        have hpt := zPt_range hW u0
        rw [o 54 u (by omega), hCp u u0 u1, eTn]
        omega
      · rw [o17] at hj
        exfalso
        omega
    have hgo := s7_tabE hq
    generalize f_X7_tablesFrom 12 = ff at hgo ⊢
    refine z_call hgo (fun _ m3 hv => ?_)
    obtain ⟨hX, hc, -, hd⟩ := hv
    rw [o17] at hc hd
    have hd := hd (fun _ => False) zDf_0
    have hX3 : zX m m3 := zX_t hY2.1 (fun c j hc => hX c j (by unfold zSr at hc; omega) (by unfold zSr at hc; omega))
    have hY3 : zY m m3 := zY_t hY2 (zY_8 (fun c j hc => hX c j (by unfold zSr at hc; omega) (by unfold zSr at hc; omega)) (hX 50 8 (by omega) (by omega)))
    (first
    | (with_reducible apply z_nm; (case he => repeat (with_reducible first | exact zv_l _ | exact zv_r | apply zv_sub | apply zv_neg)))
    | (with_reducible apply z_b_ck; (case h => with_unfolding_all rfl))
    | (with_reducible apply z_I; (case h => first | with_unfolding_all rfl); (case hy => first | ((simp (disch := omega) only [zU_c, zU_e, zU_k, zF_c, zF_i, zF_o, zW_o, zW_i, zC_c, zC_i, zC_o]); rfl) | rfl))
    | (with_reducible apply z_PU; (case he => repeat (with_reducible first | exact zv_l _ | exact zv_r | apply zv_sub | apply zv_neg)); (case h => with_reducible first | exact zp_50_17 _))
    | (with_reducible apply z_7ones; (case e1 => repeat (with_reducible first | exact zv_l _ | exact zv_r | apply zv_sub | apply zv_neg)); (case r1 => first | omega | ((simp (disch := omega) only [zU_c, zU_e, zU_k, zF_c, zF_i, zF_o, zW_o, zW_i, zC_c, zC_i, zC_o]); omega)))
    | (with_reducible apply z_7leftSet; (case r1 => first | omega | ((simp (disch := omega) only [zU_c, zU_e, zU_k, zF_c, zF_i, zF_o, zW_o, zW_i, zC_c, zC_i, zC_o]); omega)); (case a1 => assumption))
    | (with_reducible apply z_7looks; (case a2 => assumption))
    | (with_reducible apply z_7tables; (case a1 => assumption); intro _ _ _))
    refine ⟨_, _, rfl, ⟨m3 50 17, rfl, Or.inr ⟨by omega, zRk m3, (m3 50 17).toNat, zDf_iff (fun x => ?_) hd, by omega⟩⟩, hY3⟩
    have eGl : zGl7 M2 (zLa mc 3 (mc 3 1).toNat) = zGl mc 3 (zLa mc 3 (mc 3 1).toNat) := by
      refine List.map_congr_left (fun k hk => ?_)
      have hk := zLa_in hk
      obtain ⟨g1, g2, g3⟩ := hCg (k : Int) (by omega) (by omega)
      rw [o51, o51, g1, g2]
    have eQ : zQk (M2 51 2) (if M2 51 2 = 0 then 0 else 1) (zGl7 M2 (zSg (zLeft (zV M2) 3) (M2 51 1 - 0).toNat (0 : Int).toNat)) (zRp M2) x ↔ zQk (mc 3 2) (if mc 3 2 = 0 then 0 else 1) (zGl mc 3 (zLa mc 3 (mc 3 1).toNat)) (zPt mc 3) x := by
      rw [eLf2, eN, show (0 : Int).toNat = 0 from rfl, eSg, eGl, o51, q2]
      refine zQk_congr (fun u u0 u1 => ?_)
      unfold zRp
      rw [o51, q0]
      by_cases hq : u < mc 3 0
      · rw [if_pos hq, o 54 u (by omega), hCp u u0 hq]
      · rw [if_neg hq, zPt_out hW (by omega)]
    rw [eQ]
    exact ⟨fun q => q.elim (fun f => f.elim) id, fun q => Or.inr q⟩
  · exact ⟨_, _, rfl, ⟨-6, rfl, Or.inl ⟨by omega, rfl⟩⟩, hY⟩
theorem zp_tablesE {m : zMe} (h : zInv m) : zPr (f_X6_tables 0 (zM m)) (f_X7_tables 50) True := by
  refine zPr_of ((s6_tablesE h.1.1).mono (fun v m1 hv => ?_))
  obtain ⟨⟨y, rfl, hy⟩, hF⟩ := hv
  have hE := zEq2_41 h.1.2 (m1 := m1) (fun c hc j => hF c (by omega) j)
  refine (s7_tablesE h.1.1 hE).mono (fun w m2 hw => ?_)
  obtain ⟨⟨y', rfl, hy'⟩, hY⟩ := hw
  exact ⟨zInv_s h hF hY, fun _ => by rw [zTbl_u hy hy']⟩
