/-! the reference: texts, whole -/
theorem zTq7_4 {mc m : zMe} {k : Nat} {x res : Int} (hW : zWf mc 3) (hE : zEq2 mc m 3 51) (hx : 0 ≤ x ∧ x < mc 3 1) : zTq7 mc m (4, x, res, 0) (zI x) (zU (zU (zNn mc m k) 50 11 0) 51 (78 + x) res) := by
  refine ⟨rfl, ?_, ?_, fun c j hc hcj => ?_⟩
  · exact zEq2_res (g := x) (x := res) (zNn_E hE) hW hx
  · rw [zU_c (by omega), zU_e]
  · rw [zU_c hc]
    exact zNn_fr hcj
set_option maxRecDepth 100000 in
set_option maxHeartbeats 1000000 in
theorem s7_games {mc m : zMe} {x : Int} (hx : x = 2 ∨ x = 3 ∨ x = 4) (hJ : zJt mc m) (h1 : zTnm mc 1) (h2 : ¬ zTwh mc 1 = -1) : zOk ((f_X7_games 50 (zI x) (zM (zNn mc m 1))).bind fun q => some (q.1, q.2)) (fun v m1 => zTq7 mc m (if x = 2 then zOg mc else zOp1 mc (if x = 4 then 0 else 1)) v m1) := by
  obtain ⟨hP, h3, hT, hW, hE, h57⟩ := id hJ
  have hwr := zTwh_r hW 1
  have hwr2 := zTwh_r hW 2
  have hnr := zTnu_r (m := mc) (k := 3) (lo := 1) (hi := 30)
  have hT6 := hW.1.1
  have hN9 := hW.1.2.1
  have hc1 : zTnm mc 1 ∧ ¬ zTwh mc 1 = -1 := ⟨h1, h2⟩
  refine zOk_pair ?_
  unfold f_X7_games
  (first
    | (with_reducible apply z_b_ck; (case h => with_unfolding_all rfl))
    | (with_reducible apply z_I; (case h => first | with_unfolding_all rfl); (case hy => first | ((simp (disch := omega) only [zU_c, zU_e, zU_k, zF_c, zF_i, zF_o, zW_o, zW_i, zC_c, zC_i, zC_o]); rfl) | rfl))
    | (with_reducible apply z_PU; (case he => repeat (with_reducible first | exact zv_l _ | exact zv_r | apply zv_add | apply zv_sub | apply zv_neg)); (case h => with_reducible first | exact zp_50_11 _))
    | (with_reducible apply z_7whose; (case e5 => repeat (with_reducible first | exact zv_l _ | exact zv_r | apply zv_add | apply zv_sub | apply zv_neg)); (case e6 => repeat (with_reducible first | exact zv_l _ | exact zv_r | apply zv_add | apply zv_sub | apply zv_neg)); (case r2 => first | omega | ((simp (disch := omega) only [zU_c, zU_e, zU_k, zF_c, zF_i, zF_o, zW_o, zW_i, zC_c, zC_i, zC_o]); omega)); (case r3 => first | omega | ((simp (disch := omega) only [zU_c, zU_e, zU_k, zF_c, zF_i, zF_o, zW_o, zW_i, zC_c, zC_i, zC_o]); omega)); (case a1 => assumption); (case a2 => assumption); (case a3 => assumption))
    | (with_reducible apply z_7comesGame; (case e4 => repeat (with_reducible first | exact zv_l _ | exact zv_r | apply zv_add | apply zv_sub | apply zv_neg)); (case e5 => repeat (with_reducible first | exact zv_l _ | exact zv_r | apply zv_add | apply zv_sub | apply zv_neg)); (case e6 => repeat (with_reducible first | exact zv_l _ | exact zv_r | apply zv_add | apply zv_sub | apply zv_neg)); (case r1 => first | omega | ((simp (disch := omega) only [zU_c, zU_e, zU_k, zF_c, zF_i, zF_o, zW_o, zW_i, zC_c, zC_i, zC_o]); omega)))
    | (with_reducible apply z_7next; (case a1 => assumption); (case r1 => first | omega | ((simp (disch := omega) only [zU_c, zU_e, zU_k, zF_c, zF_i, zF_o, zW_o, zW_i, zC_c, zC_i, zC_o]); omega)); (case a2 => assumption)))
  refine z_I (y := zBg mc 1) (by with_unfolding_all rfl) zNt_13 ?_
  refine z_I (y := zEn mc 2) (by with_unfolding_all rfl) zNt_14 ?_
  refine s7_whose hJ ?_
  refine s7_step hP h3 hT ?_
  refine s7_isName hJ ?_
  have hno : ¬ (zTnm mc 2 ∧ ¬ zTwh mc 2 = zTwh mc 1 ∧ ¬ zTwh mc 2 = -1) → zOk (f_X7_games_55 50 (zM (zNn mc m 2))) (fun v m1 => zTq7 mc m (if x = 2 then zOg mc else zOp1 mc (if x = 4 then 0 else 1)) v m1) := fun hn => by
    have e1 : zOg mc = zFa mc 2 := by
      unfold zOg
      rw [zIf_p hc1, zIf_n hn]
    have e2 : ∀ w, zOp1 mc w = zFa mc 2 := fun w => by
      unfold zOp1
      rw [zIf_p hc1, zIf_n hn]
    have e3 : (if x = 2 then zOg mc else zOp1 mc (if x = 4 then 0 else 1)) = zFa mc 2 := by
      rw [e1, e2]
      split <;> rfl
    rw [e3]
    unfold f_X7_games_55
    exact s7_flt hJ
  refine z_E (fun hn => hno (fun q => hn q.1)) (fun hn => ?_)
  refine z_I (y := zBg mc 2) (by with_unfolding_all rfl) zNt_13 ?_
  refine z_I (y := zEn mc 3) (by with_unfolding_all rfl) zNt_14 ?_
  refine s7_whose hJ ?_
  refine z_lt (x := zTwh mc 2) (y := 0) rfl rfl (by omega) (by omega) (fun hw => hno (fun q => by have := q.2.2; omega)) (fun hw => ?_)
  refine z_I (y := zBg mc 2) (by with_unfolding_all rfl) zNt_13 ?_
  refine z_I (y := zEn mc 3) (by with_unfolding_all rfl) zNt_14 ?_
  refine s7_whose hJ ?_
  refine z_eq (x := zTwh mc 2) (y := zTwh mc 1) rfl rfl (by omega) (by omega) (fun hw1 => hno (fun q => q.2.1 hw1)) (fun hw1 => ?_)
  have hc2 : zTnm mc 2 ∧ ¬ zTwh mc 2 = zTwh mc 1 ∧ ¬ zTwh mc 2 = -1 := ⟨hn, hw1, by omega⟩
  refine z_I (y := zBg mc 2) (by with_unfolding_all rfl) zNt_13 ?_
  refine z_I (y := zEn mc 3) (by with_unfolding_all rfl) zNt_14 ?_
  refine s7_whose hJ ?_
  have e1 : zOg mc = zIf (zTnu mc 3 1 30 = -1) (zFa mc 3) (zIf (zKd mc 4 = 0) (if mc 3 1 < 9 then (3, zTwh mc 1, zTwh mc 2, zTnu mc 3 1 30) else zNo (-4)) (zFa mc 4)) := by
    unfold zOg
    rw [zIf_p hc1, zIf_p hc2]
  have e2 : ∀ w, zOp1 mc w = zIf (zKd mc 3 = 0) (if zNx mc 3 (zTwh mc 1) (zTwh mc 2) (mc 3 1).toNat = -1 then zNo (-3) else (4, zNx mc 3 (zTwh mc 1) (zTwh mc 2) (mc 3 1).toNat, (if w = 0 then 0 else if mc (3 + 4) (zNx mc 3 (zTwh mc 1) (zTwh mc 2) (mc 3 1).toNat) = zTwh mc 1 then 1 else 2), 0)) (zFa mc 3) := fun w => by
    unfold zOp1
    rw [zIf_p hc1, zIf_p hc2]
  refine z_eq (x := x) (y := 2) rfl (zv_l 2) (by omega) (by omega) (fun hx2 => ?_) (fun hx2 => ?_)
  · rw [if_pos hx2, e1]
    refine s7_step hP h3 hT ?_
    refine s7_number (lo := 1) (hi := 30) (zv_l 1) (zv_l 30) (by omega) (by omega) hJ ?_
    unfold f_X7_games_94 f_X7_games_106
    refine z_lt (x := zTnu mc 3 1 30) (y := 0) rfl rfl (by omega) (by omega) (fun h => ?_) (fun h => ?_)
    · rw [zIf_p (by omega)]
      exact s7_flt hJ
    · rw [zIf_n (by omega)]
      refine s7_isOver hP h3 hT ?_
      refine z_B (fun hd => ?_) (fun hd => ?_)
      · rw [zIf_n hd]
        exact s7_flt hJ
      · rw [zIf_p hd]
        (first
    | (with_reducible apply z_b_ck; (case h => with_unfolding_all rfl))
    | (with_reducible apply z_I; (case h => first | with_unfolding_all rfl); (case hy => first | ((simp (disch := omega) only [zU_c, zU_e, zU_k, zF_c, zF_i, zF_o, zW_o, zW_i, zC_c, zC_i, zC_o]); rfl) | rfl))
    | (with_reducible apply z_PU; (case he => repeat (with_reducible first | exact zv_l _ | exact zv_r | apply zv_add | apply zv_sub | apply zv_neg)); (case h => with_reducible first | exact zp_50_11 _))
    | (with_reducible apply z_7whose; (case e5 => repeat (with_reducible first | exact zv_l _ | exact zv_r | apply zv_add | apply zv_sub | apply zv_neg)); (case e6 => repeat (with_reducible first | exact zv_l _ | exact zv_r | apply zv_add | apply zv_sub | apply zv_neg)); (case r2 => first | omega | ((simp (disch := omega) only [zU_c, zU_e, zU_k, zF_c, zF_i, zF_o, zW_o, zW_i, zC_c, zC_i, zC_o]); omega)); (case r3 => first | omega | ((simp (disch := omega) only [zU_c, zU_e, zU_k, zF_c, zF_i, zF_o, zW_o, zW_i, zC_c, zC_i, zC_o]); omega)); (case a1 => assumption); (case a2 => assumption); (case a3 => assumption))
    | (with_reducible apply z_7comesGame; (case e4 => repeat (with_reducible first | exact zv_l _ | exact zv_r | apply zv_add | apply zv_sub | apply zv_neg)); (case e5 => repeat (with_reducible first | exact zv_l _ | exact zv_r | apply zv_add | apply zv_sub | apply zv_neg)); (case e6 => repeat (with_reducible first | exact zv_l _ | exact zv_r | apply zv_add | apply zv_sub | apply zv_neg)); (case r1 => first | omega | ((simp (disch := omega) only [zU_c, zU_e, zU_k, zF_c, zF_i, zF_o, zW_o, zW_i, zC_c, zC_i, zC_o]); omega)))
    | (with_reducible apply z_7next; (case a1 => assumption); (case r1 => first | omega | ((simp (disch := omega) only [zU_c, zU_e, zU_k, zF_c, zF_i, zF_o, zW_o, zW_i, zC_c, zC_i, zC_o]); omega)); (case a2 => assumption)))
        refine z_eq (x := x) (y := 2) rfl (zv_l 2) (by omega) (by omega) (fun _ => ?_) (fun q => absurd hx2 q)
        have hE4 : zEq2 mc (zU (zNn mc m 4) 50 11 0) 3 51 := zNn_E hE
        have e51 : zU (zNn mc m 4) 50 11 0 51 1 = mc 3 1 := hE4.1.2.1
        refine z_7comesGame (m := zU (zNn mc m 4) 50 11 0) rfl rfl rfl (by omega) ?_
        rw [e51]
        by_cases h9 : mc 3 1 = 9
        · rw [if_pos h9, if_pos h9, if_neg (by omega)]
          exact ⟨_, _, rfl, zTq7_no hE⟩
        · rw [if_neg h9, if_neg h9, if_pos (by omega)]
          refine ⟨_, _, rfl, rfl, ?_, ?_, fun c j hc hcj => ?_⟩
          · exact zEq2_gam hE4 hW (by omega)
          · unfold zAr
            rw [zU_c (by omega), zU_c (by omega), zU_c (by omega), zU_c (by omega), zU_c (by omega), zU_e]
          · unfold zAr
            rw [zU_c hc, zU_c hc, zU_c hc, zU_c hc, zU_c hc]
            exact zNn_fr hcj
  · rw [if_neg hx2, e2]
    unfold f_X7_games_94 f_X7_games_106
    refine z_lt (x := 0) (y := 0) rfl rfl (by omega) (by omega) (fun q => by exfalso; omega) (fun _ => ?_)
    refine s7_isOver hP h3 hT ?_
    refine z_B (fun hd => ?_) (fun hd => ?_)
    · rw [zIf_n hd]
      exact s7_flt hJ
    · rw [zIf_p hd]
      (first
    | (with_reducible apply z_b_ck; (case h => with_unfolding_all rfl))
    | (with_reducible apply z_I; (case h => first | with_unfolding_all rfl); (case hy => first | ((simp (disch := omega) only [zU_c, zU_e, zU_k, zF_c, zF_i, zF_o, zW_o, zW_i, zC_c, zC_i, zC_o]); rfl) | rfl))
    | (with_reducible apply z_PU; (case he => repeat (with_reducible first | exact zv_l _ | exact zv_r | apply zv_add | apply zv_sub | apply zv_neg)); (case h => with_reducible first | exact zp_50_11 _))
    | (with_reducible apply z_7whose; (case e5 => repeat (with_reducible first | exact zv_l _ | exact zv_r | apply zv_add | apply zv_sub | apply zv_neg)); (case e6 => repeat (with_reducible first | exact zv_l _ | exact zv_r | apply zv_add | apply zv_sub | apply zv_neg)); (case r2 => first | omega | ((simp (disch := omega) only [zU_c, zU_e, zU_k, zF_c, zF_i, zF_o, zW_o, zW_i, zC_c, zC_i, zC_o]); omega)); (case r3 => first | omega | ((simp (disch := omega) only [zU_c, zU_e, zU_k, zF_c, zF_i, zF_o, zW_o, zW_i, zC_c, zC_i, zC_o]); omega)); (case a1 => assumption); (case a2 => assumption); (case a3 => assumption))
    | (with_reducible apply z_7comesGame; (case e4 => repeat (with_reducible first | exact zv_l _ | exact zv_r | apply zv_add | apply zv_sub | apply zv_neg)); (case e5 => repeat (with_reducible first | exact zv_l _ | exact zv_r | apply zv_add | apply zv_sub | apply zv_neg)); (case e6 => repeat (with_reducible first | exact zv_l _ | exact zv_r | apply zv_add | apply zv_sub | apply zv_neg)); (case r1 => first | omega | ((simp (disch := omega) only [zU_c, zU_e, zU_k, zF_c, zF_i, zF_o, zW_o, zW_i, zC_c, zC_i, zC_o]); omega)))
    | (with_reducible apply z_7next; (case a1 => assumption); (case r1 => first | omega | ((simp (disch := omega) only [zU_c, zU_e, zU_k, zF_c, zF_i, zF_o, zW_o, zW_i, zC_c, zC_i, zC_o]); omega)); (case a2 => assumption)))
      refine z_eq (x := x) (y := 2) rfl (zv_l 2) (by omega) (by omega) (fun q => absurd q hx2) (fun _ => ?_)
      have hE3 : zEq2 mc (zU (zNn mc m 3) 50 11 0) 3 51 := zNn_E hE
      have hxr := zNx_range mc 3 (zTwh mc 1) (zTwh mc 2) (mc 3 1).toNat
      have hend : ∀ (w : Int) (e : Int32), e = zI (1 - w) → (w = 0 ∨ w = 1) → (if x = 4 then (0 : Int) else 1) = w → zOk (f_X7_games_145 e (zI (zTwh mc 2)) (zI (zTwh mc 1)) 50 (zM (zU (zNn mc m 3) 50 11 0))) (fun v m1 => zTq7 mc m (if zNx mc 3 (zTwh mc 1) (zTwh mc 2) (mc 3 1).toNat = -1 then zNo (-3) else (4, zNx mc 3 (zTwh mc 1) (zTwh mc 2) (mc 3 1).toNat, (if (if x = 4 then (0 : Int) else 1) = 0 then 0 else if mc (3 + 4) (zNx mc 3 (zTwh mc 1) (zTwh mc 2) (mc 3 1).toNat) = zTwh mc 1 then 1 else 2), 0)) v m1) := fun w e he hw hxw => by
        rw [hxw]
        unfold f_X7_games_145
        refine z_call (s7_isPlayed he hw hW hE3 (by omega) (by omega) (fun q => hw1 q.symm)) (fun v m1 hv => ?_)
        rcases hv with ⟨hn1, rfl, rfl⟩ | ⟨hn1, rfl, rfl⟩
        · rw [if_pos hn1]
          exact ⟨_, _, rfl, zTq7_no hE⟩
        · rw [if_neg hn1]
          exact ⟨_, _, rfl, zTq7_4 hW hE (by omega)⟩
      refine z_eq (x := x) (y := 4) rfl (zv_l 4) (by omega) (by omega) (fun h4 => ?_) (fun h4 => ?_)
      · exact hend 0 _ rfl (Or.inl rfl) (if_pos h4)
      · exact hend 1 _ rfl (Or.inr rfl) (if_neg h4)
set_option maxRecDepth 100000 in
set_option maxHeartbeats 1000000 in
theorem s7_text24 {mc m : zMe} {x : Int} (hx : 0 ≤ x ∧ x < 5) (hJ : zJt mc m) : zOk (f_X7_text_24 50 (zI x) (zM (zNn mc m 0))) (fun v m1 => zTq7 mc m (if x = 0 then zOt mc else if x = 1 then zOs mc else if x = 2 then zOg mc else zOp1 mc (if x = 4 then 0 else 1)) v m1) := by
  obtain ⟨hP, h3, hT, hW, hE, h57⟩ := id hJ
  have hwr := zTwh_r hW 1
  unfold f_X7_text_24
  refine z_le (x := 0) (y := x) rfl rfl (by omega) (by omega) (fun _ => ?_) (fun q => by exfalso; omega)
  refine s7_step hP h3 hT ?_
  refine s7_isName hJ ?_
  have hno : ¬ (zTnm mc 1 ∧ (x = 0 ↔ zTwh mc 1 = -1)) → zOk (f_X7_text_77 50 (zM (zNn mc m 1))) (fun v m1 => zTq7 mc m (if x = 0 then zOt mc else if x = 1 then zOs mc else if x = 2 then zOg mc else zOp1 mc (if x = 4 then 0 else 1)) v m1) := fun hn => by
    have e3 : (if x = 0 then zOt mc else if x = 1 then zOs mc else if x = 2 then zOg mc else zOp1 mc (if x = 4 then 0 else 1)) = zFa mc 1 := by
      by_cases h0 : x = 0
      · rw [if_pos h0]
        exact zIf_n (fun q => hn ⟨q.1, fun _ => q.2, fun _ => h0⟩)
      · have hn2 : ¬ (zTnm mc 1 ∧ ¬ zTwh mc 1 = -1) := fun q => hn ⟨q.1, fun w => absurd w h0, fun w => absurd w q.2⟩
        have e1 : zOg mc = zFa mc 1 := zIf_n hn2
        have e2 : zOs mc = zFa mc 1 := zIf_n hn2
        have e4 : ∀ w, zOp1 mc w = zFa mc 1 := fun w => zIf_n hn2
        rw [if_neg h0, e1, e2, e4]
        (repeat' split) <;> rfl
    rw [e3]
    unfold f_X7_text_77
    exact s7_flt hJ
  refine z_E (fun hn => hno (fun q => hn q.1)) (fun hn => ?_)
  refine z_I (y := zBg mc 1) (by with_unfolding_all rfl) zNt_13 ?_
  refine z_I (y := zEn mc 2) (by with_unfolding_all rfl) zNt_14 ?_
  refine s7_whose hJ ?_
  unfold f_X7_text_65 f_X7_text_74
  refine z_le (x := 0) (y := zTwh mc 1) rfl rfl (by omega) (by omega) (fun hw => ?_) (fun hw => ?_)
  · refine z_eq (x := x) (y := 0) rfl rfl (by omega) (by omega) (fun h0 => ?_) (fun h0 => ?_)
    · refine z_eq (x := 0) (y := 1) rfl rfl (by omega) (by omega) (fun q => by exfalso; omega) (fun _ => ?_)
      exact hno (fun q => by have := q.2.mp h0; omega)
    · refine z_eq (x := 0) (y := 0) rfl rfl (by omega) (by omega) (fun _ => ?_) (fun q => absurd rfl q)
      rw [if_neg h0]
      refine z_eq (x := x) (y := 0) rfl rfl (by omega) (by omega) (fun q => absurd q h0) (fun _ => ?_)
      refine z_eq (x := x) (y := 1) rfl (zv_l 1) (by omega) (by omega) (fun hx1 => ?_) (fun hx1 => ?_)
      · rw [if_pos hx1]
        exact s7_starts hJ hn (by omega)
      · rw [if_neg hx1]
        exact s7_games (by omega) hJ hn (by omega)
  · refine z_eq (x := x) (y := 0) rfl rfl (by omega) (by omega) (fun h0 => ?_) (fun h0 => ?_)
    · refine z_eq (x := 1) (y := 1) rfl rfl (by omega) (by omega) (fun _ => ?_) (fun q => absurd rfl q)
      rw [if_pos h0]
      refine z_eq (x := x) (y := 0) rfl rfl (by omega) (by omega) (fun _ => ?_) (fun q => absurd h0 q)
      exact s7_comesTeam hJ hn (by omega)
    · refine z_eq (x := 1) (y := 0) rfl rfl (by omega) (by omega) (fun q => by exfalso; omega) (fun _ => ?_)
      exact hno (fun q => h0 (q.2.mpr (by omega)))
set_option maxRecDepth 100000 in
set_option maxHeartbeats 1000000 in
theorem s7_text {mc m : zMe} (hJ : zJt mc m) : zOk (f_X7_text 50 (zM m)) (fun v m1 => zTq7 mc m (zTxt mc) v m1) := by
  obtain ⟨hP, h3, hT, hW, hE, h57⟩ := id hJ
  unfold f_X7_text
  (first
    | (with_reducible apply z_b_ck; (case h => with_unfolding_all rfl))
    | (with_reducible apply z_I; (case h => first | with_unfolding_all rfl); (case hy => first | ((simp (disch := omega) only [zU_c, zU_e, zU_k, zF_c, zF_i, zF_o, zW_o, zW_i, zC_c, zC_i, zC_o]); rfl) | rfl))
    | (with_reducible apply z_PU; (case he => repeat (with_reducible first | exact zv_l _ | exact zv_r | apply zv_add | apply zv_neg)); (case h => with_reducible first | exact zp_50_12 _))
    | (with_reducible apply z_7whose; (case e5 => repeat (with_reducible first | exact zv_l _ | exact zv_r | apply zv_add | apply zv_neg)); (case e6 => repeat (with_reducible first | exact zv_l _ | exact zv_r | apply zv_add | apply zv_neg)); (case r2 => first | omega | ((simp (disch := omega) only [zU_c, zU_e, zU_k, zF_c, zF_i, zF_o, zW_o, zW_i, zC_c, zC_i, zC_o]); omega)); (case r3 => first | omega | ((simp (disch := omega) only [zU_c, zU_e, zU_k, zF_c, zF_i, zF_o, zW_o, zW_i, zC_c, zC_i, zC_o]); omega)); (case a1 => assumption); (case a2 => assumption); (case a3 => assumption))
    | (with_reducible apply z_7next; (case a1 => assumption); (case r1 => first | omega | ((simp (disch := omega) only [zU_c, zU_e, zU_k, zF_c, zF_i, zF_o, zW_o, zW_i, zC_c, zC_i, zC_o]); omega)); (case a2 => assumption)))
  (first
    | (with_reducible apply z_b_ck; (case h => with_unfolding_all rfl))
    | (with_reducible apply z_I; (case h => first | with_unfolding_all rfl); (case hy => first | ((simp (disch := omega) only [zU_c, zU_e, zU_k, zF_c, zF_i, zF_o, zW_o, zW_i, zC_c, zC_i, zC_o]); rfl) | rfl))
    | (with_reducible apply z_PU; (case he => repeat (with_reducible first | exact zv_l _ | exact zv_r | apply zv_add | apply zv_neg)); (case h => with_reducible first | exact zp_50_12 _))
    | (with_reducible apply z_7whose; (case e5 => repeat (with_reducible first | exact zv_l _ | exact zv_r | apply zv_add | apply zv_neg)); (case e6 => repeat (with_reducible first | exact zv_l _ | exact zv_r | apply zv_add | apply zv_neg)); (case r2 => first | omega | ((simp (disch := omega) only [zU_c, zU_e, zU_k, zF_c, zF_i, zF_o, zW_o, zW_i, zC_c, zC_i, zC_o]); omega)); (case r3 => first | omega | ((simp (disch := omega) only [zU_c, zU_e, zU_k, zF_c, zF_i, zF_o, zW_o, zW_i, zC_c, zC_i, zC_o]); omega)); (case a1 => assumption); (case a2 => assumption); (case a3 => assumption))
    | (with_reducible apply z_7next; (case a1 => assumption); (case r1 => first | omega | ((simp (disch := omega) only [zU_c, zU_e, zU_k, zF_c, zF_i, zF_o, zW_o, zW_i, zC_c, zC_i, zC_o]); omega)); (case a2 => assumption)))
  refine s7_step0 hT ?_
  refine s7_isWord hP h3 hT ?_
  have hfa : zTxt mc = zFa mc 0 → zOk (f_X7_text_24 50 (-1 : Int32) (zM (zNn mc m 0))) (fun v m1 => zTq7 mc m (zTxt mc) v m1) := fun hO => by
    rw [hO]
    unfold f_X7_text_24
    refine z_le (x := 0) (y := -1) rfl rfl (by omega) (by omega) (fun q => by exfalso; omega) (fun _ => ?_)
    exact s7_flt hJ
  refine z_B (fun hn => ?_) (fun hn => ?_)
  · refine hfa ?_
    unfold zTxt
    rw [zIf_n (fun q => hn q.1), zIf_n (fun q => hn q.1), zIf_n (fun q => hn q.1), zIf_n (fun q => hn q.1), zIf_n (fun q => hn q.1)]
  · refine z_call (s7_key hJ hn) (fun v m1 hv => ?_)
    obtain ⟨rfl, hv⟩ := hv
    have hky : ∀ x, zTky mc x ↔ zKw mc 0 x := fun x => ⟨fun q => q.2, fun q => ⟨hn, q⟩⟩
    rcases hv with ⟨rfl, hall⟩ | ⟨x, hx, rfl, hy, hlt⟩
    · refine hfa ?_
      unfold zTxt
      rw [zIf_n (fun q => hall 0 (by omega) ((hky 0).mp q)), zIf_n (fun q => hall 1 (by omega) ((hky 1).mp q)), zIf_n (fun q => hall 2 (by omega) ((hky 2).mp q)), zIf_n (fun q => hall 3 (by omega) ((hky 3).mp q)), zIf_n (fun q => hall 4 (by omega) ((hky 4).mp q))]
    · have hO : zTxt mc = (if (x : Int) = 0 then zOt mc else if (x : Int) = 1 then zOs mc else if (x : Int) = 2 then zOg mc else zOp1 mc (if (x : Int) = 4 then 0 else 1)) := by
        unfold zTxt
        match x, hx, hy, hlt with
        | 0, _, hy, hlt =>
          rw [zIf_p ((hky 0).mpr hy)]
          rfl
        | 1, _, hy, hlt =>
          rw [zIf_n (fun q => hlt 0 (by omega) ((hky 0).mp q)), zIf_p ((hky 1).mpr hy)]
          rfl
        | 2, _, hy, hlt =>
          rw [zIf_n (fun q => hlt 0 (by omega) ((hky 0).mp q)), zIf_n (fun q => hlt 1 (by omega) ((hky 1).mp q)), zIf_p ((hky 2).mpr hy)]
          rfl
        | 3, _, hy, hlt =>
          rw [zIf_n (fun q => hlt 0 (by omega) ((hky 0).mp q)), zIf_n (fun q => hlt 1 (by omega) ((hky 1).mp q)), zIf_n (fun q => hlt 2 (by omega) ((hky 2).mp q)), zIf_p ((hky 3).mpr hy)]
          rfl
        | 4, _, hy, hlt =>
          rw [zIf_n (fun q => hlt 0 (by omega) ((hky 0).mp q)), zIf_n (fun q => hlt 1 (by omega) ((hky 1).mp q)), zIf_n (fun q => hlt 2 (by omega) ((hky 2).mp q)), zIf_n (fun q => hlt 3 (by omega) ((hky 3).mp q)), zIf_p ((hky 4).mpr hy)]
          rfl
        | x + 5, hx, _, _ => exact absurd hx (by omega)
      rw [hO]
      exact s7_text24 (by omega) hJ
