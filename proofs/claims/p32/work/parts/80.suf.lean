/-! by some games; the fewest -/
theorem zAnd_nat {x : Int} {w : Nat} (hw : w < 512) : ∃ b : Nat, b < 512 ∧ zAnd x (w : Int) = (b : Int) := by
  have h1 : (zI x &&& zI (w : Int)).toBitVec.toNat ≤ w := by
    have e : (zI x &&& zI (w : Int)).toBitVec = (zI x).toBitVec &&& (zI (w : Int)).toBitVec := rfl
    have e2 : (zI (w : Int)).toBitVec.toNat = w := by
      rw [zI_ofNat]
      show (BitVec.ofNat 32 w).toNat = w
      rw [BitVec.toNat_ofNat]
      exact Nat.mod_eq_of_lt (by omega)
    rw [e, BitVec.toNat_and, e2]
    exact Nat.and_le_right
  refine ⟨(zI x &&& zI (w : Int)).toBitVec.toNat, by omega, ?_⟩
  unfold zAnd
  show BitVec.toInt (zI x &&& zI (w : Int)).toBitVec = _
  exact BitVec.toInt_eq_toNat_of_lt (by omega)
theorem zDw_range {m : zMe} {r : Nat} {l : List Nat} {pat : Nat} {D : Int} (hD : 0 ≤ D ∧ D ≤ 1) (n : Nat) (u : Int) : 0 ≤ zDw m r l pat D n u ∧ zDw m r l pat D n u ≤ n := by
  have h := zSm_range (n := n) (f := fun j => if pat.testBit (l.getD j 0) = true then (if m (r + 4) ((l.getD j 0 : Nat) : Int) = u ∨ m (r + 5) ((l.getD j 0 : Nat) : Int) = u then D else 0) else 0) (a := 0) (b := 1) (by omega) (by omega) (fun k hk => by (repeat' split) <;> omega)
  unfold zDw
  omega
theorem zEs_Rd {m w : zMe} {r : Nat} {l : List Nat} (hW : zWf m r) (h : zEs w m r l) (hl : ∀ x ∈ l, (x : Int) < m r 1) (hn : l.length ≤ 9) (h6 : 0 ≤ w 30 6 ∧ w 30 6 ≤ 3) (h7 : 0 ≤ w 30 7 ∧ w 30 7 ≤ 1) (h8 : w 30 8 = 0 ∨ w 30 8 = 1) (hr : ∀ u, 0 ≤ u → u < 6 → -1000 ≤ w 31 u ∧ w 31 u ≤ 1000) : zRd1 w := by
  have hT := hW.1.1
  refine ⟨by rw [h.1]; omega, h6, h7, h8, fun i q0 q1 => ?_, hr⟩
  rw [h.1] at q1
  have hj : i.toNat < l.length := by omega
  have e : ((i.toNat : Nat) : Int) = i := by omega
  obtain ⟨-, p2, p3⟩ := h.2 i.toNat hj
  rw [e] at p2 p3
  have hlt := hl (l.getD i.toNat 0) (by rw [show l.getD i.toNat 0 = l[i.toNat] from by simp [List.getD, hj]]; exact List.getElem_mem hj)
  have hg := hW.2.2.1 ((l.getD i.toNat 0 : Nat) : Int) (by omega) hlt
  rw [p2, p3]
  omega
theorem zLs_lt2 {m : zMe} {r : Nat} {t : Int} (h : 0 ≤ m r 1) : ∀ x ∈ zLs m r t (m r 1).toNat, (x : Int) < m r 1 := fun x hx => by
  have := zLs_lt m r t (m r 1).toNat x hx
  omega
theorem s6_suf40 {m M : zMe} (h : zRd1 M) (hF : zFr 27 m M) : zOk (f_X6_suffices_40 0 (zM M)) (fun v m1 => (∃ p : Prop, v = zI (zE p)) ∧ zFr 27 m m1) := by
  unfold f_X6_suffices_40
  (first
    | (with_reducible apply z_b_R; (case h => first | with_unfolding_all rfl))
    | with_reducible refine z_bz ?_
    | with_reducible refine z_bzE ?_
    | (with_reducible apply z_bzl; (case h => omega))
    | (with_reducible apply z_1canEnd; (case a1 => assumption); intro _ _ _))
  refine z_1canEnd h (fun v m1 hp => ?_)
  obtain ⟨w3, rfl, rfl, -⟩ := hp
  (first
    | (with_reducible apply z_b_R; (case h => first | with_unfolding_all rfl))
    | with_reducible refine z_bz ?_
    | with_reducible refine z_bzE ?_
    | (with_reducible apply z_bzl; (case h => omega))
    | (with_reducible apply z_1canEnd; (case a1 => assumption); intro _ _ _))
  exact ⟨_, _, rfl, ⟨_, rfl⟩, zFr_W hF (by omega)⟩
theorem s6_suf25 {m : zMe} {t d : Int} {bits wins : Nat} (r1 : 0 ≤ t ∧ t < m 3 0) (r2 : bits < 512) (r3 : d = 0 ∨ d = 1) (r4 : wins < 512) (a1 : zWf m 3) : zOk (f_X6_suffices_25 0 (zI (bits : Int)) (zI d) (zI (wins : Int)) (zI t) 3 30 (zM m)) (fun v m1 => (∃ p : Prop, v = zI (zE p)) ∧ zFr 27 m m1) := by
  have hN := a1.1.2.1
  have hK := a1.1.2.2
  unfold f_X6_suffices_25
  refine z_1open (r := 3) (Or.inl rfl) rfl rfl r1 a1 r4 (fun _ w hw => ?_)
  have hS : zSame m (zW m 30 34 w) 3 := zSame_W (by omega)
  refine z_eq (x := d) (y := 0) rfl rfl (by omega) (by omega) (fun q => ?_) (fun q => ?_)
  · exact s6_suf40 (zRd1_W (zOp_Rd a1 r1.1 hw)) (zFr_W (zFr_r _ _) (by omega))
  · (first
    | (with_reducible apply z_b_R; (case h => first | with_unfolding_all rfl))
    | (with_reducible apply z_1open; (case a1 => assumption); (case e1 => repeat (with_reducible first | exact zv_l _ | exact zv_r | apply zv_add)); (case e2 => repeat (with_reducible first | exact zv_l _ | exact zv_r | apply zv_add)); (case r1 => first | omega | ((simp (disch := omega) only [zU_c, zU_e, zU_k, zF_c, zF_i, zF_o, zW_o, zW_i, zC_c, zC_i, zC_o]); omega)); (case a2 => assumption); (case a3 => assumption); intro _ _ _)
    | (with_reducible apply z_1drawOnly; (case a1 => assumption); (case e1 => repeat (with_reducible first | exact zv_l _ | exact zv_r | apply zv_add)); (case a2 => assumption); (case a3 => assumption); (case a4 => assumption); (case a5 => assumption); (case a6 => assumption); intro _ _ _))
    have hln := zLs_len m 3 t (m 3 1).toNat
    have hE : zEs (zW m 30 34 w) (zW m 30 34 w) 3 (zLs m 3 t (m 3 1).toNat) := by
      have h1 := hw.1
      unfold zEs at h1 ⊢
      rw [zW_f (c := 30) (by omega), zW_f (c := 34) (by omega), zW_f (c := 32) (by omega), zW_f (c := 33) (by omega)]
      simp only [hS (3 + 4) (by omega) (by omega), hS (3 + 5) (by omega) (by omega)]
      exact h1
    have hlt : ∀ x ∈ zLs m 3 t (m 3 1).toNat, (x : Int) < (zW m 30 34 w) 3 1 := by
      rw [hS 3 (by omega) (by omega)]
      exact zLs_lt2 hN.1
    have hRd := zRd1_W (m := m) (zOp_Rd a1 r1.1 hw)
    refine z_1drawOnly (r := 3) (Or.inl rfl) rfl (zWf_S hS a1) hE hlt r2 (by omega) (fun _ w2 h2 => ?_)
    obtain ⟨p1, p2, p3, p4, p5⟩ := h2
    have hfl := zFl_len (zLs m 3 t (m 3 1).toNat) bits (zLs m 3 t (m 3 1).toNat).length
    refine s6_suf40 (zRd1_W (zEs_Rd (zWf_S hS a1) p1 (fun x hx => ?_) (by omega) (by rw [p3]; exact hRd.2.1) (by rw [p4]; exact hRd.2.2.1) (Or.inl p5) (fun u u0 u1 => ?_))) (zFr_W (zFr_W (zFr_r _ _) (by omega)) (by omega))
    · have hb : ∀ x ∈ zLs m 3 t (m 3 1).toNat, x < (m 3 1).toNat := zLs_lt m 3 t _
      have := zFl_lt hb (Nat.le_refl _) x hx
      rw [hS 3 (by omega) (by omega)]
      omega
    · have h1 := zDw_range (m := zW m 30 34 w) (r := 3) (l := zLs m 3 t (m 3 1).toNat) (pat := bits) (D := zW m 30 34 w 30 7) hRd.2.2.1 (zLs m 3 t (m 3 1).toNat).length u
      have h2 := zRo_range a1 r1.1 u0 wins
      rw [p2 u u0 u1, zW_i (c := 31) (by omega), hw.2.1 u u0 u1]
      omega
set_option maxRecDepth 100000 in
set_option maxHeartbeats 1000000 in
theorem s_6suffices {m : zMe} {e1 e2 e3 : Int32} {t d : Int} {bits : Nat} (e4 : e1 = zI t) (e5 : e2 = zI (bits : Int)) (e6 : e3 = zI d) (r1 : 0 ≤ t ∧ t < m 3 0) (r2 : bits < 512) (r3 : d = 0 ∨ d = 1) (a1 : zWf m 3) : zOk (f_X6_suffices 0 e1 e2 e3 (zM m)) (fun v m1 => (∃ p : Prop, v = zI (zE p)) ∧ zFr 27 m m1) := by
  subst e4; subst e5; subst e6
  have hT := a1.1.1
  have hN := a1.1.2.1
  unfold f_X6_suffices
  (first
    | (with_reducible apply z_b_ck; (case h => with_unfolding_all rfl))
    | (with_reducible apply z_b_R; (case h => first | with_unfolding_all rfl))
    | (with_reducible apply z_0leftOf; (case a1 => assumption); (case e1 => repeat (with_reducible first | exact zv_l _ | exact zv_r)); (case r2 => first | omega | ((simp (disch := omega) only [zU_c, zU_e, zU_k, zF_c, zF_i, zF_o, zW_o, zW_i, zC_c, zC_i, zC_o]); omega)); (case r1 => first | omega | ((simp (disch := omega) only [zU_c, zU_e, zU_k, zF_c, zF_i, zF_o, zW_o, zW_i, zC_c, zC_i, zC_o]); omega)); (case a2 => assumption)))
  (first
    | (with_reducible apply z_b_ck; (case h => with_unfolding_all rfl))
    | (with_reducible apply z_b_R; (case h => first | with_unfolding_all rfl))
    | (with_reducible apply z_0leftOf; (case a1 => assumption); (case e1 => repeat (with_reducible first | exact zv_l _ | exact zv_r)); (case r2 => first | omega | ((simp (disch := omega) only [zU_c, zU_e, zU_k, zF_c, zF_i, zF_o, zW_o, zW_i, zC_c, zC_i, zC_o]); omega)); (case r1 => first | omega | ((simp (disch := omega) only [zU_c, zU_e, zU_k, zF_c, zF_i, zF_o, zW_o, zW_i, zC_c, zC_i, zC_o]); omega)); (case a2 => assumption)))
  (first
    | (with_reducible apply z_b_ck; (case h => with_unfolding_all rfl))
    | (with_reducible apply z_b_R; (case h => first | with_unfolding_all rfl))
    | (with_reducible apply z_0leftOf; (case a1 => assumption); (case e1 => repeat (with_reducible first | exact zv_l _ | exact zv_r)); (case r2 => first | omega | ((simp (disch := omega) only [zU_c, zU_e, zU_k, zF_c, zF_i, zF_o, zW_o, zW_i, zC_c, zC_i, zC_o]); omega)); (case r1 => first | omega | ((simp (disch := omega) only [zU_c, zU_e, zU_k, zF_c, zF_i, zF_o, zW_o, zW_i, zC_c, zC_i, zC_o]); omega)); (case a2 => assumption)))
  refine z_eq (x := d) (y := 0) rfl rfl (by omega) (by omega) (fun q => ?_) (fun q => ?_)
  · exact s6_suf25 r1 r2 r3 r2 a1
  · (first
    | (with_reducible apply z_b_ck; (case h => with_unfolding_all rfl))
    | (with_reducible apply z_b_R; (case h => first | with_unfolding_all rfl))
    | (with_reducible apply z_0leftOf; (case a1 => assumption); (case e1 => repeat (with_reducible first | exact zv_l _ | exact zv_r)); (case r2 => first | omega | ((simp (disch := omega) only [zU_c, zU_e, zU_k, zF_c, zF_i, zF_o, zW_o, zW_i, zC_c, zC_i, zC_o]); omega)); (case r1 => first | omega | ((simp (disch := omega) only [zU_c, zU_e, zU_k, zF_c, zF_i, zF_o, zW_o, zW_i, zC_c, zC_i, zC_o]); omega)); (case a2 => assumption)))
    refine z_0leftOf (r := 3) (Or.inl rfl) rfl (by omega) hN (zWf_g2 a1) ?_
    exact s6_suf25 r1 r2 r3 (zOwn_lt hN) a1
theorem z_6suffices {m : zMe} {e1 e2 e3 : Int32} {t d : Int} {bits : Nat} (e4 : e1 = zI t) (e5 : e2 = zI (bits : Int)) (e6 : e3 = zI d) (r1 : 0 ≤ t ∧ t < m 3 0) (r2 : bits < 512) (r3 : d = 0 ∨ d = 1) (a1 : zWf m 3) {α : Type} {kf : Int32 × Hp → Option (α × Hp)} {Q : α → zMe → Prop} (K : ∀ (v : Int32) (m1 : zMe), (fun v m1 => (∃ p : Prop, v = zI (zE p)) ∧ zFr 27 m m1) v m1 → zOk (kf (v, zM m1)) Q) : zOk ((f_X6_suffices 0 e1 e2 e3 (zM m)).bind kf) Q := z_call (s_6suffices e4 e5 e6 r1 r2 r3 a1) K
set_option maxRecDepth 100000 in
set_option maxHeartbeats 1000000 in
theorem s_6fewestFor {m : zMe} {e1 e2 e3 : Int32} {t d : Int} {wi : Nat} (e4 : e1 = zI t) (e5 : e2 = zI (wi : Int)) (e6 : e3 = zI d) (r1 : 0 ≤ t ∧ t < m 3 0) (r2 : wi < 512) (r3 : d = 0 ∨ d = 1) (a1 : zWf m 3) : zOk (f_X6_fewestFor 0 e1 e2 e3 (zM m)) (fun v m1 => (v = zI (-1) ∨ ∃ b : Nat, b < 512 ∧ v = zI (b : Int)) ∧ zFr 27 m m1) := by
  subst e4; subst e5; subst e6
  have hT := a1.1.1
  unfold f_X6_fewestFor
  (first
    | (with_reducible apply z_nm; (case he => repeat (with_reducible first | exact zv_l _ | exact zv_r | apply zv_add | apply zv_sub | apply zv_neg | apply zv_and)))
    | (with_reducible apply z_b_ck; (case h => with_unfolding_all rfl))
    | (with_reducible apply z_b_R; (case h => first | with_unfolding_all rfl))
    | (with_reducible apply z_6canWin; (case a1 => assumption); (case e1 => repeat (with_reducible first | exact zv_l _ | exact zv_r | apply zv_add | apply zv_sub | apply zv_neg | apply zv_and)); (case r1 => first | omega | ((simp (disch := omega) only [zU_c, zU_e, zU_k, zF_c, zF_i, zF_o, zW_o, zW_i, zC_c, zC_i, zC_o]); omega)); (case a2 => assumption); intro _ _ _)
    | (with_reducible apply z_6suffices; (case e4 => repeat (with_reducible first | exact zv_l _ | exact zv_r | apply zv_add | apply zv_sub | apply zv_neg | apply zv_and)); (case e5 => repeat (with_reducible first | exact zv_l _ | exact zv_r | apply zv_add | apply zv_sub | apply zv_neg | apply zv_and)); (case e6 => repeat (with_reducible first | exact zv_l _ | exact zv_r | apply zv_add | apply zv_sub | apply zv_neg | apply zv_and)); (case r1 => first | omega | ((simp (disch := omega) only [zU_c, zU_e, zU_k, zF_c, zF_i, zF_o, zW_o, zW_i, zC_c, zC_i, zC_o]); omega)); (case r2 => first | omega | ((simp (disch := omega) only [zU_c, zU_e, zU_k, zF_c, zF_i, zF_o, zW_o, zW_i, zC_c, zC_i, zC_o]); omega)); (case r3 => first | omega | ((simp (disch := omega) only [zU_c, zU_e, zU_k, zF_c, zF_i, zF_o, zW_o, zW_i, zC_c, zC_i, zC_o]); omega)); (case a1 => assumption); intro _ _ _))
  (first
    | (with_reducible apply z_nm; (case he => repeat (with_reducible first | exact zv_l _ | exact zv_r | apply zv_add | apply zv_sub | apply zv_neg | apply zv_and)))
    | (with_reducible apply z_b_ck; (case h => with_unfolding_all rfl))
    | (with_reducible apply z_b_R; (case h => first | with_unfolding_all rfl))
    | (with_reducible apply z_6canWin; (case a1 => assumption); (case e1 => repeat (with_reducible first | exact zv_l _ | exact zv_r | apply zv_add | apply zv_sub | apply zv_neg | apply zv_and)); (case r1 => first | omega | ((simp (disch := omega) only [zU_c, zU_e, zU_k, zF_c, zF_i, zF_o, zW_o, zW_i, zC_c, zC_i, zC_o]); omega)); (case a2 => assumption); intro _ _ _)
    | (with_reducible apply z_6suffices; (case e4 => repeat (with_reducible first | exact zv_l _ | exact zv_r | apply zv_add | apply zv_sub | apply zv_neg | apply zv_and)); (case e5 => repeat (with_reducible first | exact zv_l _ | exact zv_r | apply zv_add | apply zv_sub | apply zv_neg | apply zv_and)); (case e6 => repeat (with_reducible first | exact zv_l _ | exact zv_r | apply zv_add | apply zv_sub | apply zv_neg | apply zv_and)); (case r1 => first | omega | ((simp (disch := omega) only [zU_c, zU_e, zU_k, zF_c, zF_i, zF_o, zW_o, zW_i, zC_c, zC_i, zC_o]); omega)); (case r2 => first | omega | ((simp (disch := omega) only [zU_c, zU_e, zU_k, zF_c, zF_i, zF_o, zW_o, zW_i, zC_c, zC_i, zC_o]); omega)); (case r3 => first | omega | ((simp (disch := omega) only [zU_c, zU_e, zU_k, zF_c, zF_i, zF_o, zW_o, zW_i, zC_c, zC_i, zC_o]); omega)); (case a1 => assumption); intro _ _ _))
  refine z_6canWin (r := 3) (Or.inl rfl) rfl r1 a1 (fun v m2 hv => ?_)
  obtain ⟨rfl, hF2⟩ := hv
  refine z_E (fun hq => ?_) (fun hq => ?_)
  · exact ⟨_, _, rfl, Or.inl rfl, hF2⟩
  · refine z_lp (fun n v m1 => ∃ s : Int, v = (0, zI t, zI (wi : Int), zI d, zI s) ∧ 0 ≤ s ∧ s ≤ 10 ∧ n = (10 - s).toNat ∧ zFr 27 m m1) (fun _ _ v m1 => (v = zI (-1) ∨ ∃ b : Nat, b < 512 ∧ v = zI (b : Int)) ∧ zFr 27 m m1) ?_ 600 10 _ _ (by omega) ⟨0, rfl, by omega, by omega, by omega, hF2⟩
    rintro n v m1 k ⟨s, rfl, h0, h1, rfl, hF⟩ hk
    unfold f_X6_fewestFor_17
    dsimp only
    (first
    | (with_reducible apply z_B; all_goals (intro _; try (exfalso; omega)))
    | (with_reducible apply z_E; all_goals intro _)
    | (with_reducible apply z_lt; (case ha => repeat (with_reducible first | exact zv_l _ | exact zv_r | apply zv_add | apply zv_sub | apply zv_neg | apply zv_and)); (case hb => repeat (with_reducible first | exact zv_l _ | exact zv_r | apply zv_add | apply zv_sub | apply zv_neg | apply zv_and)); (case hx => omega); (case hy => omega); all_goals (intro _; try (exfalso; omega)))
    | (with_reducible apply z_le; (case ha => repeat (with_reducible first | exact zv_l _ | exact zv_r | apply zv_add | apply zv_sub | apply zv_neg | apply zv_and)); (case hb => repeat (with_reducible first | exact zv_l _ | exact zv_r | apply zv_add | apply zv_sub | apply zv_neg | apply zv_and)); (case hx => omega); (case hy => omega); all_goals (intro _; try (exfalso; omega)))
    | (with_reducible apply z_eq; (case ha => repeat (with_reducible first | exact zv_l _ | exact zv_r | apply zv_add | apply zv_sub | apply zv_neg | apply zv_and)); (case hb => repeat (with_reducible first | exact zv_l _ | exact zv_r | apply zv_add | apply zv_sub | apply zv_neg | apply zv_and)); (case hx => omega); (case hy => omega); all_goals (intro _; try (exfalso; omega))))
    · exact ⟨_, _, rfl, Or.inl rfl, hF⟩
    · refine z_lp (fun n v m1 => ∃ (b : Nat) (i : Int), v = (0, zI t, zI (wi : Int), zI d, zI s, zI (b : Int), zI i) ∧ b < 512 ∧ 0 ≤ i ∧ i ≤ 512 ∧ n = (512 - i).toNat ∧ zFr 27 m m1) (fun _ _ v m1 => (v = zI (-1) ∨ ∃ b : Nat, b < 512 ∧ v = zI (b : Int)) ∧ zFr 27 m m1) ?_ 600 512 _ _ (by omega) ⟨0, 0, rfl, by omega, by omega, by omega, by omega, hF⟩
      rintro n v m3 k2 ⟨b, i, rfl, hb, i0, i1, rfl, hF3⟩ hk2
      have hnext : ∀ m4, zFr 27 m m4 → i < 512 → zOk (f_X6_fewestFor_62 k k2 0 (zI t) (zI (wi : Int)) (zI d) (zI s) (zI (b : Int)) (zI i) (zM m4)) (fun v m1 => (v = zI (-1) ∨ ∃ b : Nat, b < 512 ∧ v = zI (b : Int)) ∧ zFr 27 m m1) := fun m4 hF4 hi => by
        obtain ⟨b', hb', e'⟩ := zAnd_nat (x := (b : Int) - (wi : Int)) r2
        unfold f_X6_fewestFor_62
        refine z_nm (x := (b' : Int)) (by rw [← e']; exact zv_and (zv_sub rfl rfl) rfl) ?_
        refine z_eq (x := (b' : Int)) (y := 0) rfl rfl (by omega) (by omega) (fun _ => ?_) (fun _ => ?_)
        · repeat' (first
    | (with_reducible apply z_nm; (case he => repeat (with_reducible first | exact zv_l _ | exact zv_r | apply zv_add | apply zv_sub | apply zv_neg | apply zv_and)))
    | (with_reducible apply z_b_ck; (case h => with_unfolding_all rfl))
    | (with_reducible apply z_b_R; (case h => first | with_unfolding_all rfl))
    | (with_reducible apply z_6canWin; (case a1 => assumption); (case e1 => repeat (with_reducible first | exact zv_l _ | exact zv_r | apply zv_add | apply zv_sub | apply zv_neg | apply zv_and)); (case r1 => first | omega | ((simp (disch := omega) only [zU_c, zU_e, zU_k, zF_c, zF_i, zF_o, zW_o, zW_i, zC_c, zC_i, zC_o]); omega)); (case a2 => assumption); intro _ _ _)
    | (with_reducible apply z_6suffices; (case e4 => repeat (with_reducible first | exact zv_l _ | exact zv_r | apply zv_add | apply zv_sub | apply zv_neg | apply zv_and)); (case e5 => repeat (with_reducible first | exact zv_l _ | exact zv_r | apply zv_add | apply zv_sub | apply zv_neg | apply zv_and)); (case e6 => repeat (with_reducible first | exact zv_l _ | exact zv_r | apply zv_add | apply zv_sub | apply zv_neg | apply zv_and)); (case r1 => first | omega | ((simp (disch := omega) only [zU_c, zU_e, zU_k, zF_c, zF_i, zF_o, zW_o, zW_i, zC_c, zC_i, zC_o]); omega)); (case r2 => first | omega | ((simp (disch := omega) only [zU_c, zU_e, zU_k, zF_c, zF_i, zF_o, zW_o, zW_i, zC_c, zC_i, zC_o]); omega)); (case r3 => first | omega | ((simp (disch := omega) only [zU_c, zU_e, zU_k, zF_c, zF_i, zF_o, zW_o, zW_i, zC_c, zC_i, zC_o]); omega)); (case a1 => assumption); intro _ _ _))
          exact hk _ _ _ (by omega) ⟨s + 1, rfl, by omega, by omega, rfl, hF4⟩
        · repeat' (first
    | (with_reducible apply z_nm; (case he => repeat (with_reducible first | exact zv_l _ | exact zv_r | apply zv_add | apply zv_sub | apply zv_neg | apply zv_and)))
    | (with_reducible apply z_b_ck; (case h => with_unfolding_all rfl))
    | (with_reducible apply z_b_R; (case h => first | with_unfolding_all rfl))
    | (with_reducible apply z_6canWin; (case a1 => assumption); (case e1 => repeat (with_reducible first | exact zv_l _ | exact zv_r | apply zv_add | apply zv_sub | apply zv_neg | apply zv_and)); (case r1 => first | omega | ((simp (disch := omega) only [zU_c, zU_e, zU_k, zF_c, zF_i, zF_o, zW_o, zW_i, zC_c, zC_i, zC_o]); omega)); (case a2 => assumption); intro _ _ _)
    | (with_reducible apply z_6suffices; (case e4 => repeat (with_reducible first | exact zv_l _ | exact zv_r | apply zv_add | apply zv_sub | apply zv_neg | apply zv_and)); (case e5 => repeat (with_reducible first | exact zv_l _ | exact zv_r | apply zv_add | apply zv_sub | apply zv_neg | apply zv_and)); (case e6 => repeat (with_reducible first | exact zv_l _ | exact zv_r | apply zv_add | apply zv_sub | apply zv_neg | apply zv_and)); (case r1 => first | omega | ((simp (disch := omega) only [zU_c, zU_e, zU_k, zF_c, zF_i, zF_o, zW_o, zW_i, zC_c, zC_i, zC_o]); omega)); (case r2 => first | omega | ((simp (disch := omega) only [zU_c, zU_e, zU_k, zF_c, zF_i, zF_o, zW_o, zW_i, zC_c, zC_i, zC_o]); omega)); (case r3 => first | omega | ((simp (disch := omega) only [zU_c, zU_e, zU_k, zF_c, zF_i, zF_o, zW_o, zW_i, zC_c, zC_i, zC_o]); omega)); (case a1 => assumption); intro _ _ _))
          exact hk2 _ _ _ (by omega) ⟨b', i + 1, rfl, hb', by omega, by omega, rfl, hF4⟩
      have hS3 : zSame m m3 3 := zFr_S hF3 (by omega)
      have hp := zPop_le b
      unfold f_X6_fewestFor_30
      dsimp only
      (first
    | (with_reducible apply z_B; all_goals (intro _; try (exfalso; omega)))
    | (with_reducible apply z_E; all_goals intro _)
    | (with_reducible apply z_lt; (case ha => repeat (with_reducible first | exact zv_l _ | exact zv_r | apply zv_add | apply zv_sub | apply zv_neg | apply zv_and)); (case hb => repeat (with_reducible first | exact zv_l _ | exact zv_r | apply zv_add | apply zv_sub | apply zv_neg | apply zv_and)); (case hx => omega); (case hy => omega); all_goals (intro _; try (exfalso; omega)))
    | (with_reducible apply z_le; (case ha => repeat (with_reducible first | exact zv_l _ | exact zv_r | apply zv_add | apply zv_sub | apply zv_neg | apply zv_and)); (case hb => repeat (with_reducible first | exact zv_l _ | exact zv_r | apply zv_add | apply zv_sub | apply zv_neg | apply zv_and)); (case hx => omega); (case hy => omega); all_goals (intro _; try (exfalso; omega)))
    | (with_reducible apply z_eq; (case ha => repeat (with_reducible first | exact zv_l _ | exact zv_r | apply zv_add | apply zv_sub | apply zv_neg | apply zv_and)); (case hb => repeat (with_reducible first | exact zv_l _ | exact zv_r | apply zv_add | apply zv_sub | apply zv_neg | apply zv_and)); (case hx => omega); (case hy => omega); all_goals (intro _; try (exfalso; omega))))
      · repeat' (first
    | (with_reducible apply z_nm; (case he => repeat (with_reducible first | exact zv_l _ | exact zv_r | apply zv_add | apply zv_sub | apply zv_neg | apply zv_and)))
    | (with_reducible apply z_b_ck; (case h => with_unfolding_all rfl))
    | (with_reducible apply z_b_R; (case h => first | with_unfolding_all rfl))
    | (with_reducible apply z_6canWin; (case a1 => assumption); (case e1 => repeat (with_reducible first | exact zv_l _ | exact zv_r | apply zv_add | apply zv_sub | apply zv_neg | apply zv_and)); (case r1 => first | omega | ((simp (disch := omega) only [zU_c, zU_e, zU_k, zF_c, zF_i, zF_o, zW_o, zW_i, zC_c, zC_i, zC_o]); omega)); (case a2 => assumption); intro _ _ _)
    | (with_reducible apply z_6suffices; (case e4 => repeat (with_reducible first | exact zv_l _ | exact zv_r | apply zv_add | apply zv_sub | apply zv_neg | apply zv_and)); (case e5 => repeat (with_reducible first | exact zv_l _ | exact zv_r | apply zv_add | apply zv_sub | apply zv_neg | apply zv_and)); (case e6 => repeat (with_reducible first | exact zv_l _ | exact zv_r | apply zv_add | apply zv_sub | apply zv_neg | apply zv_and)); (case r1 => first | omega | ((simp (disch := omega) only [zU_c, zU_e, zU_k, zF_c, zF_i, zF_o, zW_o, zW_i, zC_c, zC_i, zC_o]); omega)); (case r2 => first | omega | ((simp (disch := omega) only [zU_c, zU_e, zU_k, zF_c, zF_i, zF_o, zW_o, zW_i, zC_c, zC_i, zC_o]); omega)); (case r3 => first | omega | ((simp (disch := omega) only [zU_c, zU_e, zU_k, zF_c, zF_i, zF_o, zW_o, zW_i, zC_c, zC_i, zC_o]); omega)); (case a1 => assumption); intro _ _ _))
        exact hk _ _ _ (by omega) ⟨s + 1, rfl, by omega, by omega, rfl, hF3⟩
      · refine z_6bitCount rfl hb ?_
        refine z_eq (x := (zPop b : Int)) (y := s) rfl rfl (by omega) (by omega) (fun _ => ?_) (fun _ => ?_)
        · refine z_6suffices rfl rfl rfl (by rw [hS3 3 (by omega) (by omega)]; exact r1) hb r3 (zWf_S hS3 a1) (fun v m5 hv => ?_)
          obtain ⟨⟨p, rfl⟩, hF5⟩ := hv
          refine z_E (fun _ => ?_) (fun _ => ?_)
          · exact hnext _ (zFr_t hF3 hF5 (by omega)) (by omega)
          · exact ⟨_, _, rfl, Or.inr ⟨b, hb, rfl⟩, zFr_t hF3 hF5 (by omega)⟩
        · exact hnext _ hF3 (by omega)
theorem z_6fewestFor {m : zMe} {e1 e2 e3 : Int32} {t d : Int} {wi : Nat} (e4 : e1 = zI t) (e5 : e2 = zI (wi : Int)) (e6 : e3 = zI d) (r1 : 0 ≤ t ∧ t < m 3 0) (r2 : wi < 512) (r3 : d = 0 ∨ d = 1) (a1 : zWf m 3) {α : Type} {kf : Int32 × Hp → Option (α × Hp)} {Q : α → zMe → Prop} (K : ∀ (v : Int32) (m1 : zMe), (fun v m1 => (v = zI (-1) ∨ ∃ b : Nat, b < 512 ∧ v = zI (b : Int)) ∧ zFr 27 m m1) v m1 → zOk (kf (v, zM m1)) Q) : zOk ((f_X6_fewestFor 0 e1 e2 e3 (zM m)).bind kf) Q := z_call (s_6fewestFor e4 e5 e6 r1 r2 r3 a1) K
