/-! since: class and reference tell the same -/
/-- the group at 3 as of day d -/
def zFdd (m : zMe) (d : Int) : zMe := fun c j => if c = 3 + 7 then (if d < m (3 + 6) j then -1 else m (3 + 7) j) else m c j
theorem zFdd_o {m : zMe} {d j : Int} {c : Nat} (hc : ¬ c = 3 + 7) : zFdd m d c j = m c j := by
  unfold zFdd
  rw [if_neg hc]
theorem zFdd_r {m : zMe} {d j : Int} : zFdd m d (3 + 7) j = if d < m (3 + 6) j then -1 else m (3 + 7) j := by
  unfold zFdd
  rw [if_pos rfl]
theorem zFdd_Wf {m : zMe} {d : Int} (hW : zWf m 3) : zWf (zFdd m d) 3 := by
  obtain ⟨⟨w0, w1, w2⟩, wa, wb, wc⟩ := hW
  refine ⟨⟨w0, w1, w2⟩, fun t t0 t1 => ?_, fun k k0 k1 => ?_, fun j j0 j1 => ?_⟩
  · rw [zFdd_o (by omega), zFdd_o (by omega)]
    exact wa t t0 t1
  · rw [zFdd_o (by omega)] at k1
    have := wb k k0 k1
    rw [zFdd_r, zFdd_o (c := 3 + 4) (by omega), zFdd_o (c := 3 + 5) (by omega), zFdd_o (c := 3 + 6) (by omega), zFdd_o (c := 3) (by omega)]
    split <;> omega
  · rw [zFdd_o (by omega)]
    exact wc j j0 j1
theorem zFdd_q {m m1 m2 w : zMe} {d : Int} (hT : zTk m1 19 3 m2) (hS : zSame m m1 3) (hW : zWf m 3) (hw : ∀ j, w (19 + 7) j = if 0 ≤ j ∧ j < m2 19 1 ∧ d < m2 (19 + 6) j then -1 else m2 (19 + 7) j) : zGq (zW m2 (19 + 7) (19 + 7) w) 19 (zFdd m d) 3 := by
  obtain ⟨⟨t0, t1, t2⟩, a1, a2, a3, a4, a5, a6, a7⟩ := hT
  have hTT := hW.1.1
  have hN := hW.1.2.1
  refine ⟨⟨?_, ?_, ?_⟩, fun t q0 q1 => ?_, fun k k0 k1 => ?_⟩
  · rw [zW_o (by omega), t0, hS 3 (by omega) (by omega), zFdd_o (by omega)]
  · rw [zW_o (by omega), t1, hS 3 (by omega) (by omega), zFdd_o (by omega)]
  · rw [zW_o (by omega), t2, hS 3 (by omega) (by omega), zFdd_o (by omega)]
  · rw [zFdd_o (by omega)] at q1
    rw [zW_o (by omega), a1 t q0 (by omega), hS (3 + 1) (by omega) (by omega), zFdd_o (by omega)]
  · rw [zFdd_o (by omega)] at k1
    rw [zW_o (c := 19 + 4) (by omega), zW_o (c := 19 + 5) (by omega), zW_i (c := 19 + 7) (by omega), hw, t1, a4 k k0 (by omega), a5 k k0 (by omega), a6 k k0 (by omega), a7 k k0 (by omega), hS 3 (by omega) (by omega), hS (3 + 4) (by omega) (by omega), hS (3 + 5) (by omega) (by omega), hS (3 + 6) (by omega) (by omega), hS (3 + 7) (by omega) (by omega), zFdd_o (c := 3 + 4) (by omega), zFdd_o (c := 3 + 5) (by omega), zFdd_r]
    refine ⟨rfl, rfl, ?_⟩
    by_cases hq : d < m (3 + 6) k
    · rw [if_pos hq, if_pos ⟨k0, k1, hq⟩]
    · rw [if_neg hq, if_neg (fun q => hq q.2.2)]
theorem zFdd_skip {m : zMe} {d : Int} (h : ¬ ∃ k, (0 ≤ k ∧ k < m 3 1) ∧ m (3 + 6) k = d ∧ ¬ m (3 + 7) k = -1) : zGq (zFdd m d) 3 (zFdd m (d - 1)) 3 := by
  refine ⟨⟨rfl, rfl, rfl⟩, fun t _ _ => ?_, fun k k0 k1 => ?_⟩
  · rw [zFdd_o (by omega), zFdd_o (by omega)]
  · rw [zFdd_o (by omega)] at k1
    rw [zFdd_o (by omega), zFdd_o (by omega), zFdd_o (by omega), zFdd_o (by omega), zFdd_r, zFdd_r]
    refine ⟨rfl, rfl, ?_⟩
    have hn : ¬ (m (3 + 6) k = d ∧ ¬ m (3 + 7) k = -1) := fun q => h ⟨k, ⟨k0, k1⟩, q⟩
    split <;> split <;> omega
theorem zSu_q {a b : zMe} {ra rb : Nat} (h : zGq a ra b rb) {t : Int} (t0 : 0 ≤ t) : zSu a ra t ↔ zSu b rb t := by
  have e : ∀ u, 0 ≤ u → zRe a ra u = zRe b rb u := fun u u0 => by
    unfold zRe
    rw [zPt_q h u0, zOwn_q h, h.1.2.2]
  unfold zSu
  rw [h.1.1, zPt_q h t0]
  constructor
  · intro q u u0 u1 hu
    rw [← e u u0]
    exact q u u0 u1 hu
  · intro q u u0 u1 hu
    rw [e u u0]
    exact q u u0 u1 hu
/-- what is asked of day d -/
def zScd (m : zMe) (t x d : Int) : Prop := (x = 0 → ¬ (zHn (zFdd m d) 3 t).isSome = true) ∧ (¬ x = 0 → zSu (zFdd m d) 3 t)
theorem zScd_skip {m : zMe} {t x d : Int} (t0 : 0 ≤ t) (h : ¬ ∃ k, (0 ≤ k ∧ k < m 3 1) ∧ m (3 + 6) k = d ∧ ¬ m (3 + 7) k = -1) (hp : ¬ zScd m t x (d - 1)) : ¬ zScd m t x d := by
  have hq := zFdd_skip h
  intro q
  refine hp ⟨fun hx => ?_, fun hx => ?_⟩
  · rw [← zHn_q hq t0]
    exact q.1 hx
  · exact (zSu_q hq t0).mp (q.2 hx)
/-- the first day -/
noncomputable def zDay (P : Int → Prop) : Nat → Int → Int
  | 0, _ => -1
  | n + 1, d => @ite Int (P d) (Classical.propDecidable (P d)) d (zDay P n (d + 1))
theorem zDay_y {P : Int → Prop} {d : Int} (hd : d ≤ 30) (h : P d) : zDay P (31 - d).toNat d = d := by
  obtain ⟨n, hn⟩ : ∃ n, (31 - d).toNat = n + 1 := ⟨(31 - d).toNat - 1, by omega⟩
  rw [hn]
  exact @if_pos (P d) (Classical.propDecidable (P d)) h Int d _
theorem zDay_n {P : Int → Prop} {d : Int} (hd : d ≤ 30) (h : ¬ P d) : zDay P (31 - d).toNat d = zDay P (31 - (d + 1)).toNat (d + 1) := by
  obtain ⟨n, hn⟩ : ∃ n, (31 - d).toNat = n + 1 := ⟨(31 - d).toNat - 1, by omega⟩
  rw [hn, show (31 - (d + 1)).toNat = n by omega]
  exact @if_neg (P d) (Classical.propDecidable (P d)) h Int d _
theorem s6_since47E {m m1 : zMe} {t x d : Int} {k : Nat × Int32 × Int32 × Int32 → Hp → Option (Int32 × Hp)} {Q : Int32 → zMe → Prop} (a1 : zWf m 3) (hF : zFr 19 m m1) (ht : 0 ≤ t ∧ t < m 3 0) (hx : x = 0 ∨ x = 1) (hd : 0 ≤ d ∧ d ≤ 30) (hk : ¬ zScd m t x d → ∀ m2, zFr 19 m m2 → zOk (k (0, zI t, zI x, zI (d + 1)) (zM m2)) Q) (hy : zScd m t x d → ∀ m2, zFr 19 m m2 → Q (zI d) m2) : zOk (f_X6_since_47 k 0 (zI t) (zI x) (zI d) (zM m1)) Q := by
  have hS : zSame m m1 3 := zFr_S hF (by omega)
  have hW1 := zWf_S hS a1
  have hG : zG 19 := Or.inr (Or.inr rfl)
  unfold f_X6_since_47
  (first
    | (with_reducible apply z_nm; (case he => repeat (with_reducible first | exact zv_l _ | exact zv_r | apply zv_add)))
    | (with_reducible apply z_b_R; (case h => first | with_unfolding_all rfl))
    | (with_reducible apply z_0takeFrom; (case a1 => assumption); (case a2 => assumption); (case a3 => assumption); intro _ _ _)
    | (with_reducible apply z_0forget; (case a1 => assumption); (case e1 => repeat (with_reducible first | exact zv_l _ | exact zv_r | apply zv_add)); (case r1 => first | omega | ((simp (disch := omega) only [zU_c, zU_e, zU_k, zF_c, zF_i, zF_o, zW_o, zW_i, zC_c, zC_i, zC_o]); omega)); (case r2 => first | omega | ((simp (disch := omega) only [zU_c, zU_e, zU_k, zF_c, zF_i, zF_o, zW_o, zW_i, zC_c, zC_i, zC_o]); omega)); (case a2 => assumption); intro _ _ _)
    | (with_reducible apply z_6canWin; (case a1 => assumption); (case e1 => repeat (with_reducible first | exact zv_l _ | exact zv_r | apply zv_add)); (case r1 => first | omega | ((simp (disch := omega) only [zU_c, zU_e, zU_k, zF_c, zF_i, zF_o, zW_o, zW_i, zC_c, zC_i, zC_o]); omega)); (case a2 => assumption); intro _ _ _)
    | (with_reducible apply z_6isSure; (case a1 => assumption); (case e1 => repeat (with_reducible first | exact zv_l _ | exact zv_r | apply zv_add)); (case r1 => first | omega | ((simp (disch := omega) only [zU_c, zU_e, zU_k, zF_c, zF_i, zF_o, zW_o, zW_i, zC_c, zC_i, zC_o]); omega)); (case a2 => assumption); intro _ _ _))
  (first
    | (with_reducible apply z_nm; (case he => repeat (with_reducible first | exact zv_l _ | exact zv_r | apply zv_add)))
    | (with_reducible apply z_b_R; (case h => first | with_unfolding_all rfl))
    | (with_reducible apply z_0takeFrom; (case a1 => assumption); (case a2 => assumption); (case a3 => assumption); intro _ _ _)
    | (with_reducible apply z_0forget; (case a1 => assumption); (case e1 => repeat (with_reducible first | exact zv_l _ | exact zv_r | apply zv_add)); (case r1 => first | omega | ((simp (disch := omega) only [zU_c, zU_e, zU_k, zF_c, zF_i, zF_o, zW_o, zW_i, zC_c, zC_i, zC_o]); omega)); (case r2 => first | omega | ((simp (disch := omega) only [zU_c, zU_e, zU_k, zF_c, zF_i, zF_o, zW_o, zW_i, zC_c, zC_i, zC_o]); omega)); (case a2 => assumption); intro _ _ _)
    | (with_reducible apply z_6canWin; (case a1 => assumption); (case e1 => repeat (with_reducible first | exact zv_l _ | exact zv_r | apply zv_add)); (case r1 => first | omega | ((simp (disch := omega) only [zU_c, zU_e, zU_k, zF_c, zF_i, zF_o, zW_o, zW_i, zC_c, zC_i, zC_o]); omega)); (case a2 => assumption); intro _ _ _)
    | (with_reducible apply z_6isSure; (case a1 => assumption); (case e1 => repeat (with_reducible first | exact zv_l _ | exact zv_r | apply zv_add)); (case r1 => first | omega | ((simp (disch := omega) only [zU_c, zU_e, zU_k, zF_c, zF_i, zF_o, zW_o, zW_i, zC_c, zC_i, zC_o]); omega)); (case a2 => assumption); intro _ _ _))
  refine s6_take hW1 (fun m2 hF2 hW2 hT => ?_)
  have e0 : m2 19 0 = m 3 0 := by rw [hT.1.1, hS 3 (by omega) (by omega)]
  (first
    | (with_reducible apply z_nm; (case he => repeat (with_reducible first | exact zv_l _ | exact zv_r | apply zv_add)))
    | (with_reducible apply z_b_R; (case h => first | with_unfolding_all rfl))
    | (with_reducible apply z_0takeFrom; (case a1 => assumption); (case a2 => assumption); (case a3 => assumption); intro _ _ _)
    | (with_reducible apply z_0forget; (case a1 => assumption); (case e1 => repeat (with_reducible first | exact zv_l _ | exact zv_r | apply zv_add)); (case r1 => first | omega | ((simp (disch := omega) only [zU_c, zU_e, zU_k, zF_c, zF_i, zF_o, zW_o, zW_i, zC_c, zC_i, zC_o]); omega)); (case r2 => first | omega | ((simp (disch := omega) only [zU_c, zU_e, zU_k, zF_c, zF_i, zF_o, zW_o, zW_i, zC_c, zC_i, zC_o]); omega)); (case a2 => assumption); intro _ _ _)
    | (with_reducible apply z_6canWin; (case a1 => assumption); (case e1 => repeat (with_reducible first | exact zv_l _ | exact zv_r | apply zv_add)); (case r1 => first | omega | ((simp (disch := omega) only [zU_c, zU_e, zU_k, zF_c, zF_i, zF_o, zW_o, zW_i, zC_c, zC_i, zC_o]); omega)); (case a2 => assumption); intro _ _ _)
    | (with_reducible apply z_6isSure; (case a1 => assumption); (case e1 => repeat (with_reducible first | exact zv_l _ | exact zv_r | apply zv_add)); (case r1 => first | omega | ((simp (disch := omega) only [zU_c, zU_e, zU_k, zF_c, zF_i, zF_o, zW_o, zW_i, zC_c, zC_i, zC_o]); omega)); (case a2 => assumption); intro _ _ _))
  refine z_0forget hG rfl hd hW2.1.2.1 (fun k k0 k1 => (hW2.2.2.1 k k0 k1).2.2.2.2) (fun _ w hw => ?_)
  have hW3 := zFo_Wf hw hW2
  have hF3 : zFr 19 m (zW m2 (19 + 7) (19 + 7) w) := zFr_W (zFr_t hF hF2 (by omega)) (by omega)
  have hq3 := zFdd_q hT hS a1 hw
  have e3 : zW m2 (19 + 7) (19 + 7) w 19 0 = m 3 0 := by rw [zW_o (by omega), e0]
  generalize zW m2 (19 + 7) (19 + 7) w = m3 at hW3 hF3 e3 hq3
  refine z_eq (x := x) (y := 0) rfl rfl (by omega) (by omega) (fun hx0 => ?_) (fun hx0 => ?_)
  · (first
    | (with_reducible apply z_nm; (case he => repeat (with_reducible first | exact zv_l _ | exact zv_r | apply zv_add)))
    | (with_reducible apply z_b_R; (case h => first | with_unfolding_all rfl))
    | (with_reducible apply z_0takeFrom; (case a1 => assumption); (case a2 => assumption); (case a3 => assumption); intro _ _ _)
    | (with_reducible apply z_0forget; (case a1 => assumption); (case e1 => repeat (with_reducible first | exact zv_l _ | exact zv_r | apply zv_add)); (case r1 => first | omega | ((simp (disch := omega) only [zU_c, zU_e, zU_k, zF_c, zF_i, zF_o, zW_o, zW_i, zC_c, zC_i, zC_o]); omega)); (case r2 => first | omega | ((simp (disch := omega) only [zU_c, zU_e, zU_k, zF_c, zF_i, zF_o, zW_o, zW_i, zC_c, zC_i, zC_o]); omega)); (case a2 => assumption); intro _ _ _)
    | (with_reducible apply z_6canWin; (case a1 => assumption); (case e1 => repeat (with_reducible first | exact zv_l _ | exact zv_r | apply zv_add)); (case r1 => first | omega | ((simp (disch := omega) only [zU_c, zU_e, zU_k, zF_c, zF_i, zF_o, zW_o, zW_i, zC_c, zC_i, zC_o]); omega)); (case a2 => assumption); intro _ _ _)
    | (with_reducible apply z_6isSure; (case a1 => assumption); (case e1 => repeat (with_reducible first | exact zv_l _ | exact zv_r | apply zv_add)); (case r1 => first | omega | ((simp (disch := omega) only [zU_c, zU_e, zU_k, zF_c, zF_i, zF_o, zW_o, zW_i, zC_c, zC_i, zC_o]); omega)); (case a2 => assumption); intro _ _ _))
    refine z_6canWin hG rfl (by omega) hW3 (fun v m4 hv => ?_)
    obtain ⟨rfl, hF4⟩ := hv
    have hF5 := zFr_t hF3 hF4 (by omega)
    rw [zE_Hn hW3 (by omega), zHn_q hq3 ht.1]
    refine z_B (fun hb => ?_) (fun hb => ?_)
    · exact ⟨_, _, rfl, hy ⟨fun _ => hb, fun h => absurd hx0 h⟩ _ hF5⟩
    · repeat' (first
    | (with_reducible apply z_nm; (case he => repeat (with_reducible first | exact zv_l _ | exact zv_r | apply zv_add)))
    | (with_reducible apply z_b_R; (case h => first | with_unfolding_all rfl))
    | (with_reducible apply z_0takeFrom; (case a1 => assumption); (case a2 => assumption); (case a3 => assumption); intro _ _ _)
    | (with_reducible apply z_0forget; (case a1 => assumption); (case e1 => repeat (with_reducible first | exact zv_l _ | exact zv_r | apply zv_add)); (case r1 => first | omega | ((simp (disch := omega) only [zU_c, zU_e, zU_k, zF_c, zF_i, zF_o, zW_o, zW_i, zC_c, zC_i, zC_o]); omega)); (case r2 => first | omega | ((simp (disch := omega) only [zU_c, zU_e, zU_k, zF_c, zF_i, zF_o, zW_o, zW_i, zC_c, zC_i, zC_o]); omega)); (case a2 => assumption); intro _ _ _)
    | (with_reducible apply z_6canWin; (case a1 => assumption); (case e1 => repeat (with_reducible first | exact zv_l _ | exact zv_r | apply zv_add)); (case r1 => first | omega | ((simp (disch := omega) only [zU_c, zU_e, zU_k, zF_c, zF_i, zF_o, zW_o, zW_i, zC_c, zC_i, zC_o]); omega)); (case a2 => assumption); intro _ _ _)
    | (with_reducible apply z_6isSure; (case a1 => assumption); (case e1 => repeat (with_reducible first | exact zv_l _ | exact zv_r | apply zv_add)); (case r1 => first | omega | ((simp (disch := omega) only [zU_c, zU_e, zU_k, zF_c, zF_i, zF_o, zW_o, zW_i, zC_c, zC_i, zC_o]); omega)); (case a2 => assumption); intro _ _ _))
      exact hk (fun q => q.1 hx0 hb) _ hF5
  · (first
    | (with_reducible apply z_nm; (case he => repeat (with_reducible first | exact zv_l _ | exact zv_r | apply zv_add)))
    | (with_reducible apply z_b_R; (case h => first | with_unfolding_all rfl))
    | (with_reducible apply z_0takeFrom; (case a1 => assumption); (case a2 => assumption); (case a3 => assumption); intro _ _ _)
    | (with_reducible apply z_0forget; (case a1 => assumption); (case e1 => repeat (with_reducible first | exact zv_l _ | exact zv_r | apply zv_add)); (case r1 => first | omega | ((simp (disch := omega) only [zU_c, zU_e, zU_k, zF_c, zF_i, zF_o, zW_o, zW_i, zC_c, zC_i, zC_o]); omega)); (case r2 => first | omega | ((simp (disch := omega) only [zU_c, zU_e, zU_k, zF_c, zF_i, zF_o, zW_o, zW_i, zC_c, zC_i, zC_o]); omega)); (case a2 => assumption); intro _ _ _)
    | (with_reducible apply z_6canWin; (case a1 => assumption); (case e1 => repeat (with_reducible first | exact zv_l _ | exact zv_r | apply zv_add)); (case r1 => first | omega | ((simp (disch := omega) only [zU_c, zU_e, zU_k, zF_c, zF_i, zF_o, zW_o, zW_i, zC_c, zC_i, zC_o]); omega)); (case a2 => assumption); intro _ _ _)
    | (with_reducible apply z_6isSure; (case a1 => assumption); (case e1 => repeat (with_reducible first | exact zv_l _ | exact zv_r | apply zv_add)); (case r1 => first | omega | ((simp (disch := omega) only [zU_c, zU_e, zU_k, zF_c, zF_i, zF_o, zW_o, zW_i, zC_c, zC_i, zC_o]); omega)); (case a2 => assumption); intro _ _ _))
    refine z_6isSure hG rfl (by omega) hW3 (fun v m4 hv => ?_)
    obtain ⟨rfl, hF4⟩ := hv
    have hF5 := zFr_t hF3 hF4 (by omega)
    refine z_E (fun hb => ?_) (fun hb => ?_)
    · repeat' (first
    | (with_reducible apply z_nm; (case he => repeat (with_reducible first | exact zv_l _ | exact zv_r | apply zv_add)))
    | (with_reducible apply z_b_R; (case h => first | with_unfolding_all rfl))
    | (with_reducible apply z_0takeFrom; (case a1 => assumption); (case a2 => assumption); (case a3 => assumption); intro _ _ _)
    | (with_reducible apply z_0forget; (case a1 => assumption); (case e1 => repeat (with_reducible first | exact zv_l _ | exact zv_r | apply zv_add)); (case r1 => first | omega | ((simp (disch := omega) only [zU_c, zU_e, zU_k, zF_c, zF_i, zF_o, zW_o, zW_i, zC_c, zC_i, zC_o]); omega)); (case r2 => first | omega | ((simp (disch := omega) only [zU_c, zU_e, zU_k, zF_c, zF_i, zF_o, zW_o, zW_i, zC_c, zC_i, zC_o]); omega)); (case a2 => assumption); intro _ _ _)
    | (with_reducible apply z_6canWin; (case a1 => assumption); (case e1 => repeat (with_reducible first | exact zv_l _ | exact zv_r | apply zv_add)); (case r1 => first | omega | ((simp (disch := omega) only [zU_c, zU_e, zU_k, zF_c, zF_i, zF_o, zW_o, zW_i, zC_c, zC_i, zC_o]); omega)); (case a2 => assumption); intro _ _ _)
    | (with_reducible apply z_6isSure; (case a1 => assumption); (case e1 => repeat (with_reducible first | exact zv_l _ | exact zv_r | apply zv_add)); (case r1 => first | omega | ((simp (disch := omega) only [zU_c, zU_e, zU_k, zF_c, zF_i, zF_o, zW_o, zW_i, zC_c, zC_i, zC_o]); omega)); (case a2 => assumption); intro _ _ _))
      exact hk (fun q => hb ((zSu_q hq3 ht.1).mpr (q.2 hx0))) _ hF5
    · exact ⟨_, _, rfl, hy ⟨fun h => absurd h hx0, fun _ => (zSu_q hq3 ht.1).mp hb⟩ _ hF5⟩
set_option maxRecDepth 100000 in
set_option maxHeartbeats 1000000 in
theorem s6_sinceE {m : zMe} {e1 e2 : Int32} {t x : Int} (e3 : e1 = zI t) (e4 : e2 = zI x) (r1 : -2147483648 ≤ t ∧ t < 2147483648) (r2 : -2147483648 ≤ x ∧ x < 2147483648) (a1 : zWf m 3) : zOk (f_X6_since 0 e1 e2 (zM m)) (fun v m1 => v = zI (if (0 ≤ t ∧ t < m 3 0) ∧ (x = 0 ∨ x = 1) then zDay (zScd m t x) 31 0 else -2) ∧ zFr 19 m m1) := by
  subst e3; subst e4
  have hG : zG 3 := Or.inl rfl
  have hT := a1.1.1
  have hN := a1.1.2.1
  unfold f_X6_since
  (first
    | (with_reducible apply z_nm; (case he => repeat (with_reducible first | exact zv_l _ | exact zv_r | apply zv_add | apply zv_sub | apply zv_neg)))
    | (with_reducible apply z_b_ck; (case h => with_unfolding_all rfl))
    | (with_reducible apply z_b_R; (case h => first | with_unfolding_all rfl))
    | (with_reducible apply z_6isPart; (case e1 => repeat (with_reducible first | exact zv_l _ | exact zv_r | apply zv_add | apply zv_sub | apply zv_neg)); (case r1 => first | omega | ((simp (disch := omega) only [zU_c, zU_e, zU_k, zF_c, zF_i, zF_o, zW_o, zW_i, zC_c, zC_i, zC_o]); omega)))
    | (with_reducible apply z_0hasTeam; (case a1 => assumption); (case e1 => repeat (with_reducible first | exact zv_l _ | exact zv_r | apply zv_add | apply zv_sub | apply zv_neg)); (case r1 => first | omega | ((simp (disch := omega) only [zU_c, zU_e, zU_k, zF_c, zF_i, zF_o, zW_o, zW_i, zC_c, zC_i, zC_o]); omega)); (case r2 => first | omega | ((simp (disch := omega) only [zU_c, zU_e, zU_k, zF_c, zF_i, zF_o, zW_o, zW_i, zC_c, zC_i, zC_o]); omega)))
    | (with_reducible apply z_0wasPlayedOn; (case a1 => assumption); (case e1 => repeat (with_reducible first | exact zv_l _ | exact zv_r | apply zv_add | apply zv_sub | apply zv_neg)); (case r1 => first | omega | ((simp (disch := omega) only [zU_c, zU_e, zU_k, zF_c, zF_i, zF_o, zW_o, zW_i, zC_c, zC_i, zC_o]); omega)); (case r2 => first | omega | ((simp (disch := omega) only [zU_c, zU_e, zU_k, zF_c, zF_i, zF_o, zW_o, zW_i, zC_c, zC_i, zC_o]); omega)); (case a2 => assumption))
    | (with_reducible apply z_6since; (case e3 => repeat (with_reducible first | exact zv_l _ | exact zv_r | apply zv_add | apply zv_sub | apply zv_neg)); (case e4 => repeat (with_reducible first | exact zv_l _ | exact zv_r | apply zv_add | apply zv_sub | apply zv_neg)); (case r1 => first | omega | ((simp (disch := omega) only [zU_c, zU_e, zU_k, zF_c, zF_i, zF_o, zW_o, zW_i, zC_c, zC_i, zC_o]); omega)); (case r2 => first | omega | ((simp (disch := omega) only [zU_c, zU_e, zU_k, zF_c, zF_i, zF_o, zW_o, zW_i, zC_c, zC_i, zC_o]); omega)); (case a1 => assumption); intro _ _ _))
  (first
    | (with_reducible apply z_nm; (case he => repeat (with_reducible first | exact zv_l _ | exact zv_r | apply zv_add | apply zv_sub | apply zv_neg)))
    | (with_reducible apply z_b_ck; (case h => with_unfolding_all rfl))
    | (with_reducible apply z_b_R; (case h => first | with_unfolding_all rfl))
    | (with_reducible apply z_6isPart; (case e1 => repeat (with_reducible first | exact zv_l _ | exact zv_r | apply zv_add | apply zv_sub | apply zv_neg)); (case r1 => first | omega | ((simp (disch := omega) only [zU_c, zU_e, zU_k, zF_c, zF_i, zF_o, zW_o, zW_i, zC_c, zC_i, zC_o]); omega)))
    | (with_reducible apply z_0hasTeam; (case a1 => assumption); (case e1 => repeat (with_reducible first | exact zv_l _ | exact zv_r | apply zv_add | apply zv_sub | apply zv_neg)); (case r1 => first | omega | ((simp (disch := omega) only [zU_c, zU_e, zU_k, zF_c, zF_i, zF_o, zW_o, zW_i, zC_c, zC_i, zC_o]); omega)); (case r2 => first | omega | ((simp (disch := omega) only [zU_c, zU_e, zU_k, zF_c, zF_i, zF_o, zW_o, zW_i, zC_c, zC_i, zC_o]); omega)))
    | (with_reducible apply z_0wasPlayedOn; (case a1 => assumption); (case e1 => repeat (with_reducible first | exact zv_l _ | exact zv_r | apply zv_add | apply zv_sub | apply zv_neg)); (case r1 => first | omega | ((simp (disch := omega) only [zU_c, zU_e, zU_k, zF_c, zF_i, zF_o, zW_o, zW_i, zC_c, zC_i, zC_o]); omega)); (case r2 => first | omega | ((simp (disch := omega) only [zU_c, zU_e, zU_k, zF_c, zF_i, zF_o, zW_o, zW_i, zC_c, zC_i, zC_o]); omega)); (case a2 => assumption))
    | (with_reducible apply z_6since; (case e3 => repeat (with_reducible first | exact zv_l _ | exact zv_r | apply zv_add | apply zv_sub | apply zv_neg)); (case e4 => repeat (with_reducible first | exact zv_l _ | exact zv_r | apply zv_add | apply zv_sub | apply zv_neg)); (case r1 => first | omega | ((simp (disch := omega) only [zU_c, zU_e, zU_k, zF_c, zF_i, zF_o, zW_o, zW_i, zC_c, zC_i, zC_o]); omega)); (case r2 => first | omega | ((simp (disch := omega) only [zU_c, zU_e, zU_k, zF_c, zF_i, zF_o, zW_o, zW_i, zC_c, zC_i, zC_o]); omega)); (case a1 => assumption); intro _ _ _))
  (first
    | (with_reducible apply z_nm; (case he => repeat (with_reducible first | exact zv_l _ | exact zv_r | apply zv_add | apply zv_sub | apply zv_neg)))
    | (with_reducible apply z_b_ck; (case h => with_unfolding_all rfl))
    | (with_reducible apply z_b_R; (case h => first | with_unfolding_all rfl))
    | (with_reducible apply z_6isPart; (case e1 => repeat (with_reducible first | exact zv_l _ | exact zv_r | apply zv_add | apply zv_sub | apply zv_neg)); (case r1 => first | omega | ((simp (disch := omega) only [zU_c, zU_e, zU_k, zF_c, zF_i, zF_o, zW_o, zW_i, zC_c, zC_i, zC_o]); omega)))
    | (with_reducible apply z_0hasTeam; (case a1 => assumption); (case e1 => repeat (with_reducible first | exact zv_l _ | exact zv_r | apply zv_add | apply zv_sub | apply zv_neg)); (case r1 => first | omega | ((simp (disch := omega) only [zU_c, zU_e, zU_k, zF_c, zF_i, zF_o, zW_o, zW_i, zC_c, zC_i, zC_o]); omega)); (case r2 => first | omega | ((simp (disch := omega) only [zU_c, zU_e, zU_k, zF_c, zF_i, zF_o, zW_o, zW_i, zC_c, zC_i, zC_o]); omega)))
    | (with_reducible apply z_0wasPlayedOn; (case a1 => assumption); (case e1 => repeat (with_reducible first | exact zv_l _ | exact zv_r | apply zv_add | apply zv_sub | apply zv_neg)); (case r1 => first | omega | ((simp (disch := omega) only [zU_c, zU_e, zU_k, zF_c, zF_i, zF_o, zW_o, zW_i, zC_c, zC_i, zC_o]); omega)); (case r2 => first | omega | ((simp (disch := omega) only [zU_c, zU_e, zU_k, zF_c, zF_i, zF_o, zW_o, zW_i, zC_c, zC_i, zC_o]); omega)); (case a2 => assumption))
    | (with_reducible apply z_6since; (case e3 => repeat (with_reducible first | exact zv_l _ | exact zv_r | apply zv_add | apply zv_sub | apply zv_neg)); (case e4 => repeat (with_reducible first | exact zv_l _ | exact zv_r | apply zv_add | apply zv_sub | apply zv_neg)); (case r1 => first | omega | ((simp (disch := omega) only [zU_c, zU_e, zU_k, zF_c, zF_i, zF_o, zW_o, zW_i, zC_c, zC_i, zC_o]); omega)); (case r2 => first | omega | ((simp (disch := omega) only [zU_c, zU_e, zU_k, zF_c, zF_i, zF_o, zW_o, zW_i, zC_c, zC_i, zC_o]); omega)); (case a1 => assumption); intro _ _ _))
  refine z_B (fun hq => ?_) (fun hq => ?_)
  · rw [if_neg (fun w => hq w.1)]
    exact ⟨_, _, rfl, rfl, zFr_r _ _⟩
  · (first
    | (with_reducible apply z_nm; (case he => repeat (with_reducible first | exact zv_l _ | exact zv_r | apply zv_add | apply zv_sub | apply zv_neg)))
    | (with_reducible apply z_b_ck; (case h => with_unfolding_all rfl))
    | (with_reducible apply z_b_R; (case h => first | with_unfolding_all rfl))
    | (with_reducible apply z_6isPart; (case e1 => repeat (with_reducible first | exact zv_l _ | exact zv_r | apply zv_add | apply zv_sub | apply zv_neg)); (case r1 => first | omega | ((simp (disch := omega) only [zU_c, zU_e, zU_k, zF_c, zF_i, zF_o, zW_o, zW_i, zC_c, zC_i, zC_o]); omega)))
    | (with_reducible apply z_0hasTeam; (case a1 => assumption); (case e1 => repeat (with_reducible first | exact zv_l _ | exact zv_r | apply zv_add | apply zv_sub | apply zv_neg)); (case r1 => first | omega | ((simp (disch := omega) only [zU_c, zU_e, zU_k, zF_c, zF_i, zF_o, zW_o, zW_i, zC_c, zC_i, zC_o]); omega)); (case r2 => first | omega | ((simp (disch := omega) only [zU_c, zU_e, zU_k, zF_c, zF_i, zF_o, zW_o, zW_i, zC_c, zC_i, zC_o]); omega)))
    | (with_reducible apply z_0wasPlayedOn; (case a1 => assumption); (case e1 => repeat (with_reducible first | exact zv_l _ | exact zv_r | apply zv_add | apply zv_sub | apply zv_neg)); (case r1 => first | omega | ((simp (disch := omega) only [zU_c, zU_e, zU_k, zF_c, zF_i, zF_o, zW_o, zW_i, zC_c, zC_i, zC_o]); omega)); (case r2 => first | omega | ((simp (disch := omega) only [zU_c, zU_e, zU_k, zF_c, zF_i, zF_o, zW_o, zW_i, zC_c, zC_i, zC_o]); omega)); (case a2 => assumption))
    | (with_reducible apply z_6since; (case e3 => repeat (with_reducible first | exact zv_l _ | exact zv_r | apply zv_add | apply zv_sub | apply zv_neg)); (case e4 => repeat (with_reducible first | exact zv_l _ | exact zv_r | apply zv_add | apply zv_sub | apply zv_neg)); (case r1 => first | omega | ((simp (disch := omega) only [zU_c, zU_e, zU_k, zF_c, zF_i, zF_o, zW_o, zW_i, zC_c, zC_i, zC_o]); omega)); (case r2 => first | omega | ((simp (disch := omega) only [zU_c, zU_e, zU_k, zF_c, zF_i, zF_o, zW_o, zW_i, zC_c, zC_i, zC_o]); omega)); (case a1 => assumption); intro _ _ _))
    (first
    | (with_reducible apply z_B; all_goals (intro _; try (exfalso; omega)))
    | (with_reducible apply z_E; all_goals intro _)
    | (with_reducible apply z_lt; (case ha => repeat (with_reducible first | exact zv_l _ | exact zv_r | apply zv_add | apply zv_sub | apply zv_neg)); (case hb => repeat (with_reducible first | exact zv_l _ | exact zv_r | apply zv_add | apply zv_sub | apply zv_neg)); (case hx => omega); (case hy => omega); all_goals (intro _; try (exfalso; omega)))
    | (with_reducible apply z_le; (case ha => repeat (with_reducible first | exact zv_l _ | exact zv_r | apply zv_add | apply zv_sub | apply zv_neg)); (case hb => repeat (with_reducible first | exact zv_l _ | exact zv_r | apply zv_add | apply zv_sub | apply zv_neg)); (case hx => omega); (case hy => omega); all_goals (intro _; try (exfalso; omega)))
    | (with_reducible apply z_eq; (case ha => repeat (with_reducible first | exact zv_l _ | exact zv_r | apply zv_add | apply zv_sub | apply zv_neg)); (case hb => repeat (with_reducible first | exact zv_l _ | exact zv_r | apply zv_add | apply zv_sub | apply zv_neg)); (case hx => omega); (case hy => omega); all_goals (intro _; try (exfalso; omega))))
    · rename_i hx
      rw [if_neg (fun w => hx w.2)]
      exact ⟨_, _, rfl, rfl, zFr_r _ _⟩
    · rename_i hx
      rw [if_pos ⟨hq, hx⟩]
      refine z_lp (fun n v m1 => ∃ d : Int, v = (0, zI t, zI x, zI d) ∧ 0 ≤ d ∧ d ≤ 31 ∧ n = (31 - d).toNat ∧ zFr 19 m m1 ∧ zDay (zScd m t x) 31 0 = zDay (zScd m t x) (31 - d).toNat d ∧ (0 < d → ¬ zScd m t x (d - 1))) (fun _ _ v m1 => v = zI (zDay (zScd m t x) 31 0) ∧ zFr 19 m m1) ?_ 600 31 _ _ (by omega) ⟨0, rfl, by omega, by omega, by omega, zFr_r _ _, rfl, fun h => by omega⟩
      rintro n v m1 k ⟨d, rfl, d0, d1, rfl, hF, hD, hP⟩ hk
      have hS : zSame m m1 3 := zFr_S hF (by omega)
      have hW1 := zWf_S hS a1
      unfold f_X6_since_23
      dsimp only
      refine z_lt (x := 30) (y := d) (zv_l 30) rfl (by omega) (by omega) (fun hgt => ?_) (fun hgt => ?_)
      · have : d = 31 := by omega
        subst this
        exact ⟨_, _, rfl, by rw [hD]; rfl, hF⟩
      · have hnext : ¬ zScd m t x d → ∀ m2, zFr 19 m m2 → zOk (k (0, zI t, zI x, zI (d + 1)) (zM m2)) (fun v m1 => v = zI (zDay (zScd m t x) 31 0) ∧ zFr 19 m m1) := fun hn m2 h2 => hk _ _ _ (by omega) ⟨d + 1, rfl, by omega, by omega, rfl, h2, by rw [hD, zDay_n (by omega) hn], fun _ => by rw [show d + 1 - 1 = d by omega]; exact hn⟩
        have hyes : zScd m t x d → ∀ m2, zFr 19 m m2 → (zI d = zI (zDay (zScd m t x) 31 0) ∧ zFr 19 m m2) := fun hp m2 h2 => ⟨by rw [hD, zDay_y (by omega) hp], h2⟩
        (first
    | (with_reducible apply z_B; all_goals (intro _; try (exfalso; omega)))
    | (with_reducible apply z_E; all_goals intro _)
    | (with_reducible apply z_lt; (case ha => repeat (with_reducible first | exact zv_l _ | exact zv_r | apply zv_add | apply zv_sub | apply zv_neg)); (case hb => repeat (with_reducible first | exact zv_l _ | exact zv_r | apply zv_add | apply zv_sub | apply zv_neg)); (case hx => omega); (case hy => omega); all_goals (intro _; try (exfalso; omega)))
    | (with_reducible apply z_le; (case ha => repeat (with_reducible first | exact zv_l _ | exact zv_r | apply zv_add | apply zv_sub | apply zv_neg)); (case hb => repeat (with_reducible first | exact zv_l _ | exact zv_r | apply zv_add | apply zv_sub | apply zv_neg)); (case hx => omega); (case hy => omega); all_goals (intro _; try (exfalso; omega)))
    | (with_reducible apply z_eq; (case ha => repeat (with_reducible first | exact zv_l _ | exact zv_r | apply zv_add | apply zv_sub | apply zv_neg)); (case hb => repeat (with_reducible first | exact zv_l _ | exact zv_r | apply zv_add | apply zv_sub | apply zv_neg)); (case hx => omega); (case hy => omega); all_goals (intro _; try (exfalso; omega))))
        · exact s6_since47E a1 hF hq hx (by omega) hnext hyes
        · rename_i hd0
          (first
    | (with_reducible apply z_nm; (case he => repeat (with_reducible first | exact zv_l _ | exact zv_r | apply zv_add | apply zv_sub | apply zv_neg)))
    | (with_reducible apply z_b_ck; (case h => with_unfolding_all rfl))
    | (with_reducible apply z_b_R; (case h => first | with_unfolding_all rfl))
    | (with_reducible apply z_6isPart; (case e1 => repeat (with_reducible first | exact zv_l _ | exact zv_r | apply zv_add | apply zv_sub | apply zv_neg)); (case r1 => first | omega | ((simp (disch := omega) only [zU_c, zU_e, zU_k, zF_c, zF_i, zF_o, zW_o, zW_i, zC_c, zC_i, zC_o]); omega)))
    | (with_reducible apply z_0hasTeam; (case a1 => assumption); (case e1 => repeat (with_reducible first | exact zv_l _ | exact zv_r | apply zv_add | apply zv_sub | apply zv_neg)); (case r1 => first | omega | ((simp (disch := omega) only [zU_c, zU_e, zU_k, zF_c, zF_i, zF_o, zW_o, zW_i, zC_c, zC_i, zC_o]); omega)); (case r2 => first | omega | ((simp (disch := omega) only [zU_c, zU_e, zU_k, zF_c, zF_i, zF_o, zW_o, zW_i, zC_c, zC_i, zC_o]); omega)))
    | (with_reducible apply z_0wasPlayedOn; (case a1 => assumption); (case e1 => repeat (with_reducible first | exact zv_l _ | exact zv_r | apply zv_add | apply zv_sub | apply zv_neg)); (case r1 => first | omega | ((simp (disch := omega) only [zU_c, zU_e, zU_k, zF_c, zF_i, zF_o, zW_o, zW_i, zC_c, zC_i, zC_o]); omega)); (case r2 => first | omega | ((simp (disch := omega) only [zU_c, zU_e, zU_k, zF_c, zF_i, zF_o, zW_o, zW_i, zC_c, zC_i, zC_o]); omega)); (case a2 => assumption))
    | (with_reducible apply z_6since; (case e3 => repeat (with_reducible first | exact zv_l _ | exact zv_r | apply zv_add | apply zv_sub | apply zv_neg)); (case e4 => repeat (with_reducible first | exact zv_l _ | exact zv_r | apply zv_add | apply zv_sub | apply zv_neg)); (case r1 => first | omega | ((simp (disch := omega) only [zU_c, zU_e, zU_k, zF_c, zF_i, zF_o, zW_o, zW_i, zC_c, zC_i, zC_o]); omega)); (case r2 => first | omega | ((simp (disch := omega) only [zU_c, zU_e, zU_k, zF_c, zF_i, zF_o, zW_o, zW_i, zC_c, zC_i, zC_o]); omega)); (case a1 => assumption); intro _ _ _))
          refine z_0wasPlayedOn hG rfl (by omega) hW1.1.2.1 (fun k k0 k1 => ⟨(hW1.2.2.1 k k0 k1).2.2.2.2, (hW1.2.2.1 k k0 k1).1⟩) ?_
          refine z_E (fun hno => ?_) (fun _ => ?_)
          · repeat' (first
    | (with_reducible apply z_nm; (case he => repeat (with_reducible first | exact zv_l _ | exact zv_r | apply zv_add | apply zv_sub | apply zv_neg)))
    | (with_reducible apply z_b_ck; (case h => with_unfolding_all rfl))
    | (with_reducible apply z_b_R; (case h => first | with_unfolding_all rfl))
    | (with_reducible apply z_6isPart; (case e1 => repeat (with_reducible first | exact zv_l _ | exact zv_r | apply zv_add | apply zv_sub | apply zv_neg)); (case r1 => first | omega | ((simp (disch := omega) only [zU_c, zU_e, zU_k, zF_c, zF_i, zF_o, zW_o, zW_i, zC_c, zC_i, zC_o]); omega)))
    | (with_reducible apply z_0hasTeam; (case a1 => assumption); (case e1 => repeat (with_reducible first | exact zv_l _ | exact zv_r | apply zv_add | apply zv_sub | apply zv_neg)); (case r1 => first | omega | ((simp (disch := omega) only [zU_c, zU_e, zU_k, zF_c, zF_i, zF_o, zW_o, zW_i, zC_c, zC_i, zC_o]); omega)); (case r2 => first | omega | ((simp (disch := omega) only [zU_c, zU_e, zU_k, zF_c, zF_i, zF_o, zW_o, zW_i, zC_c, zC_i, zC_o]); omega)))
    | (with_reducible apply z_0wasPlayedOn; (case a1 => assumption); (case e1 => repeat (with_reducible first | exact zv_l _ | exact zv_r | apply zv_add | apply zv_sub | apply zv_neg)); (case r1 => first | omega | ((simp (disch := omega) only [zU_c, zU_e, zU_k, zF_c, zF_i, zF_o, zW_o, zW_i, zC_c, zC_i, zC_o]); omega)); (case r2 => first | omega | ((simp (disch := omega) only [zU_c, zU_e, zU_k, zF_c, zF_i, zF_o, zW_o, zW_i, zC_c, zC_i, zC_o]); omega)); (case a2 => assumption))
    | (with_reducible apply z_6since; (case e3 => repeat (with_reducible first | exact zv_l _ | exact zv_r | apply zv_add | apply zv_sub | apply zv_neg)); (case e4 => repeat (with_reducible first | exact zv_l _ | exact zv_r | apply zv_add | apply zv_sub | apply zv_neg)); (case r1 => first | omega | ((simp (disch := omega) only [zU_c, zU_e, zU_k, zF_c, zF_i, zF_o, zW_o, zW_i, zC_c, zC_i, zC_o]); omega)); (case r2 => first | omega | ((simp (disch := omega) only [zU_c, zU_e, zU_k, zF_c, zF_i, zF_o, zW_o, zW_i, zC_c, zC_i, zC_o]); omega)); (case a1 => assumption); intro _ _ _))
            refine hnext (zScd_skip hq.1 (fun h => hno ?_) (hP (by omega))) _ hF
            obtain ⟨j, ⟨j0, j1⟩, h6, h7⟩ := h
            refine ⟨j, ⟨j0, ?_⟩, ?_, ?_⟩
            · rw [hS 3 (by omega) (by omega)]; exact j1
            · rw [hS (3 + 6) (by omega) (by omega)]; exact h6
            · rw [hS (3 + 7) (by omega) (by omega)]; exact h7
          · exact s6_since47E a1 hF hq hx (by omega) hnext hyes
/-! the reference -/
theorem zCs_asof {mc m : zMe} {d : Int} (hE : zEq2 mc m 3 51) : zCs (zLk m (fun k => if d < m 51 (69 + k) then -1 else m 51 (78 + k))) (zFdd mc d) 3 := by
  refine ⟨⟨?_, ?_, ?_⟩, fun t t0 t1 => ?_, fun k k0 k1 => ?_⟩
  · rw [zLk_51, zFdd_o (by omega)]; exact hE.1.1
  · rw [zLk_51, zFdd_o (by omega)]; exact hE.1.2.1
  · rw [zLk_51, zFdd_o (by omega)]; exact hE.1.2.2
  · rw [zFdd_o (by omega)] at t1
    rw [zLk_51, zFdd_o (by omega)]
    exact (hE.2.1 t t0 t1).1
  · rw [zFdd_o (by omega)] at k1
    obtain ⟨g1, g2, g3, g4⟩ := hE.2.2 k k0 k1
    have e1 : m 51 1 = mc 3 1 := hE.1.2.1
    rw [zLk_51, zLk_51, zLk_53 k0 (by omega), zFdd_o (by omega), zFdd_o (by omega), zFdd_r, g3, g4]
    exact ⟨g1, g2, rfl⟩
theorem zPs_Cr {M mc : zMe} {t d : Int} (hW : zWf mc 3) (hC : zCr M mc 3) (ht : 0 ≤ t ∧ t < mc 3 0) : ¬ zPs (M 51 2) d (M 51 0) t (zGl7 M (zSg (zLeft (zV M) 3) (M 51 1).toNat 0)) (M 54) ↔ zSu mc 3 t := by
  obtain ⟨⟨h0, h1, h2⟩, hg, hp⟩ := hC
  have hN := hW.1.2.1
  have eS : zSg (zLeft (zV M) 3) (mc 3 1).toNat 0 = zLa mc 3 (mc 3 1).toNat := zSg_La (fun k hk => by
    rw [zLeft_bit (by omega), (hg (k : Int) (by omega) (by omega)).2.2, decide_eq_true_iff])
  have eG : zGl7 M (zLa mc 3 (mc 3 1).toNat) = zGl mc 3 (zLa mc 3 (mc 3 1).toNat) := by
    refine List.map_congr_left (fun k hk => ?_)
    have hk := zLa_in hk
    obtain ⟨g1, g2, g3⟩ := hg (k : Int) (by omega) (by omega)
    rw [g1, g2]
  rw [h0, h1, h2, eS, eG]
  exact zPs_Su hW ht hp
set_option maxRecDepth 100000 in
set_option maxHeartbeats 1000000 in
theorem s7_sinceE {mc m : zMe} {e1 e2 : Int32} {t x : Int} (e3 : e1 = zI t) (e4 : e2 = zI x) (r1 : -2147483648 ≤ t ∧ t < 2147483648) (r2 : -2147483648 ≤ x ∧ x < 2147483648) (hW : zWf mc 3) (hE : zEq2 mc m 3 51) : zOk (f_X7_since 50 e1 e2 (zM m)) (fun v m1 => v = zI (if (0 ≤ t ∧ t < mc 3 0) ∧ (x = 0 ∨ x = 1) then zDay (zScd mc t x) 31 0 else -2) ∧ zY m m1) := by
  subst e3; subst e4
  have hR := zRw_E hW hE
  have hT := hW.1.1
  have e0 : m 51 0 = mc 3 0 := hE.1.1
  unfold f_X7_since
  (first
    | (with_reducible apply z_nm; (case he => repeat (with_reducible first | exact zv_l _ | exact zv_r | apply zv_add | apply zv_sub | apply zv_neg)))
    | (with_reducible apply z_b_ck; (case h => with_unfolding_all rfl))
    | (with_reducible apply z_in; (case hA => first | with_reducible exact zj_l _ (by decide) | with_reducible exact zj_m1 | (with_reducible apply zj_e; repeat (with_reducible first | exact zv_l _ | exact zv_r | apply zv_add | apply zv_sub | apply zv_neg))); (case hL => first | with_reducible exact zj_l _ (by decide) | with_reducible exact zj_m1 | (with_reducible apply zj_e; repeat (with_reducible first | exact zv_l _ | exact zv_r | apply zv_add | apply zv_sub | apply zv_neg))); (case hH => first | with_reducible exact zj_l _ (by decide) | with_reducible exact zj_m1 | (with_reducible apply zj_e; repeat (with_reducible first | exact zv_l _ | exact zv_r | apply zv_add | apply zv_sub | apply zv_neg))); (case rx => omega); (case rl => omega); (case rh => omega))
    | (with_reducible apply z_7isTeam; (case e1 => repeat (with_reducible first | exact zv_l _ | exact zv_r | apply zv_add | apply zv_sub | apply zv_neg)); (case r1 => first | omega | ((simp (disch := omega) only [zU_c, zU_e, zU_k, zF_c, zF_i, zF_o, zW_o, zW_i, zC_c, zC_i, zC_o]); omega)); (case r2 => first | omega | ((simp (disch := omega) only [zU_c, zU_e, zU_k, zF_c, zF_i, zF_o, zW_o, zW_i, zC_c, zC_i, zC_o]); omega)))
    | (with_reducible apply z_7looksAsOf; (case e1 => repeat (with_reducible first | exact zv_l _ | exact zv_r | apply zv_add | apply zv_sub | apply zv_neg)); (case r1 => first | omega | ((simp (disch := omega) only [zU_c, zU_e, zU_k, zF_c, zF_i, zF_o, zW_o, zW_i, zC_c, zC_i, zC_o]); omega)); (case a2 => assumption))
    | (with_reducible apply z_7isInNow; (case e3 => repeat (with_reducible first | exact zv_l _ | exact zv_r | apply zv_add | apply zv_sub | apply zv_neg)); (case e4 => repeat (with_reducible first | exact zv_l _ | exact zv_r | apply zv_add | apply zv_sub | apply zv_neg)); (case r1 => first | omega | ((simp (disch := omega) only [zU_c, zU_e, zU_k, zF_c, zF_i, zF_o, zW_o, zW_i, zC_c, zC_i, zC_o]); omega)); (case r2 => first | omega | ((simp (disch := omega) only [zU_c, zU_e, zU_k, zF_c, zF_i, zF_o, zW_o, zW_i, zC_c, zC_i, zC_o]); omega)); (case a1 => assumption); (case a2 => assumption); intro _ _ _)
    | (with_reducible apply z_7since; (case e3 => repeat (with_reducible first | exact zv_l _ | exact zv_r | apply zv_add | apply zv_sub | apply zv_neg)); (case e4 => repeat (with_reducible first | exact zv_l _ | exact zv_r | apply zv_add | apply zv_sub | apply zv_neg)); (case r1 => first | omega | ((simp (disch := omega) only [zU_c, zU_e, zU_k, zF_c, zF_i, zF_o, zW_o, zW_i, zC_c, zC_i, zC_o]); omega)); (case r2 => first | omega | ((simp (disch := omega) only [zU_c, zU_e, zU_k, zF_c, zF_i, zF_o, zW_o, zW_i, zC_c, zC_i, zC_o]); omega)); (case a1 => assumption); intro _ _ _))
  refine z_7isTeam rfl r1 hR.1.1 ?_
  rw [e0]
  refine z_B (fun hq => ?_) (fun hq => ?_)
  · rw [if_neg (fun w => hq w.1)]
    exact ⟨_, _, rfl, rfl, zY_r _⟩
  · (first
    | (with_reducible apply z_nm; (case he => repeat (with_reducible first | exact zv_l _ | exact zv_r | apply zv_add | apply zv_sub | apply zv_neg)))
    | (with_reducible apply z_b_ck; (case h => with_unfolding_all rfl))
    | (with_reducible apply z_in; (case hA => first | with_reducible exact zj_l _ (by decide) | with_reducible exact zj_m1 | (with_reducible apply zj_e; repeat (with_reducible first | exact zv_l _ | exact zv_r | apply zv_add | apply zv_sub | apply zv_neg))); (case hL => first | with_reducible exact zj_l _ (by decide) | with_reducible exact zj_m1 | (with_reducible apply zj_e; repeat (with_reducible first | exact zv_l _ | exact zv_r | apply zv_add | apply zv_sub | apply zv_neg))); (case hH => first | with_reducible exact zj_l _ (by decide) | with_reducible exact zj_m1 | (with_reducible apply zj_e; repeat (with_reducible first | exact zv_l _ | exact zv_r | apply zv_add | apply zv_sub | apply zv_neg))); (case rx => omega); (case rl => omega); (case rh => omega))
    | (with_reducible apply z_7isTeam; (case e1 => repeat (with_reducible first | exact zv_l _ | exact zv_r | apply zv_add | apply zv_sub | apply zv_neg)); (case r1 => first | omega | ((simp (disch := omega) only [zU_c, zU_e, zU_k, zF_c, zF_i, zF_o, zW_o, zW_i, zC_c, zC_i, zC_o]); omega)); (case r2 => first | omega | ((simp (disch := omega) only [zU_c, zU_e, zU_k, zF_c, zF_i, zF_o, zW_o, zW_i, zC_c, zC_i, zC_o]); omega)))
    | (with_reducible apply z_7looksAsOf; (case e1 => repeat (with_reducible first | exact zv_l _ | exact zv_r | apply zv_add | apply zv_sub | apply zv_neg)); (case r1 => first | omega | ((simp (disch := omega) only [zU_c, zU_e, zU_k, zF_c, zF_i, zF_o, zW_o, zW_i, zC_c, zC_i, zC_o]); omega)); (case a2 => assumption))
    | (with_reducible apply z_7isInNow; (case e3 => repeat (with_reducible first | exact zv_l _ | exact zv_r | apply zv_add | apply zv_sub | apply zv_neg)); (case e4 => repeat (with_reducible first | exact zv_l _ | exact zv_r | apply zv_add | apply zv_sub | apply zv_neg)); (case r1 => first | omega | ((simp (disch := omega) only [zU_c, zU_e, zU_k, zF_c, zF_i, zF_o, zW_o, zW_i, zC_c, zC_i, zC_o]); omega)); (case r2 => first | omega | ((simp (disch := omega) only [zU_c, zU_e, zU_k, zF_c, zF_i, zF_o, zW_o, zW_i, zC_c, zC_i, zC_o]); omega)); (case a1 => assumption); (case a2 => assumption); intro _ _ _)
    | (with_reducible apply z_7since; (case e3 => repeat (with_reducible first | exact zv_l _ | exact zv_r | apply zv_add | apply zv_sub | apply zv_neg)); (case e4 => repeat (with_reducible first | exact zv_l _ | exact zv_r | apply zv_add | apply zv_sub | apply zv_neg)); (case r1 => first | omega | ((simp (disch := omega) only [zU_c, zU_e, zU_k, zF_c, zF_i, zF_o, zW_o, zW_i, zC_c, zC_i, zC_o]); omega)); (case r2 => first | omega | ((simp (disch := omega) only [zU_c, zU_e, zU_k, zF_c, zF_i, zF_o, zW_o, zW_i, zC_c, zC_i, zC_o]); omega)); (case a1 => assumption); intro _ _ _))
    (first
    | (with_reducible apply z_B; all_goals (intro _; try (exfalso; omega)))
    | (with_reducible apply z_E; all_goals intro _)
    | (with_reducible apply z_lt; (case ha => repeat (with_reducible first | exact zv_l _ | exact zv_r | apply zv_add | apply zv_sub | apply zv_neg)); (case hb => repeat (with_reducible first | exact zv_l _ | exact zv_r | apply zv_add | apply zv_sub | apply zv_neg)); (case hx => omega); (case hy => omega); all_goals (intro _; try (exfalso; omega)))
    | (with_reducible apply z_le; (case ha => repeat (with_reducible first | exact zv_l _ | exact zv_r | apply zv_add | apply zv_sub | apply zv_neg)); (case hb => repeat (with_reducible first | exact zv_l _ | exact zv_r | apply zv_add | apply zv_sub | apply zv_neg)); (case hx => omega); (case hy => omega); all_goals (intro _; try (exfalso; omega)))
    | (with_reducible apply z_eq; (case ha => repeat (with_reducible first | exact zv_l _ | exact zv_r | apply zv_add | apply zv_sub | apply zv_neg)); (case hb => repeat (with_reducible first | exact zv_l _ | exact zv_r | apply zv_add | apply zv_sub | apply zv_neg)); (case hx => omega); (case hy => omega); all_goals (intro _; try (exfalso; omega))))
    · rename_i hx
      rw [if_neg (fun w => hx (by omega))]
      exact ⟨_, _, rfl, rfl, zY_r _⟩
    · rename_i hx
      have hx : x = 0 ∨ x = 1 := by omega
      rw [if_pos ⟨hq, hx⟩]
      refine z_lp (fun n v m1 => ∃ d : Int, v = (50, zI t, zI x, zI d) ∧ 0 ≤ d ∧ d ≤ 31 ∧ n = (31 - d).toNat ∧ zY m m1 ∧ zDay (zScd mc t x) 31 0 = zDay (zScd mc t x) (31 - d).toNat d) (fun _ _ v m1 => v = zI (zDay (zScd mc t x) 31 0) ∧ zY m m1) ?_ 600 31 _ _ (by omega) ⟨0, rfl, by omega, by omega, by omega, zY_r _, rfl⟩
      rintro n v m1 k ⟨d, rfl, d0, d1, rfl, hY, hD⟩ hk
      have hE1 : zEq2 mc m1 3 51 := zEq2_c (fun _ _ _ _ => rfl) (zX_51 hY.1) hE
      have hR1 := zRw_E hW hE1
      unfold f_X7_since_23
      dsimp only
      refine z_lt (x := 30) (y := d) (zv_l 30) rfl (by omega) (by omega) (fun hgt => ?_) (fun hgt => ?_)
      · have : d = 31 := by omega
        subst this
        exact ⟨_, _, rfl, by rw [hD]; rfl, hY⟩
      · have hnext : ¬ zScd mc t x d → ∀ m2, zY m m2 → zOk (k (50, zI t, zI x, zI (d + 1)) (zM m2)) (fun v m1 => v = zI (zDay (zScd mc t x) 31 0) ∧ zY m m1) := fun hn m2 h2 => hk _ _ _ (by omega) ⟨d + 1, rfl, by omega, by omega, rfl, h2, by rw [hD, zDay_n (by omega) hn]⟩
        have hyes : zScd mc t x d → zI d = zI (zDay (zScd mc t x) 31 0) := fun hp => by rw [hD, zDay_y (by omega) hp]
        refine z_7looksAsOf rfl (by omega) hR1 ?_
        have hWd : zWf (zFdd mc d) 3 := zFdd_Wf hW
        have hC : zCr (zL7 m1 (fun k => if d < m1 51 (69 + k) then -1 else m1 51 (78 + k))) (zFdd mc d) 3 := zCr_P hWd (zCs_asof hE1)
        have hY2 : zY m (zL7 m1 (fun k => if d < m1 51 (69 + k) then -1 else m1 51 (78 + k))) := zY_t hY zL7_Y
        have hA2 : zAs (zL7 m1 (fun k => if d < m1 51 (69 + k) then -1 else m1 51 (78 + k))) := zL7_As (fun k k0 k1 => by have := (hR1.2.2 k k0 k1).1; split <;> omega)
        generalize zL7 m1 (fun k => if d < m1 51 (69 + k) then -1 else m1 51 (78 + k)) = M at hY2 hA2 hC
        have hR2 := zRw_X (zX_51 hY2.1) hR
        have htd : 0 ≤ t ∧ t < zFdd mc d 3 0 := by
          rw [zFdd_o (by omega)]
          exact hq
        have htM : 0 ≤ t ∧ t < M 51 0 := by
          rw [hC.1.1]
          exact htd
        refine z_eq (x := x) (y := 0) rfl rfl (by omega) (by omega) (fun hx0 => ?_) (fun hx0 => ?_)
        · refine z_call (s7_isInX (t := t) (a := 0) rfl (zv_l 0) hR2 hA2 htM (Or.inl rfl) (zCr_p hWd hC)) (fun v m2 hv => ?_)
          have hY3 := zIp_Y hY2 hv
          have hval := zIn_Hn hWd hC htd hv
          subst hval
          refine z_B (fun hb => ?_) (fun hb => ?_)
          · exact ⟨_, _, rfl, hyes ⟨fun _ => hb, fun h => absurd hx0 h⟩, hY3⟩
          · repeat' (first
    | (with_reducible apply z_nm; (case he => repeat (with_reducible first | exact zv_l _ | exact zv_r | apply zv_add | apply zv_sub | apply zv_neg)))
    | (with_reducible apply z_b_ck; (case h => with_unfolding_all rfl))
    | (with_reducible apply z_in; (case hA => first | with_reducible exact zj_l _ (by decide) | with_reducible exact zj_m1 | (with_reducible apply zj_e; repeat (with_reducible first | exact zv_l _ | exact zv_r | apply zv_add | apply zv_sub | apply zv_neg))); (case hL => first | with_reducible exact zj_l _ (by decide) | with_reducible exact zj_m1 | (with_reducible apply zj_e; repeat (with_reducible first | exact zv_l _ | exact zv_r | apply zv_add | apply zv_sub | apply zv_neg))); (case hH => first | with_reducible exact zj_l _ (by decide) | with_reducible exact zj_m1 | (with_reducible apply zj_e; repeat (with_reducible first | exact zv_l _ | exact zv_r | apply zv_add | apply zv_sub | apply zv_neg))); (case rx => omega); (case rl => omega); (case rh => omega))
    | (with_reducible apply z_7isTeam; (case e1 => repeat (with_reducible first | exact zv_l _ | exact zv_r | apply zv_add | apply zv_sub | apply zv_neg)); (case r1 => first | omega | ((simp (disch := omega) only [zU_c, zU_e, zU_k, zF_c, zF_i, zF_o, zW_o, zW_i, zC_c, zC_i, zC_o]); omega)); (case r2 => first | omega | ((simp (disch := omega) only [zU_c, zU_e, zU_k, zF_c, zF_i, zF_o, zW_o, zW_i, zC_c, zC_i, zC_o]); omega)))
    | (with_reducible apply z_7looksAsOf; (case e1 => repeat (with_reducible first | exact zv_l _ | exact zv_r | apply zv_add | apply zv_sub | apply zv_neg)); (case r1 => first | omega | ((simp (disch := omega) only [zU_c, zU_e, zU_k, zF_c, zF_i, zF_o, zW_o, zW_i, zC_c, zC_i, zC_o]); omega)); (case a2 => assumption))
    | (with_reducible apply z_7isInNow; (case e3 => repeat (with_reducible first | exact zv_l _ | exact zv_r | apply zv_add | apply zv_sub | apply zv_neg)); (case e4 => repeat (with_reducible first | exact zv_l _ | exact zv_r | apply zv_add | apply zv_sub | apply zv_neg)); (case r1 => first | omega | ((simp (disch := omega) only [zU_c, zU_e, zU_k, zF_c, zF_i, zF_o, zW_o, zW_i, zC_c, zC_i, zC_o]); omega)); (case r2 => first | omega | ((simp (disch := omega) only [zU_c, zU_e, zU_k, zF_c, zF_i, zF_o, zW_o, zW_i, zC_c, zC_i, zC_o]); omega)); (case a1 => assumption); (case a2 => assumption); intro _ _ _)
    | (with_reducible apply z_7since; (case e3 => repeat (with_reducible first | exact zv_l _ | exact zv_r | apply zv_add | apply zv_sub | apply zv_neg)); (case e4 => repeat (with_reducible first | exact zv_l _ | exact zv_r | apply zv_add | apply zv_sub | apply zv_neg)); (case r1 => first | omega | ((simp (disch := omega) only [zU_c, zU_e, zU_k, zF_c, zF_i, zF_o, zW_o, zW_i, zC_c, zC_i, zC_o]); omega)); (case r2 => first | omega | ((simp (disch := omega) only [zU_c, zU_e, zU_k, zF_c, zF_i, zF_o, zW_o, zW_i, zC_c, zC_i, zC_o]); omega)); (case a1 => assumption); intro _ _ _))
            exact hnext (fun q => q.1 hx0 hb) _ hY3
        · refine z_call (s7_passedE hR2 hA2 htM (zCr_p hWd hC)) (fun v m2 hv => ?_)
          obtain ⟨rfl, hM⟩ := hv
          subst hM
          have hps := zPs_Cr (d := if m2 51 2 = 0 then 0 else 1) hWd hC htd
          refine z_E (fun hb => ?_) (fun hb => ?_)
          · exact ⟨_, _, rfl, hyes ⟨fun h => absurd h hx0, fun _ => hps.mp hb⟩, hY2⟩
          · repeat' (first
    | (with_reducible apply z_nm; (case he => repeat (with_reducible first | exact zv_l _ | exact zv_r | apply zv_add | apply zv_sub | apply zv_neg)))
    | (with_reducible apply z_b_ck; (case h => with_unfolding_all rfl))
    | (with_reducible apply z_in; (case hA => first | with_reducible exact zj_l _ (by decide) | with_reducible exact zj_m1 | (with_reducible apply zj_e; repeat (with_reducible first | exact zv_l _ | exact zv_r | apply zv_add | apply zv_sub | apply zv_neg))); (case hL => first | with_reducible exact zj_l _ (by decide) | with_reducible exact zj_m1 | (with_reducible apply zj_e; repeat (with_reducible first | exact zv_l _ | exact zv_r | apply zv_add | apply zv_sub | apply zv_neg))); (case hH => first | with_reducible exact zj_l _ (by decide) | with_reducible exact zj_m1 | (with_reducible apply zj_e; repeat (with_reducible first | exact zv_l _ | exact zv_r | apply zv_add | apply zv_sub | apply zv_neg))); (case rx => omega); (case rl => omega); (case rh => omega))
    | (with_reducible apply z_7isTeam; (case e1 => repeat (with_reducible first | exact zv_l _ | exact zv_r | apply zv_add | apply zv_sub | apply zv_neg)); (case r1 => first | omega | ((simp (disch := omega) only [zU_c, zU_e, zU_k, zF_c, zF_i, zF_o, zW_o, zW_i, zC_c, zC_i, zC_o]); omega)); (case r2 => first | omega | ((simp (disch := omega) only [zU_c, zU_e, zU_k, zF_c, zF_i, zF_o, zW_o, zW_i, zC_c, zC_i, zC_o]); omega)))
    | (with_reducible apply z_7looksAsOf; (case e1 => repeat (with_reducible first | exact zv_l _ | exact zv_r | apply zv_add | apply zv_sub | apply zv_neg)); (case r1 => first | omega | ((simp (disch := omega) only [zU_c, zU_e, zU_k, zF_c, zF_i, zF_o, zW_o, zW_i, zC_c, zC_i, zC_o]); omega)); (case a2 => assumption))
    | (with_reducible apply z_7isInNow; (case e3 => repeat (with_reducible first | exact zv_l _ | exact zv_r | apply zv_add | apply zv_sub | apply zv_neg)); (case e4 => repeat (with_reducible first | exact zv_l _ | exact zv_r | apply zv_add | apply zv_sub | apply zv_neg)); (case r1 => first | omega | ((simp (disch := omega) only [zU_c, zU_e, zU_k, zF_c, zF_i, zF_o, zW_o, zW_i, zC_c, zC_i, zC_o]); omega)); (case r2 => first | omega | ((simp (disch := omega) only [zU_c, zU_e, zU_k, zF_c, zF_i, zF_o, zW_o, zW_i, zC_c, zC_i, zC_o]); omega)); (case a1 => assumption); (case a2 => assumption); intro _ _ _)
    | (with_reducible apply z_7since; (case e3 => repeat (with_reducible first | exact zv_l _ | exact zv_r | apply zv_add | apply zv_sub | apply zv_neg)); (case e4 => repeat (with_reducible first | exact zv_l _ | exact zv_r | apply zv_add | apply zv_sub | apply zv_neg)); (case r1 => first | omega | ((simp (disch := omega) only [zU_c, zU_e, zU_k, zF_c, zF_i, zF_o, zW_o, zW_i, zC_c, zC_i, zC_o]); omega)); (case r2 => first | omega | ((simp (disch := omega) only [zU_c, zU_e, zU_k, zF_c, zF_i, zF_o, zW_o, zW_i, zC_c, zC_i, zC_o]); omega)); (case a1 => assumption); intro _ _ _))
            exact hnext (fun q => hps.mpr (q.2 hx0) hb) _ hY2
theorem zp_sinceE {m : zMe} (h : zInv m) (a b : Int32) : zPr (f_X6_since 0 a b (zM m)) (f_X7_since 50 a b) True := by
  obtain ⟨t, rfl, ht⟩ := zI_of a
  obtain ⟨x, rfl, hx⟩ := zI_of b
  refine zPr_of ((s6_sinceE rfl rfl ht hx h.1.1).mono (fun v m1 hv => ?_))
  obtain ⟨rfl, hF⟩ := hv
  have hE := zEq2_41 h.1.2 (m1 := m1) (fun c hc j => hF c (by omega) j)
  refine (s7_sinceE rfl rfl ht hx h.1.1 hE).mono (fun w m2 hw => ?_)
  obtain ⟨rfl, hY⟩ := hw
  exact ⟨zInv_s h hF hY, fun _ => rfl⟩
