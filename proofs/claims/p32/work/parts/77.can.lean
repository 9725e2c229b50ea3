/-! what a race comes to, of a group alone -/
theorem zNd_congr {o p o' p' : Int → Int} {W team : Int} {n : Nat} {i : Int} (h : ∀ j, i ≤ j → j < i + n → o j = o' j ∧ p j = p' j) : zNd o p W team n i = zNd o' p' W team n i := by
  induction n generalizing i with
  | zero => rfl
  | succ n ih =>
    rw [zNd_s, zNd_s, (h i (by omega) (by omega)).1, (h i (by omega) (by omega)).2, ih (fun j a b => h j (by omega) (by omega))]
theorem zSv_congr {o p o' p' : Int → Int} {W D dr : Int} {n : Nat} {f f' : Int → Int} {i : Int} (h : ∀ j, i ≤ j → j < i + n → o j = o' j ∧ p j = p' j ∧ (0 ≤ o j ∧ o j < 6) ∧ (0 ≤ p j ∧ p j < 6)) (hf : ∀ u, 0 ≤ u → u < 6 → f u = f' u) : zSv o p W D dr n f i = zSv o' p' W D dr n f' i := by
  induction n generalizing f f' i with
  | zero => rfl
  | succ n ih =>
    obtain ⟨h1, h2, h3, h4⟩ := h i (by omega) (by omega)
    have hh : ∀ j, i + 1 ≤ j → j < i + 1 + n → o j = o' j ∧ p j = p' j ∧ (0 ≤ o j ∧ o j < 6) ∧ (0 ≤ p j ∧ p j < 6) := fun j a b => h j (by omega) (by omega)
    have hs : ∀ x W u, 0 ≤ u → u < 6 → zSub f x W u = zSub f' x W u := fun x W u a b => by
      unfold zSub
      rw [hf u a b]
    have eN : ∀ T, zNd o' p' W T (n + 1) i = zNd o p W T (n + 1) i := fun T => (zNd_congr (fun j a b => ⟨(h j a b).1, (h j a b).2.1⟩)).symm
    have e1 : ∀ x, zSv o' p' W D dr n (zSub f' x W) (i + 1) = zSv o p W D dr n (zSub f x W) (i + 1) := fun x => (ih hh (hs x W)).symm
    have e2 : ∀ x y, zSv o' p' W D dr n (zSub (zSub f' x D) y D) (i + 1) = zSv o p W D dr n (zSub (zSub f x D) y D) (i + 1) := fun x y => (ih hh (fun u a b => by
      unfold zSub
      rw [hf u a b])).symm
    rw [zSv_s, zSv_s, ← h1, ← h2, ← hf _ h3.1 h3.2, ← hf _ h4.1 h4.2, eN, eN, e1, e1, e2]
theorem zW_f {m w : zMe} {a b c : Nat} (h : a ≤ c ∧ c ≤ b) : zW m a b w c = w c := by
  funext j
  exact zW_i h
def zOf (m : zMe) (r : Nat) (l : List Nat) (c : Nat) : Int → Int := fun i => m (r + c) ((l.getD i.toNat 0 : Nat) : Int)
/-- the first results by which nobody has more, if t wins these of its own -/
def zRn (m : zMe) (r : Nat) (t : Int) (wins : Nat) : Option (List Int) := zSv (zOf m r (zLs m r t (m r 1).toNat) 4) (zOf m r (zLs m r t (m r 1).toNat) 5) (m r 2 + 1) (if m r 2 = 0 then 0 else 1) (if m r 2 = 0 then 0 else 1) (zLs m r t (m r 1).toNat).length (zRo m r t wins (m r 1).toNat) 0
def zCn (m : zMe) (r : Nat) (t : Int) (wins : Nat) : Prop := (∀ u, 0 ≤ u → u < 6 → 0 ≤ zRo m r t wins (m r 1).toNat u) ∧ (zRn m r t wins).isSome = true
theorem zOp_So {m w : zMe} {r wins : Nat} {t : Int} (hW : zWf m r) (h : zOp m r t wins w) : zSo1 w 0 = zRn m r t wins := by
  obtain ⟨⟨h1, h2⟩, h3, h4, h5, h6⟩ := h
  have hT := hW.1.1
  unfold zSo1 zRn
  have e : (w 30 5 - 0).toNat = (zLs m r t (m r 1).toNat).length := by omega
  rw [e, h4, h5, h6]
  refine zSv_congr (fun j a b => ?_) h3
  have hj : j.toNat < (zLs m r t (m r 1).toNat).length := by omega
  have e : ((j.toNat : Nat) : Int) = j := by omega
  obtain ⟨-, p2, p3⟩ := h2 j.toNat hj
  rw [e] at p2 p3
  have hlt := getD_lt (zLs_lt m r t (m r 1).toNat) hj
  have hg := hW.2.2.1 (((zLs m r t (m r 1).toNat).getD j.toNat 0 : Nat) : Int) (by omega) (by omega)
  refine ⟨p2, p3, ?_, ?_⟩
  · rw [p2]
    omega
  · rw [p3]
    omega
theorem zOp_Ce {m w : zMe} {r wins : Nat} {t : Int} (hW : zWf m r) (h : zOp m r t wins w) : zCe w ↔ zCn m r t wins := by
  have h1 := zOp_So hW h
  obtain ⟨-, h3, -⟩ := h
  unfold zCe zCn
  rw [h1]
  constructor
  · rintro ⟨a, b⟩
    exact ⟨fun u u0 u1 => by rw [← h3 u u0 u1]; exact a u u0 u1, b⟩
  · rintro ⟨a, b⟩
    exact ⟨fun u u0 u1 => by rw [h3 u u0 u1]; exact a u u0 u1, b⟩
theorem zSo1_W {m w : zMe} {i : Int} : zSo1 (zW m 30 34 w) i = zSo1 w i := by
  unfold zSo1
  rw [zW_f (by omega), zW_f (by omega), zW_f (by omega), zW_f (by omega)]
theorem zCe_W {m w : zMe} : zCe (zW m 30 34 w) ↔ zCe w := by
  unfold zCe
  rw [zSo1_W, zW_f (by omega)]
theorem zRd1_W {m w : zMe} (h : zRd1 w) : zRd1 (zW m 30 34 w) := by
  unfold zRd1 at h ⊢
  rw [zW_f (by omega), zW_f (by omega), zW_f (by omega), zW_f (by omega)]
  exact h
theorem zOp_S {m m1 w : zMe} {r wins : Nat} {t : Int} (h : zSame m m1 r) (ho : zOp m1 r t wins w) : zOp m r t wins w := by
  unfold zOp zEs at ho ⊢
  simp only [zLs_S h, zRo_S h, h r (by omega) (by omega), h (r + 4) (by omega) (by omega), h (r + 5) (by omega) (by omega)] at ho
  exact ho
/-! who can win -/
/-- the cells from a to 40 alone are touched -/
def zFr (a : Nat) (m m1 : zMe) : Prop := ∀ c, ¬ (a ≤ c ∧ c ≤ 40) → ∀ j, m1 c j = m c j
theorem zFr_r (a : Nat) (m : zMe) : zFr a m m := fun c _ j => rfl
theorem zFr_t {a b : Nat} {m m1 m2 : zMe} (h1 : zFr a m m1) (h2 : zFr b m1 m2) (h : a ≤ b) : zFr a m m2 := fun c hc j => by rw [h2 c (by omega) j, h1 c hc j]
theorem zFr_W {a x y : Nat} {m m1 w : zMe} (h1 : zFr a m m1) (h : a ≤ x ∧ y ≤ 40) : zFr a m (zW m1 x y w) := fun c hc j => by rw [zW_o (by omega), h1 c hc j]
theorem zFr_U {a r : Nat} {m m1 : zMe} {k x : Int} (h1 : zFr a m m1) (h : a ≤ r ∧ r ≤ 40) : zFr a m (zU m1 r k x) := fun c hc j => by rw [zU_c (by omega), h1 c hc j]
theorem zFr_F {a r : Nat} {m m1 : zMe} {s n : Int} {g : Int → Int} (h1 : zFr a m m1) (h : a ≤ r ∧ r ≤ 40) : zFr a m (zF m1 r s n g) := fun c hc j => by rw [zF_c (by omega), h1 c hc j]
theorem zFr_A {a r : Nat} {m m1 : zMe} {g : Int → Int} (h1 : zFr a m m1) (h : a ≤ r ∧ r ≤ 40) : zFr a m (zAw m1 r g) := fun c hc j => by rw [zAw_c (by omega), h1 c hc j]
theorem zFr_S {a r : Nat} {m m1 : zMe} (h1 : zFr a m m1) (h : r + 7 < a) : zSame m m1 r := fun c q1 q2 j => h1 c (by omega) j
def zCw (m : zMe) (r : Nat) (t : Int) : Prop := (zSet m r t).2 ≤ 0 ∧ (m r 2 = 2 → zCn m r t (zOwn m r t))
theorem zCn_S {m m1 : zMe} {r wins : Nat} {t : Int} (h : zSame m m1 r) : zCn m1 r t wins ↔ zCn m r t wins := by
  have e : zOf m1 r (zLs m r t (m r 1).toNat) 4 = zOf m r (zLs m r t (m r 1).toNat) 4 := by
    funext i
    exact h (r + 4) (by omega) (by omega) _
  have e2 : zOf m1 r (zLs m r t (m r 1).toNat) 5 = zOf m r (zLs m r t (m r 1).toNat) 5 := by
    funext i
    exact h (r + 5) (by omega) (by omega) _
  have e3 : zRo m1 r t wins (m r 1).toNat = zRo m r t wins (m r 1).toNat := by
    funext u
    exact zRo_S h _ _ _ _
  unfold zCn zRn
  rw [h r (by omega) (by omega), h r (by omega) (by omega), zLs_S h, e, e2, e3]
theorem zCw_S {m m1 : zMe} {r : Nat} {t : Int} (h : zSame m m1 r) : zCw m1 r t ↔ zCw m r t := by
  unfold zCw
  rw [zSet_S h, h r (by omega) (by omega), zOwn_S h, zCn_S h]
theorem zE_iff {p q : Prop} (h : p ↔ q) : zE p = zE q := by rw [propext h]
set_option maxRecDepth 100000 in
set_option maxHeartbeats 1000000 in
theorem s_6canWin {m : zMe} {r : Nat} {e : Int32} {t : Int} (a1 : zG r) (e1 : e = zI t) (r1 : 0 ≤ t ∧ t < m r 0) (a2 : zWf m r) : zOk (f_X6_canWin 0 r e (zM m)) (fun v m1 => v = zI (zE (zCw m r t)) ∧ zFr 27 m m1) := by
  subst e1
  have hl : r = 3 ∨ r = 11 ∨ r = 19 := a1
  have hT := a2.1.1
  have hN := a2.1.2.1
  have hK := a2.1.2.2
  have hg : ∀ k, 0 ≤ k → k < m r 1 → (-1 ≤ m (r + 7) k ∧ m (r + 7) k ≤ 2) ∧ (0 ≤ m (r + 4) k ∧ m (r + 4) k < 6) ∧ (0 ≤ m (r + 5) k ∧ m (r + 5) k < 6) := fun k q0 q1 => by
    have := a2.2.2.1 k q0 q1
    omega
  have hsr := zSl_range (m := m) (r := r) (t := t) a2 r1.1 (2 ^ (m r 0).toNat - 1)
  have hsr2 : -2147483648 ≤ (zSet m r t).2 ∧ (zSet m r t).2 < 2147483648 := by
    unfold zSet
    omega
  unfold f_X6_canWin
  (first
    | (with_reducible apply z_nm; (case he => repeat (with_reducible first | exact zv_l _ | exact zv_r | apply zv_add | apply zv_sub | apply zv_neg)))
    | (with_reducible apply z_b_ck; (case h => with_unfolding_all rfl))
    | (with_reducible apply z_I; (case h => first | exact zg_I2 (by assumption) | with_unfolding_all rfl); (case hy => first | ((simp (disch := omega) only [zU_c, zU_e, zU_k, zF_c, zF_i, zF_o, zW_o, zW_i, zC_c, zC_i, zC_o]); rfl) | rfl))
    | (with_reducible apply z_b_R; (case h => first | with_unfolding_all rfl))
    | with_reducible refine z_bz ?_
    | with_reducible refine z_bzE ?_
    | (with_reducible apply z_bzl; (case h => omega))
    | (with_reducible apply z_0leftOf; (case a1 => assumption); (case e1 => repeat (with_reducible first | exact zv_l _ | exact zv_r | apply zv_add | apply zv_sub | apply zv_neg)); (case r2 => first | omega | ((simp (disch := omega) only [zU_c, zU_e, zU_k, zF_c, zF_i, zF_o, zW_o, zW_i, zC_c, zC_i, zC_o]); omega)); (case r1 => first | omega | ((simp (disch := omega) only [zU_c, zU_e, zU_k, zF_c, zF_i, zF_o, zW_o, zW_i, zC_c, zC_i, zC_o]); omega)); (case a2 => assumption))
    | (with_reducible apply z_3find; (case a1 => assumption); (case e1 => repeat (with_reducible first | exact zv_l _ | exact zv_r | apply zv_add | apply zv_sub | apply zv_neg)); (case r1 => first | omega | ((simp (disch := omega) only [zU_c, zU_e, zU_k, zF_c, zF_i, zF_o, zW_o, zW_i, zC_c, zC_i, zC_o]); omega)); (case a2 => assumption); intro _ _ _)
    | (with_reducible apply z_1canEnd; (case a1 => assumption); intro _ _ _)
    | (with_reducible apply z_1open; (case a1 => assumption); (case e1 => repeat (with_reducible first | exact zv_l _ | exact zv_r | apply zv_add | apply zv_sub | apply zv_neg)); (case e2 => repeat (with_reducible first | exact zv_l _ | exact zv_r | apply zv_add | apply zv_sub | apply zv_neg)); (case r1 => first | omega | ((simp (disch := omega) only [zU_c, zU_e, zU_k, zF_c, zF_i, zF_o, zW_o, zW_i, zC_c, zC_i, zC_o]); omega)); (case a2 => assumption); (case a3 => assumption); intro _ _ _))
  (first
    | (with_reducible apply z_nm; (case he => repeat (with_reducible first | exact zv_l _ | exact zv_r | apply zv_add | apply zv_sub | apply zv_neg)))
    | (with_reducible apply z_b_ck; (case h => with_unfolding_all rfl))
    | (with_reducible apply z_I; (case h => first | exact zg_I2 (by assumption) | with_unfolding_all rfl); (case hy => first | ((simp (disch := omega) only [zU_c, zU_e, zU_k, zF_c, zF_i, zF_o, zW_o, zW_i, zC_c, zC_i, zC_o]); rfl) | rfl))
    | (with_reducible apply z_b_R; (case h => first | with_unfolding_all rfl))
    | with_reducible refine z_bz ?_
    | with_reducible refine z_bzE ?_
    | (with_reducible apply z_bzl; (case h => omega))
    | (with_reducible apply z_0leftOf; (case a1 => assumption); (case e1 => repeat (with_reducible first | exact zv_l _ | exact zv_r | apply zv_add | apply zv_sub | apply zv_neg)); (case r2 => first | omega | ((simp (disch := omega) only [zU_c, zU_e, zU_k, zF_c, zF_i, zF_o, zW_o, zW_i, zC_c, zC_i, zC_o]); omega)); (case r1 => first | omega | ((simp (disch := omega) only [zU_c, zU_e, zU_k, zF_c, zF_i, zF_o, zW_o, zW_i, zC_c, zC_i, zC_o]); omega)); (case a2 => assumption))
    | (with_reducible apply z_3find; (case a1 => assumption); (case e1 => repeat (with_reducible first | exact zv_l _ | exact zv_r | apply zv_add | apply zv_sub | apply zv_neg)); (case r1 => first | omega | ((simp (disch := omega) only [zU_c, zU_e, zU_k, zF_c, zF_i, zF_o, zW_o, zW_i, zC_c, zC_i, zC_o]); omega)); (case a2 => assumption); intro _ _ _)
    | (with_reducible apply z_1canEnd; (case a1 => assumption); intro _ _ _)
    | (with_reducible apply z_1open; (case a1 => assumption); (case e1 => repeat (with_reducible first | exact zv_l _ | exact zv_r | apply zv_add | apply zv_sub | apply zv_neg)); (case e2 => repeat (with_reducible first | exact zv_l _ | exact zv_r | apply zv_add | apply zv_sub | apply zv_neg)); (case r1 => first | omega | ((simp (disch := omega) only [zU_c, zU_e, zU_k, zF_c, zF_i, zF_o, zW_o, zW_i, zC_c, zC_i, zC_o]); omega)); (case a2 => assumption); (case a3 => assumption); intro _ _ _))
  refine z_3find a1 rfl r1 a2 (fun v w hw => ?_)
  obtain ⟨rfl, -, -⟩ := hw
  have hS : zSame m (zW m 27 29 w) r := zSame_W (by omega)
  refine z_le (x := (zSet m r t).2) (y := 0) rfl rfl hsr2 (by omega) (fun h => ?_) (fun h => ?_)
  · (first
    | (with_reducible apply z_nm; (case he => repeat (with_reducible first | exact zv_l _ | exact zv_r | apply zv_add | apply zv_sub | apply zv_neg)))
    | (with_reducible apply z_b_ck; (case h => with_unfolding_all rfl))
    | (with_reducible apply z_I; (case h => first | exact zg_I2 (by assumption) | with_unfolding_all rfl); (case hy => first | ((simp (disch := omega) only [zU_c, zU_e, zU_k, zF_c, zF_i, zF_o, zW_o, zW_i, zC_c, zC_i, zC_o]); rfl) | rfl))
    | (with_reducible apply z_b_R; (case h => first | with_unfolding_all rfl))
    | with_reducible refine z_bz ?_
    | with_reducible refine z_bzE ?_
    | (with_reducible apply z_bzl; (case h => omega))
    | (with_reducible apply z_0leftOf; (case a1 => assumption); (case e1 => repeat (with_reducible first | exact zv_l _ | exact zv_r | apply zv_add | apply zv_sub | apply zv_neg)); (case r2 => first | omega | ((simp (disch := omega) only [zU_c, zU_e, zU_k, zF_c, zF_i, zF_o, zW_o, zW_i, zC_c, zC_i, zC_o]); omega)); (case r1 => first | omega | ((simp (disch := omega) only [zU_c, zU_e, zU_k, zF_c, zF_i, zF_o, zW_o, zW_i, zC_c, zC_i, zC_o]); omega)); (case a2 => assumption))
    | (with_reducible apply z_3find; (case a1 => assumption); (case e1 => repeat (with_reducible first | exact zv_l _ | exact zv_r | apply zv_add | apply zv_sub | apply zv_neg)); (case r1 => first | omega | ((simp (disch := omega) only [zU_c, zU_e, zU_k, zF_c, zF_i, zF_o, zW_o, zW_i, zC_c, zC_i, zC_o]); omega)); (case a2 => assumption); intro _ _ _)
    | (with_reducible apply z_1canEnd; (case a1 => assumption); intro _ _ _)
    | (with_reducible apply z_1open; (case a1 => assumption); (case e1 => repeat (with_reducible first | exact zv_l _ | exact zv_r | apply zv_add | apply zv_sub | apply zv_neg)); (case e2 => repeat (with_reducible first | exact zv_l _ | exact zv_r | apply zv_add | apply zv_sub | apply zv_neg)); (case r1 => first | omega | ((simp (disch := omega) only [zU_c, zU_e, zU_k, zF_c, zF_i, zF_o, zW_o, zW_i, zC_c, zC_i, zC_o]); omega)); (case a2 => assumption); (case a3 => assumption); intro _ _ _))
    (first
    | (with_reducible apply z_B; all_goals (intro _; try (exfalso; omega)))
    | (with_reducible apply z_E; all_goals intro _)
    | (with_reducible apply z_lt; (case ha => repeat (with_reducible first | exact zv_l _ | exact zv_r | apply zv_add | apply zv_sub | apply zv_neg)); (case hb => repeat (with_reducible first | exact zv_l _ | exact zv_r | apply zv_add | apply zv_sub | apply zv_neg)); (case hx => omega); (case hy => omega); all_goals (intro _; try (exfalso; omega)))
    | (with_reducible apply z_le; (case ha => repeat (with_reducible first | exact zv_l _ | exact zv_r | apply zv_add | apply zv_sub | apply zv_neg)); (case hb => repeat (with_reducible first | exact zv_l _ | exact zv_r | apply zv_add | apply zv_sub | apply zv_neg)); (case hx => omega); (case hy => omega); all_goals (intro _; try (exfalso; omega)))
    | (with_reducible apply z_eq; (case ha => repeat (with_reducible first | exact zv_l _ | exact zv_r | apply zv_add | apply zv_sub | apply zv_neg)); (case hb => repeat (with_reducible first | exact zv_l _ | exact zv_r | apply zv_add | apply zv_sub | apply zv_neg)); (case hx => omega); (case hy => omega); all_goals (intro _; try (exfalso; omega))))
    · rename_i hk2
      (first
    | (with_reducible apply z_nm; (case he => repeat (with_reducible first | exact zv_l _ | exact zv_r | apply zv_add | apply zv_sub | apply zv_neg)))
    | (with_reducible apply z_b_ck; (case h => with_unfolding_all rfl))
    | (with_reducible apply z_I; (case h => first | exact zg_I2 (by assumption) | with_unfolding_all rfl); (case hy => first | ((simp (disch := omega) only [zU_c, zU_e, zU_k, zF_c, zF_i, zF_o, zW_o, zW_i, zC_c, zC_i, zC_o]); rfl) | rfl))
    | (with_reducible apply z_b_R; (case h => first | with_unfolding_all rfl))
    | with_reducible refine z_bz ?_
    | with_reducible refine z_bzE ?_
    | (with_reducible apply z_bzl; (case h => omega))
    | (with_reducible apply z_0leftOf; (case a1 => assumption); (case e1 => repeat (with_reducible first | exact zv_l _ | exact zv_r | apply zv_add | apply zv_sub | apply zv_neg)); (case r2 => first | omega | ((simp (disch := omega) only [zU_c, zU_e, zU_k, zF_c, zF_i, zF_o, zW_o, zW_i, zC_c, zC_i, zC_o]); omega)); (case r1 => first | omega | ((simp (disch := omega) only [zU_c, zU_e, zU_k, zF_c, zF_i, zF_o, zW_o, zW_i, zC_c, zC_i, zC_o]); omega)); (case a2 => assumption))
    | (with_reducible apply z_3find; (case a1 => assumption); (case e1 => repeat (with_reducible first | exact zv_l _ | exact zv_r | apply zv_add | apply zv_sub | apply zv_neg)); (case r1 => first | omega | ((simp (disch := omega) only [zU_c, zU_e, zU_k, zF_c, zF_i, zF_o, zW_o, zW_i, zC_c, zC_i, zC_o]); omega)); (case a2 => assumption); intro _ _ _)
    | (with_reducible apply z_1canEnd; (case a1 => assumption); intro _ _ _)
    | (with_reducible apply z_1open; (case a1 => assumption); (case e1 => repeat (with_reducible first | exact zv_l _ | exact zv_r | apply zv_add | apply zv_sub | apply zv_neg)); (case e2 => repeat (with_reducible first | exact zv_l _ | exact zv_r | apply zv_add | apply zv_sub | apply zv_neg)); (case r1 => first | omega | ((simp (disch := omega) only [zU_c, zU_e, zU_k, zF_c, zF_i, zF_o, zW_o, zW_i, zC_c, zC_i, zC_o]); omega)); (case a2 => assumption); (case a3 => assumption); intro _ _ _))
      refine z_0leftOf a1 rfl (by omega) (by rw [zW_o (by omega)]; exact hN) (fun k q0 q1 => ?_) ?_
      · rw [zW_o (by omega)] at q1
        rw [zW_o (by omega), zW_o (by omega), zW_o (by omega)]
        exact hg k q0 q1
      rw [zOwn_S hS]
      refine z_1open a1 rfl rfl (by rw [zW_o (by omega)]; exact r1) (zWf_S hS a2) (zOwn_lt hN) (fun _ w2 h2 => ?_)
      have hRd := zRd1_W (m := zW m 27 29 w) (zOp_Rd (zWf_S hS a2) r1.1 h2)
      have hC := zOp_Ce a2 (zOp_S hS h2)
      (first
    | (with_reducible apply z_nm; (case he => repeat (with_reducible first | exact zv_l _ | exact zv_r | apply zv_add | apply zv_sub | apply zv_neg)))
    | (with_reducible apply z_b_ck; (case h => with_unfolding_all rfl))
    | (with_reducible apply z_I; (case h => first | exact zg_I2 (by assumption) | with_unfolding_all rfl); (case hy => first | ((simp (disch := omega) only [zU_c, zU_e, zU_k, zF_c, zF_i, zF_o, zW_o, zW_i, zC_c, zC_i, zC_o]); rfl) | rfl))
    | (with_reducible apply z_b_R; (case h => first | with_unfolding_all rfl))
    | with_reducible refine z_bz ?_
    | with_reducible refine z_bzE ?_
    | (with_reducible apply z_bzl; (case h => omega))
    | (with_reducible apply z_0leftOf; (case a1 => assumption); (case e1 => repeat (with_reducible first | exact zv_l _ | exact zv_r | apply zv_add | apply zv_sub | apply zv_neg)); (case r2 => first | omega | ((simp (disch := omega) only [zU_c, zU_e, zU_k, zF_c, zF_i, zF_o, zW_o, zW_i, zC_c, zC_i, zC_o]); omega)); (case r1 => first | omega | ((simp (disch := omega) only [zU_c, zU_e, zU_k, zF_c, zF_i, zF_o, zW_o, zW_i, zC_c, zC_i, zC_o]); omega)); (case a2 => assumption))
    | (with_reducible apply z_3find; (case a1 => assumption); (case e1 => repeat (with_reducible first | exact zv_l _ | exact zv_r | apply zv_add | apply zv_sub | apply zv_neg)); (case r1 => first | omega | ((simp (disch := omega) only [zU_c, zU_e, zU_k, zF_c, zF_i, zF_o, zW_o, zW_i, zC_c, zC_i, zC_o]); omega)); (case a2 => assumption); intro _ _ _)
    | (with_reducible apply z_1canEnd; (case a1 => assumption); intro _ _ _)
    | (with_reducible apply z_1open; (case a1 => assumption); (case e1 => repeat (with_reducible first | exact zv_l _ | exact zv_r | apply zv_add | apply zv_sub | apply zv_neg)); (case e2 => repeat (with_reducible first | exact zv_l _ | exact zv_r | apply zv_add | apply zv_sub | apply zv_neg)); (case r1 => first | omega | ((simp (disch := omega) only [zU_c, zU_e, zU_k, zF_c, zF_i, zF_o, zW_o, zW_i, zC_c, zC_i, zC_o]); omega)); (case a2 => assumption); (case a3 => assumption); intro _ _ _))
      refine z_1canEnd hRd (fun v m1 hp => ?_)
      obtain ⟨w3, rfl, rfl, -⟩ := hp
      (first
    | (with_reducible apply z_nm; (case he => repeat (with_reducible first | exact zv_l _ | exact zv_r | apply zv_add | apply zv_sub | apply zv_neg)))
    | (with_reducible apply z_b_ck; (case h => with_unfolding_all rfl))
    | (with_reducible apply z_I; (case h => first | exact zg_I2 (by assumption) | with_unfolding_all rfl); (case hy => first | ((simp (disch := omega) only [zU_c, zU_e, zU_k, zF_c, zF_i, zF_o, zW_o, zW_i, zC_c, zC_i, zC_o]); rfl) | rfl))
    | (with_reducible apply z_b_R; (case h => first | with_unfolding_all rfl))
    | with_reducible refine z_bz ?_
    | with_reducible refine z_bzE ?_
    | (with_reducible apply z_bzl; (case h => omega))
    | (with_reducible apply z_0leftOf; (case a1 => assumption); (case e1 => repeat (with_reducible first | exact zv_l _ | exact zv_r | apply zv_add | apply zv_sub | apply zv_neg)); (case r2 => first | omega | ((simp (disch := omega) only [zU_c, zU_e, zU_k, zF_c, zF_i, zF_o, zW_o, zW_i, zC_c, zC_i, zC_o]); omega)); (case r1 => first | omega | ((simp (disch := omega) only [zU_c, zU_e, zU_k, zF_c, zF_i, zF_o, zW_o, zW_i, zC_c, zC_i, zC_o]); omega)); (case a2 => assumption))
    | (with_reducible apply z_3find; (case a1 => assumption); (case e1 => repeat (with_reducible first | exact zv_l _ | exact zv_r | apply zv_add | apply zv_sub | apply zv_neg)); (case r1 => first | omega | ((simp (disch := omega) only [zU_c, zU_e, zU_k, zF_c, zF_i, zF_o, zW_o, zW_i, zC_c, zC_i, zC_o]); omega)); (case a2 => assumption); intro _ _ _)
    | (with_reducible apply z_1canEnd; (case a1 => assumption); intro _ _ _)
    | (with_reducible apply z_1open; (case a1 => assumption); (case e1 => repeat (with_reducible first | exact zv_l _ | exact zv_r | apply zv_add | apply zv_sub | apply zv_neg)); (case e2 => repeat (with_reducible first | exact zv_l _ | exact zv_r | apply zv_add | apply zv_sub | apply zv_neg)); (case r1 => first | omega | ((simp (disch := omega) only [zU_c, zU_e, zU_k, zF_c, zF_i, zF_o, zW_o, zW_i, zC_c, zC_i, zC_o]); omega)); (case a2 => assumption); (case a3 => assumption); intro _ _ _))
      refine ⟨_, _, rfl, ?_, ?_⟩
      · rw [zE_iff zCe_W, zE_iff hC]
        exact congrArg zI (zE_iff (p := zCn m r t (zOwn m r t)) (q := zCw m r t) ⟨fun q => ⟨h, fun _ => q⟩, fun q => q.2 hk2⟩)
      · exact zFr_W (zFr_W (zFr_W (zFr_r 27 m) (by omega)) (by omega)) (by omega)
    · rename_i hk2
      refine ⟨_, _, rfl, ?_, zFr_W (zFr_r 27 m) (by omega)⟩
      rw [zE_p ⟨h, fun q => absurd q hk2⟩]
      rfl
  · refine ⟨_, _, rfl, ?_, zFr_W (zFr_r 27 m) (by omega)⟩
    rw [zE_n (fun q => h q.1)]
    rfl
theorem z_6canWin {m : zMe} {r : Nat} {e : Int32} {t : Int} (a1 : zG r) (e1 : e = zI t) (r1 : 0 ≤ t ∧ t < m r 0) (a2 : zWf m r) {α : Type} {kf : Int32 × Hp → Option (α × Hp)} {Q : α → zMe → Prop} (K : ∀ (v : Int32) (m1 : zMe), (fun v m1 => v = zI (zE (zCw m r t)) ∧ zFr 27 m m1) v m1 → zOk (kf (v, zM m1)) Q) : zOk ((f_X6_canWin 0 r e (zM m)).bind kf) Q := z_call (s_6canWin a1 e1 r1 a2) K
