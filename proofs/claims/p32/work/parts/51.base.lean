/-! small functions, sheets -/
theorem zU_c {m : zMe} {r c : Nat} {k x j : Int} (h : ¬ c = r) : zU m r k x c j = m c j := if_neg h
theorem zU_e {m : zMe} {r : Nat} {k x : Int} : zU m r k x r k = x := by simp [zU]
theorem zU_k {m : zMe} {r : Nat} {k x j : Int} (h : ¬ j = k) : zU m r k x r j = m r j := by simp [zU, h]
/-- a row's n items from one on become these -/
def zF (m : zMe) (c : Nat) (s n : Int) (g : Int → Int) : zMe := fun d j => if d = c then (if s ≤ j ∧ j < s + n then g (j - s) else m d j) else m d j
theorem zF_0 (m : zMe) (c : Nat) (s : Int) (g : Int → Int) : zF m c s 0 g = m := by
  funext d j
  unfold zF
  split
  · rw [if_neg (by omega)]
  · rfl
theorem zF_s {m : zMe} {c : Nat} {s i k y : Int} {g : Int → Int} (h : 0 ≤ i) (hk : k = s + i) (hy : y = g i) : zU (zF m c s i g) c k y = zF m c s (i + 1) g := by
  subst hk
  funext d j
  unfold zU zF
  by_cases hd : d = c
  · simp only [hd, if_true]
    by_cases hj : j = s + i
    · rw [if_pos hj, if_pos (by omega), hy]
      have e : j - s = i := by omega
      rw [e]
    · rw [if_neg hj]
      by_cases hk : s ≤ j ∧ j < s + i
      · rw [if_pos hk, if_pos (by omega)]
      · rw [if_neg hk, if_neg (by omega)]
  · simp only [hd, if_false]
theorem zF_c {m : zMe} {c d : Nat} {s n j : Int} {g : Int → Int} (h : ¬ d = c) : zF m c s n g d j = m d j := if_neg h
theorem zF_i {m : zMe} {c : Nat} {s n j : Int} {g : Int → Int} (h : s ≤ j ∧ j < s + n) : zF m c s n g c j = g (j - s) := by
  unfold zF
  rw [if_pos rfl, if_pos h]
theorem zF_o {m : zMe} {c : Nat} {s n j : Int} {g : Int → Int} (h : ¬ (s ≤ j ∧ j < s + n)) : zF m c s n g c j = m c j := by
  unfold zF
  rw [if_pos rfl, if_neg h]
/-- the cells from a to b are these, the others as they were -/
def zW (m : zMe) (a b : Nat) (w : zMe) : zMe := fun c j => if a ≤ c ∧ c ≤ b then w c j else m c j
theorem zW_o {m w : zMe} {a b c : Nat} {j : Int} (h : ¬ (a ≤ c ∧ c ≤ b)) : zW m a b w c j = m c j := if_neg h
theorem zW_i {m w : zMe} {a b c : Nat} {j : Int} (h : a ≤ c ∧ c ≤ b) : zW m a b w c j = w c j := if_pos h
theorem zW_0 (m : zMe) (a b : Nat) : m = zW m a b m := by
  funext c j
  unfold zW
  split <;> rfl
theorem zU_W {m w : zMe} {a b c : Nat} {k x : Int} (h : a ≤ c ∧ c ≤ b) : zU (zW m a b w) c k x = zW m a b (zU w c k x) := by
  funext d j
  unfold zU zW
  by_cases h1 : d = c
  · subst h1
    simp only [if_true, if_pos h]
  · simp only [if_neg h1]
theorem zF_W {m w : zMe} {a b c : Nat} {s n : Int} {g : Int → Int} (h : a ≤ c ∧ c ≤ b) : zF (zW m a b w) c s n g = zW m a b (zF w c s n g) := by
  funext d j
  unfold zF zW
  by_cases h1 : d = c
  · subst h1
    simp only [if_true, if_pos h]
  · simp only [if_neg h1]
theorem zC_c {m : zMe} {r d c : Nat} {sp dp n j : Int} (h : ¬ c = d) : zC m r sp d dp n c j = m c j := if_neg h
theorem zC_i {m : zMe} {r d : Nat} {sp dp n j : Int} (h : dp ≤ j ∧ j < dp + n) : zC m r sp d dp n d j = m r (sp + (j - dp)) := by
  unfold zC
  rw [if_pos rfl, if_pos h]
theorem zC_o {m : zMe} {r d : Nat} {sp dp n j : Int} (h : ¬ (dp ≤ j ∧ j < dp + n)) : zC m r sp d dp n d j = m d j := by
  unfold zC
  rw [if_pos rfl, if_neg h]
theorem zW_W {m w w' : zMe} {a b a' b' : Nat} (h : a ≤ a' ∧ b' ≤ b) : zW (zW m a b w) a' b' w' = zW m a b (zW w a' b' w') := by
  funext d j
  unfold zW
  by_cases h1 : a' ≤ d ∧ d ≤ b'
  · rw [if_pos h1, if_pos (by omega), if_pos h1]
  · rw [if_neg h1, if_neg h1]
/-- bits and shifts of integers, as the machine has them -/
def zOr (x y : Int) : Int := (zI x ||| zI y).toInt
def zAnd (x y : Int) : Int := (zI x &&& zI y).toInt
def zXor (x y : Int) : Int := (zI x ^^^ zI y).toInt
def zShl (x y : Int) : Int := (zI x <<< (zI y &&& 31)).toInt
def zShr (x y : Int) : Int := (zI x >>> (zI y &&& 31)).toInt
def zUsr (x y : Int) : Int := (ushr (zI x) (zI y)).toInt
def zDiv (x y : Int) : Int := (zI x / zI y).toInt
def zByt (x : Int) : Int := ((zI x).toInt8.toInt32).toInt
theorem zI_self (x : Int32) : x = zI x.toInt := (Int32.ofInt_toInt x).symm
theorem zv_or {a b : Int32} {x y : Int} (ha : a = zI x) (hb : b = zI y) : a ||| b = zI (zOr x y) := by subst ha; subst hb; exact zI_self _
theorem zv_and {a b : Int32} {x y : Int} (ha : a = zI x) (hb : b = zI y) : a &&& b = zI (zAnd x y) := by subst ha; subst hb; exact zI_self _
theorem zv_xor {a b : Int32} {x y : Int} (ha : a = zI x) (hb : b = zI y) : a ^^^ b = zI (zXor x y) := by subst ha; subst hb; exact zI_self _
theorem zv_shl {a b : Int32} {x y : Int} (ha : a = zI x) (hb : b = zI y) : a <<< (b &&& 31) = zI (zShl x y) := by subst ha; subst hb; exact zI_self _
theorem zv_shr {a b : Int32} {x y : Int} (ha : a = zI x) (hb : b = zI y) : a >>> (b &&& 31) = zI (zShr x y) := by subst ha; subst hb; exact zI_self _
theorem zv_usr {a b : Int32} {x y : Int} (ha : a = zI x) (hb : b = zI y) : ushr a b = zI (zUsr x y) := by subst ha; subst hb; exact zI_self _
theorem zv_div {a b : Int32} {x y : Int} (ha : a = zI x) (hb : b = zI y) : a / b = zI (zDiv x y) := by subst ha; subst hb; exact zI_self _
theorem zv_byt {a : Int32} {x : Int} (ha : a = zI x) : a.toInt8.toInt32 = zI (zByt x) := by subst ha; exact zI_self _
theorem zr_or (x y : Int) : -2147483648 ≤ zOr x y ∧ zOr x y < 2147483648 := ⟨Int32.le_toInt _, Int32.toInt_lt _⟩
theorem zr_and (x y : Int) : -2147483648 ≤ zAnd x y ∧ zAnd x y < 2147483648 := ⟨Int32.le_toInt _, Int32.toInt_lt _⟩
theorem zr_xor (x y : Int) : -2147483648 ≤ zXor x y ∧ zXor x y < 2147483648 := ⟨Int32.le_toInt _, Int32.toInt_lt _⟩
theorem zr_shl (x y : Int) : -2147483648 ≤ zShl x y ∧ zShl x y < 2147483648 := ⟨Int32.le_toInt _, Int32.toInt_lt _⟩
theorem zr_shr (x y : Int) : -2147483648 ≤ zShr x y ∧ zShr x y < 2147483648 := ⟨Int32.le_toInt _, Int32.toInt_lt _⟩
theorem zr_usr (x y : Int) : -2147483648 ≤ zUsr x y ∧ zUsr x y < 2147483648 := ⟨Int32.le_toInt _, Int32.toInt_lt _⟩
theorem zr_div (x y : Int) : -2147483648 ≤ zDiv x y ∧ zDiv x y < 2147483648 := ⟨Int32.le_toInt _, Int32.toInt_lt _⟩
theorem zj_l (n : Nat) (h : n < 2147483648) : (@OfNat.ofNat Int64 n _) = Int32.toInt64 (zI (@OfNat.ofNat Int n _)) := by
  apply Int64.toInt_inj.mp
  rw [Int32.toInt_toInt64, zI_toInt (by
    show -2147483648 ≤ (n : Int) ∧ (n : Int) < 2147483648
    omega)]
  show (Int64.ofNat n).toInt = (n : Int)
  rw [← Int64.ofInt_eq_ofNat, Int64.toInt_ofInt_of_le (by omega) (by omega)]
theorem zj_m1 : (-1 : Int64) = Int32.toInt64 (zI (-1)) := rfl
theorem zj_e {e : Int32} {x : Int} (he : e = zI x) : Int32.toInt64 e = Int32.toInt64 (zI x) := by rw [he]
theorem s7_in {x lo hi : Int} (h : Hp) (rx : -2147483648 ≤ x ∧ x < 2147483648) (rl : -2147483648 ≤ lo ∧ lo < 2147483648) (rh : -2147483648 ≤ hi ∧ hi < 2147483648) : f_X7_in (Int32.toInt64 (zI x)) (Int32.toInt64 (zI lo)) (Int32.toInt64 (zI hi)) h = some (zI (zB (lo ≤ x ∧ x ≤ hi)), h) := by
  unfold f_X7_in
  have e1 : (lg_cmp (Int32.toInt64 (zI x)) (Int32.toInt64 (zI lo)) < 0) ↔ x < lo := by
    rw [lg_cmp_lt, Int32.toInt64_lt, zI_lt rx rl]
  have e2 : (0 < lg_cmp (Int32.toInt64 (zI x)) (Int32.toInt64 (zI hi))) ↔ hi < x := by
    rw [lg_cmp_gt, Int32.toInt64_lt, zI_lt rh rx]
  by_cases h1 : x < lo
  · rw [if_pos (e1.mpr h1), zB_n (by omega)]; rfl
  · rw [if_neg (fun q => h1 (e1.mp q))]
    by_cases h2 : hi < x
    · rw [if_pos (e2.mpr h2), zB_n (by omega)]; rfl
    · rw [if_neg (fun q => h2 (e2.mp q)), zB_p (by omega)]; rfl
theorem zl_2 : zLen 2 = 40 := rfl
theorem zl_4 : zLen 4 = 6 := rfl
theorem zl_5 : zLen 5 = 6 := rfl
theorem zl_6 : zLen 6 = 36 := rfl
theorem zl_7 : zLen 7 = 9 := rfl
theorem zl_8 : zLen 8 = 9 := rfl
theorem zl_9 : zLen 9 = 9 := rfl
theorem zl_10 : zLen 10 = 9 := rfl
theorem zl_12 : zLen 12 = 6 := rfl
theorem zl_13 : zLen 13 = 6 := rfl
theorem zl_14 : zLen 14 = 36 := rfl
theorem zl_15 : zLen 15 = 9 := rfl
theorem zl_16 : zLen 16 = 9 := rfl
theorem zl_17 : zLen 17 = 9 := rfl
theorem zl_18 : zLen 18 = 9 := rfl
theorem zl_20 : zLen 20 = 6 := rfl
theorem zl_21 : zLen 21 = 6 := rfl
theorem zl_22 : zLen 22 = 36 := rfl
theorem zl_23 : zLen 23 = 9 := rfl
theorem zl_24 : zLen 24 = 9 := rfl
theorem zl_25 : zLen 25 = 9 := rfl
theorem zl_26 : zLen 26 = 9 := rfl
theorem zl_28 : zLen 28 = 6 := rfl
theorem zl_29 : zLen 29 = 9 := rfl
theorem zl_31 : zLen 31 = 6 := rfl
theorem zl_32 : zLen 32 = 9 := rfl
theorem zl_33 : zLen 33 = 9 := rfl
theorem zl_34 : zLen 34 = 9 := rfl
theorem zl_35 : zLen 35 = 9 := rfl
theorem zl_37 : zLen 37 = 6 := rfl
theorem zl_38 : zLen 38 = 9 := rfl
theorem zl_40 : zLen 40 = 6 := rfl
theorem zl_43 : zLen 43 = 40 := rfl
theorem zl_45 : zLen 45 = 40 := rfl
theorem zl_47 : zLen 47 = 40 := rfl
theorem zl_49 : zLen 49 = 40 := rfl
theorem zl_51 : zLen 51 = 87 := rfl
theorem zl_52 : zLen 52 = 87 := rfl
theorem zl_53 : zLen 53 = 9 := rfl
theorem zl_54 : zLen 54 = 6 := rfl
theorem zl_55 : zLen 55 = 9 := rfl
theorem zl_56 : zLen 56 = 40 := rfl
theorem zl_57 : zLen 57 = 25 := rfl
theorem zl_58 : zLen 58 = 486 := rfl
theorem zl_59 : zLen 59 = 4 := rfl
theorem zl_60 : zLen 60 = 4 := rfl
theorem zl_61 : zLen 61 = 160 := rfl
theorem zp_1_1 {m : zMe} (x : Int) : pI (zM m) 1 4 1 (zI x) = some (zM (zU m 1 1 x)) := rfl
theorem zp_1_2 {m : zMe} (x : Int) : pI (zM m) 1 4 2 (zI x) = some (zM (zU m 1 2 x)) := rfl
theorem zp_1_3 {m : zMe} (x : Int) : pI (zM m) 1 4 3 (zI x) = some (zM (zU m 1 3 x)) := rfl
theorem zp_1_4 {m : zMe} (x : Int) : pI (zM m) 1 4 4 (zI x) = some (zM (zU m 1 4 x)) := rfl
theorem zp_27_2 {m : zMe} (x : Int) : pI (zM m) 27 3 2 (zI x) = some (zM (zU m 27 2 x)) := rfl
theorem zp_27_3 {m : zMe} (x : Int) : pI (zM m) 27 3 3 (zI x) = some (zM (zU m 27 3 x)) := rfl
theorem zp_27_4 {m : zMe} (x : Int) : pI (zM m) 27 3 4 (zI x) = some (zM (zU m 27 4 x)) := rfl
theorem zp_30_5 {m : zMe} (x : Int) : pI (zM m) 30 1 5 (zI x) = some (zM (zU m 30 5 x)) := rfl
theorem zp_30_6 {m : zMe} (x : Int) : pI (zM m) 30 1 6 (zI x) = some (zM (zU m 30 6 x)) := rfl
theorem zp_30_7 {m : zMe} (x : Int) : pI (zM m) 30 1 7 (zI x) = some (zM (zU m 30 7 x)) := rfl
theorem zp_36_3 {m : zMe} (x : Int) : pI (zM m) 36 5 3 (zI x) = some (zM (zU m 36 3 x)) := rfl
theorem zp_36_4 {m : zMe} (x : Int) : pI (zM m) 36 5 4 (zI x) = some (zM (zU m 36 4 x)) := rfl
theorem zp_50_5 {m : zMe} (x : Int) : pI (zM m) 50 7 5 (zI x) = some (zM (zU m 50 5 x)) := rfl
theorem zp_50_6 {m : zMe} (x : Int) : pI (zM m) 50 7 6 (zI x) = some (zM (zU m 50 6 x)) := rfl
theorem zp_50_8 {m : zMe} (x : Int) : pI (zM m) 50 7 8 (zI x) = some (zM (zU m 50 8 x)) := rfl
theorem zp_50_11 {m : zMe} (x : Int) : pI (zM m) 50 7 11 (zI x) = some (zM (zU m 50 11 x)) := rfl
theorem zp_50_12 {m : zMe} (x : Int) : pI (zM m) 50 7 12 (zI x) = some (zM (zU m 50 12 x)) := rfl
theorem zp_50_13 {m : zMe} (x : Int) : pI (zM m) 50 7 13 (zI x) = some (zM (zU m 50 13 x)) := rfl
theorem zp_50_14 {m : zMe} (x : Int) : pI (zM m) 50 7 14 (zI x) = some (zM (zU m 50 14 x)) := rfl
theorem zp_50_17 {m : zMe} (x : Int) : pI (zM m) 50 7 17 (zI x) = some (zM (zU m 50 17 x)) := rfl
theorem zpz_0_9 {m : zMe} (x : Int) (h : x = 0 ∨ x = 1) : pZ (zM m) 0 6 9 (zI x) = some (zM (zU m 0 9 x)) := by rcases h with rfl | rfl <;> rfl
theorem zpz_30_8 {m : zMe} (x : Int) (h : x = 0 ∨ x = 1) : pZ (zM m) 30 1 8 (zI x) = some (zM (zU m 30 8 x)) := by rcases h with rfl | rfl <;> rfl
theorem zpz_50_2 {m : zMe} (x : Int) (h : x = 0 ∨ x = 1) : pZ (zM m) 50 7 2 (zI x) = some (zM (zU m 50 2 x)) := by rcases h with rfl | rfl <;> rfl
theorem zpz_50_9 {m : zMe} (x : Int) (h : x = 0 ∨ x = 1) : pZ (zM m) 50 7 9 (zI x) = some (zM (zU m 50 9 x)) := by rcases h with rfl | rfl <;> rfl
noncomputable def zE (p : Prop) : Int := @ite Int p (Classical.propDecidable p) 1 0
theorem zE_p {p : Prop} (h : p) : zE p = 1 := @if_pos p (Classical.propDecidable p) h Int 1 0
theorem zE_n {p : Prop} (h : ¬ p) : zE p = 0 := @if_neg p (Classical.propDecidable p) h Int 1 0
section ZX
variable {α β : Type} {m : zMe} {Q : α → zMe → Prop}
theorem z_in {A L H : Int64} {x lo hi : Int} {f : Int32 × Hp → Option (α × Hp)} (hA : A = Int32.toInt64 (zI x)) (hL : L = Int32.toInt64 (zI lo)) (hH : H = Int32.toInt64 (zI hi)) (rx : -2147483648 ≤ x ∧ x < 2147483648) (rl : -2147483648 ≤ lo ∧ lo < 2147483648) (rh : -2147483648 ≤ hi ∧ hi < 2147483648) (K : zOk (f (zI (zB (lo ≤ x ∧ x ≤ hi)), zM m)) Q) : zOk ((f_X7_in A L H (zM m)).bind f) Q := by
  subst hA; subst hL; subst hH
  exact z_b (s7_in _ rx rl rh) K
theorem z_bzl {n : Nat} {f : Unit → Option (α × Hp)} (h : n = 0 ∨ n = 1) (K : zOk (f ()) Q) : zOk ((bz (@OfNat.ofNat Int32 n _)).bind f) Q := by
  rcases h with rfl | rfl
  · exact K
  · exact K
theorem z_b_ck {r c : Nat} {u : Unit} {f : Unit → Option (α × Hp)} (h : ck (zM m) r c = some u) (K : zOk (f u) Q) : zOk ((ck (zM m) r c).bind f) Q := z_b h K
theorem z_b_R {r c k x : Nat} {f : Nat → Option (α × Hp)} (h : gR (zM m) r c k = some x) (K : zOk (f x) Q) : zOk ((gR (zM m) r c k).bind f) Q := z_b h K
theorem z_PU {r c k : Nat} {k' : Int} {e : Int32} {x : Int} {f : Hp → Option (α × Hp)} (he : e = zI x) (h : pI (zM m) r c k (zI x) = some (zM (zU m r k' x))) (K : zOk (f (zM (zU m r k' x))) Q) : zOk ((pI (zM m) r c k e).bind f) Q := by subst he; exact z_b h K
theorem z_PZ {r c k : Nat} {k' : Int} {e : Int32} {x : Int} {f : Hp → Option (α × Hp)} (he : e = zI x) (hb : x = 0 ∨ x = 1) (h : x = 0 ∨ x = 1 → pZ (zM m) r c k (zI x) = some (zM (zU m r k' x))) (K : zOk (f (zM (zU m r k' x))) Q) : zOk ((pZ (zM m) r c k e).bind f) Q := by subst he; exact z_b (h hb) K
theorem z_CP {r d n0 n1 : Nat} {e f' g : Int32} {sp dp n : Int} {f : Hp → Option (α × Hp)} (he : e = zI sp) (hf : f' = zI dp) (hg : g = zI n) (hr : zLen r = n0) (hd : zLen d = n1) (h : 0 ≤ sp ∧ 0 ≤ dp ∧ 0 ≤ n ∧ sp + n ≤ n0 ∧ dp + n ≤ n1) (hp : n0 ≠ 0 ∧ n1 ≠ 0) (K : zOk (f (zM (zC m r sp d dp n))) Q) : zOk ((aC (zM m) r e d f' g).bind f) Q := by subst he; subst hf; subst hg; exact z_b (za_C hr hd h hp) K
theorem z_over {m0 M : zMe} {a b : Nat} {P : α → zMe → Prop} {v : α} (h : ∀ (c : Nat) (j : Int), ¬ (a ≤ c ∧ c ≤ b) → M c j = m0 c j) (hP : P v M) : zOk (some (v, zM M)) (fun v m1 => ∃ w, m1 = zW m0 a b w ∧ P v w) := by
  refine ⟨v, M, rfl, M, ?_, hP⟩
  funext c j
  unfold zW
  split
  · rfl
  · rename_i q
    exact h c j q
theorem z_E {p : Prop} {A B : Option (α × Hp)} (h0 : ¬ p → zOk A Q) (h1 : p → zOk B Q) : zOk (if zI (zE p) = 0 then A else B) Q := by
  by_cases h : p
  · rw [zE_p h, if_neg (by decide)]; exact h1 h
  · rw [zE_n h, if_pos (by decide)]; exact h0 h
theorem z_bzE {p : Prop} {f : Unit → Option (α × Hp)} (K : zOk (f ()) Q) : zOk ((bz (zI (zE p))).bind f) Q := by
  refine z_b ?_ K
  by_cases h : p
  · rw [zE_p h]; rfl
  · rw [zE_n h]; rfl
theorem zE_r1 {p : Prop} {m0 : zMe} (h : p) : zOk (some ((1 : Int32), zM m0)) (fun v m' => v = zI (zE p) ∧ m' = m0) := ⟨1, m0, rfl, by rw [zE_p h]; rfl, rfl⟩
theorem zE_r0 {p : Prop} {m0 : zMe} (h : ¬ p) : zOk (some ((0 : Int32), zM m0)) (fun v m' => v = zI (zE p) ∧ m' = m0) := ⟨0, m0, rfl, by rw [zE_n h]; rfl, rfl⟩
theorem z_T0 {x : Int} {f : Int32 → Option (α × Hp)} (h : 0 ≤ x ∧ x ≤ 2) (K : zOk (f (zI (x + 1))) Q) : zOk ((sT 0 (zI x)).bind f) Q := z_b (za_T0 h) K
theorem z_T1 {x : Int} {f : Int32 → Option (α × Hp)} (h : 0 ≤ x ∧ x ≤ 2) (K : zOk (f (zI (if x = 0 then 0 else 1))) Q) : zOk ((sT 1 (zI x)).bind f) Q := z_b (za_T1 h) K
theorem z_T2 {x : Int} {f : Int32 → Option (α × Hp)} (h : 0 ≤ x ∧ x ≤ 2) (K : zOk (f (zI (if x = 0 then 1 else 2))) Q) : zOk ((sT 2 (zI x)).bind f) Q := z_b (za_T2 h) K
theorem z_T3 {x : Int} {f : Int32 → Option (α × Hp)} (h : 0 ≤ x ∧ x ≤ 2) (K : zOk (f (zI (if x = 0 then 1 else 0))) Q) : zOk ((sT 3 (zI x)).bind f) Q := z_b (za_T3 h) K
theorem z_Q {e : Int32} {x : Int} {f : Nat → Option (α × Hp)} (he : e = zI x) (h : 0 ≤ x ∧ x < 4) (K : zOk (f (zSh x)) Q) : zOk ((qL (zM m) 41 e).bind f) Q := by subst he; exact z_b (za_Q h) K
theorem zB_r1 {p : Prop} [Decidable p] {m0 : zMe} (h : p) : zOk (some ((1 : Int32), zM m0)) (fun v m' => v = zI (zB p) ∧ m' = m0) := ⟨1, m0, rfl, by rw [zB_p h]; rfl, rfl⟩
theorem zB_r0 {p : Prop} [Decidable p] {m0 : zMe} (h : ¬ p) : zOk (some ((0 : Int32), zM m0)) (fun v m' => v = zI (zB p) ∧ m' = m0) := ⟨0, m0, rfl, by rw [zB_n h]; rfl, rfl⟩
end ZX
set_option maxRecDepth 100000 in
set_option maxHeartbeats 1000000 in
theorem s_6isSheet {m : zMe} {e : Int32} {x : Int} (e1 : e = zI x) (r1 : -2147483648 ≤ x ∧ x < 2147483648) : f_X6_isSheet e (zM m) = some (zI (zB (0 ≤ x ∧ x < 4)), zM (m)) := by
  subst e1
  refine zOk.eq ?_
  unfold f_X6_isSheet
  repeat' (first | (first
    | (with_reducible apply z_nm; (case he => repeat (with_reducible first | exact zv_l _ | exact zv_r | apply zv_neg)))) | (first
    | (with_reducible apply z_B; all_goals (intro _; try (exfalso; omega)))
    | (with_reducible apply z_E; all_goals intro _)
    | (with_reducible apply z_lt; (case ha => repeat (with_reducible first | exact zv_l _ | exact zv_r | apply zv_neg)); (case hb => repeat (with_reducible first | exact zv_l _ | exact zv_r | apply zv_neg)); (case hx => omega); (case hy => omega); all_goals (intro _; try (exfalso; omega)))
    | (with_reducible apply z_le; (case ha => repeat (with_reducible first | exact zv_l _ | exact zv_r | apply zv_neg)); (case hb => repeat (with_reducible first | exact zv_l _ | exact zv_r | apply zv_neg)); (case hx => omega); (case hy => omega); all_goals (intro _; try (exfalso; omega)))
    | (with_reducible apply z_eq; (case ha => repeat (with_reducible first | exact zv_l _ | exact zv_r | apply zv_neg)); (case hb => repeat (with_reducible first | exact zv_l _ | exact zv_r | apply zv_neg)); (case hx => omega); (case hy => omega); all_goals (intro _; try (exfalso; omega)))))
  all_goals (first | exact zB_r1 (by omega) | exact zB_r0 (by omega))
theorem z_6isSheet {m : zMe} {e : Int32} {x : Int} (e1 : e = zI x) (r1 : -2147483648 ≤ x ∧ x < 2147483648) {α : Type} {kf : Int32 × Hp → Option (α × Hp)} {Q : α → zMe → Prop} (K : zOk (kf (zI (zB (0 ≤ x ∧ x < 4)), zM (m))) Q) : zOk ((f_X6_isSheet e (zM m)).bind kf) Q := z_b (s_6isSheet e1 r1) K
set_option maxRecDepth 100000 in
set_option maxHeartbeats 1000000 in
theorem s_6isSort {m : zMe} {e : Int32} {x : Int} (e1 : e = zI x) (r1 : -2147483648 ≤ x ∧ x < 2147483648) : f_X6_isSort e (zM m) = some (zI (zB (x = 0 ∨ x = 1)), zM (m)) := by
  subst e1
  refine zOk.eq ?_
  unfold f_X6_isSort
  repeat' (first | (first
    | (with_reducible apply z_nm; (case he => repeat (with_reducible first | exact zv_l _ | exact zv_r | apply zv_neg)))) | (first
    | (with_reducible apply z_B; all_goals (intro _; try (exfalso; omega)))
    | (with_reducible apply z_E; all_goals intro _)
    | (with_reducible apply z_lt; (case ha => repeat (with_reducible first | exact zv_l _ | exact zv_r | apply zv_neg)); (case hb => repeat (with_reducible first | exact zv_l _ | exact zv_r | apply zv_neg)); (case hx => omega); (case hy => omega); all_goals (intro _; try (exfalso; omega)))
    | (with_reducible apply z_le; (case ha => repeat (with_reducible first | exact zv_l _ | exact zv_r | apply zv_neg)); (case hb => repeat (with_reducible first | exact zv_l _ | exact zv_r | apply zv_neg)); (case hx => omega); (case hy => omega); all_goals (intro _; try (exfalso; omega)))
    | (with_reducible apply z_eq; (case ha => repeat (with_reducible first | exact zv_l _ | exact zv_r | apply zv_neg)); (case hb => repeat (with_reducible first | exact zv_l _ | exact zv_r | apply zv_neg)); (case hx => omega); (case hy => omega); all_goals (intro _; try (exfalso; omega)))))
  all_goals (first | exact zB_r1 (by omega) | exact zB_r0 (by omega))
theorem z_6isSort {m : zMe} {e : Int32} {x : Int} (e1 : e = zI x) (r1 : -2147483648 ≤ x ∧ x < 2147483648) {α : Type} {kf : Int32 × Hp → Option (α × Hp)} {Q : α → zMe → Prop} (K : zOk (kf (zI (zB (x = 0 ∨ x = 1)), zM (m))) Q) : zOk ((f_X6_isSort e (zM m)).bind kf) Q := z_b (s_6isSort e1 r1) K
set_option maxRecDepth 100000 in
set_option maxHeartbeats 1000000 in
theorem s_6isPart {m : zMe} {e : Int32} {x : Int} (e1 : e = zI x) (r1 : -2147483648 ≤ x ∧ x < 2147483648) : f_X6_isPart e (zM m) = some (zI (zB (x = 0 ∨ x = 1)), zM (m)) := by
  subst e1
  refine zOk.eq ?_
  unfold f_X6_isPart
  repeat' (first | (first
    | (with_reducible apply z_nm; (case he => repeat (with_reducible first | exact zv_l _ | exact zv_r | apply zv_neg)))) | (first
    | (with_reducible apply z_B; all_goals (intro _; try (exfalso; omega)))
    | (with_reducible apply z_E; all_goals intro _)
    | (with_reducible apply z_lt; (case ha => repeat (with_reducible first | exact zv_l _ | exact zv_r | apply zv_neg)); (case hb => repeat (with_reducible first | exact zv_l _ | exact zv_r | apply zv_neg)); (case hx => omega); (case hy => omega); all_goals (intro _; try (exfalso; omega)))
    | (with_reducible apply z_le; (case ha => repeat (with_reducible first | exact zv_l _ | exact zv_r | apply zv_neg)); (case hb => repeat (with_reducible first | exact zv_l _ | exact zv_r | apply zv_neg)); (case hx => omega); (case hy => omega); all_goals (intro _; try (exfalso; omega)))
    | (with_reducible apply z_eq; (case ha => repeat (with_reducible first | exact zv_l _ | exact zv_r | apply zv_neg)); (case hb => repeat (with_reducible first | exact zv_l _ | exact zv_r | apply zv_neg)); (case hx => omega); (case hy => omega); all_goals (intro _; try (exfalso; omega)))))
  all_goals (first | exact zB_r1 (by omega) | exact zB_r0 (by omega))
theorem z_6isPart {m : zMe} {e : Int32} {x : Int} (e1 : e = zI x) (r1 : -2147483648 ≤ x ∧ x < 2147483648) {α : Type} {kf : Int32 × Hp → Option (α × Hp)} {Q : α → zMe → Prop} (K : zOk (kf (zI (zB (x = 0 ∨ x = 1)), zM (m))) Q) : zOk ((f_X6_isPart e (zM m)).bind kf) Q := z_b (s_6isPart e1 r1) K
set_option maxRecDepth 100000 in
set_option maxHeartbeats 1000000 in
theorem s_6isSystem {m : zMe} {e : Int32} {x : Int} (e1 : e = zI x) (r1 : -2147483648 ≤ x ∧ x < 2147483648) : f_X6_isSystem e (zM m) = some (zI (zB (0 ≤ x ∧ x ≤ 2)), zM (m)) := by
  subst e1
  refine zOk.eq ?_
  unfold f_X6_isSystem
  repeat' (first | (first
    | (with_reducible apply z_nm; (case he => repeat (with_reducible first | exact zv_l _ | exact zv_r | apply zv_neg)))) | (first
    | (with_reducible apply z_B; all_goals (intro _; try (exfalso; omega)))
    | (with_reducible apply z_E; all_goals intro _)
    | (with_reducible apply z_lt; (case ha => repeat (with_reducible first | exact zv_l _ | exact zv_r | apply zv_neg)); (case hb => repeat (with_reducible first | exact zv_l _ | exact zv_r | apply zv_neg)); (case hx => omega); (case hy => omega); all_goals (intro _; try (exfalso; omega)))
    | (with_reducible apply z_le; (case ha => repeat (with_reducible first | exact zv_l _ | exact zv_r | apply zv_neg)); (case hb => repeat (with_reducible first | exact zv_l _ | exact zv_r | apply zv_neg)); (case hx => omega); (case hy => omega); all_goals (intro _; try (exfalso; omega)))
    | (with_reducible apply z_eq; (case ha => repeat (with_reducible first | exact zv_l _ | exact zv_r | apply zv_neg)); (case hb => repeat (with_reducible first | exact zv_l _ | exact zv_r | apply zv_neg)); (case hx => omega); (case hy => omega); all_goals (intro _; try (exfalso; omega)))))
  all_goals (first | exact zB_r1 (by omega) | exact zB_r0 (by omega))
theorem z_6isSystem {m : zMe} {e : Int32} {x : Int} (e1 : e = zI x) (r1 : -2147483648 ≤ x ∧ x < 2147483648) {α : Type} {kf : Int32 × Hp → Option (α × Hp)} {Q : α → zMe → Prop} (K : zOk (kf (zI (zB (0 ≤ x ∧ x ≤ 2)), zM (m))) Q) : zOk ((f_X6_isSystem e (zM m)).bind kf) Q := z_b (s_6isSystem e1 r1) K
set_option maxRecDepth 100000 in
set_option maxHeartbeats 1000000 in
theorem s_6isByte {m : zMe} {e : Int32} {x : Int} (e1 : e = zI x) (r1 : -2147483648 ≤ x ∧ x < 2147483648) : f_X6_isByte e (zM m) = some (zI (zB (0 ≤ x ∧ x ≤ 255)), zM (m)) := by
  subst e1
  refine zOk.eq ?_
  unfold f_X6_isByte
  repeat' (first | (first
    | (with_reducible apply z_nm; (case he => repeat (with_reducible first | exact zv_l _ | exact zv_r | apply zv_neg)))) | (first
    | (with_reducible apply z_B; all_goals (intro _; try (exfalso; omega)))
    | (with_reducible apply z_E; all_goals intro _)
    | (with_reducible apply z_lt; (case ha => repeat (with_reducible first | exact zv_l _ | exact zv_r | apply zv_neg)); (case hb => repeat (with_reducible first | exact zv_l _ | exact zv_r | apply zv_neg)); (case hx => omega); (case hy => omega); all_goals (intro _; try (exfalso; omega)))
    | (with_reducible apply z_le; (case ha => repeat (with_reducible first | exact zv_l _ | exact zv_r | apply zv_neg)); (case hb => repeat (with_reducible first | exact zv_l _ | exact zv_r | apply zv_neg)); (case hx => omega); (case hy => omega); all_goals (intro _; try (exfalso; omega)))
    | (with_reducible apply z_eq; (case ha => repeat (with_reducible first | exact zv_l _ | exact zv_r | apply zv_neg)); (case hb => repeat (with_reducible first | exact zv_l _ | exact zv_r | apply zv_neg)); (case hx => omega); (case hy => omega); all_goals (intro _; try (exfalso; omega)))))
  all_goals (first | exact zB_r1 (by omega) | exact zB_r0 (by omega))
theorem z_6isByte {m : zMe} {e : Int32} {x : Int} (e1 : e = zI x) (r1 : -2147483648 ≤ x ∧ x < 2147483648) {α : Type} {kf : Int32 × Hp → Option (α × Hp)} {Q : α → zMe → Prop} (K : zOk (kf (zI (zB (0 ≤ x ∧ x ≤ 255)), zM (m))) Q) : zOk ((f_X6_isByte e (zM m)).bind kf) Q := z_b (s_6isByte e1 r1) K
set_option maxRecDepth 100000 in
set_option maxHeartbeats 1000000 in
theorem s_7isByte {m : zMe} {e : Int32} {x : Int} (e1 : e = zI x) (r1 : -2147483648 ≤ x ∧ x < 2147483648) : f_X7_isByte e (zM m) = some (zI (zB (0 ≤ x ∧ x ≤ 255)), zM (m)) := by
  subst e1
  refine zOk.eq ?_
  unfold f_X7_isByte
  repeat' (first | (first
    | (with_reducible apply z_in; (case hA => first | with_reducible exact zj_l _ (by decide) | with_reducible exact zj_m1 | (with_reducible apply zj_e; repeat (with_reducible first | exact zv_l _ | exact zv_r | apply zv_neg))); (case hL => first | with_reducible exact zj_l _ (by decide) | with_reducible exact zj_m1 | (with_reducible apply zj_e; repeat (with_reducible first | exact zv_l _ | exact zv_r | apply zv_neg))); (case hH => first | with_reducible exact zj_l _ (by decide) | with_reducible exact zj_m1 | (with_reducible apply zj_e; repeat (with_reducible first | exact zv_l _ | exact zv_r | apply zv_neg))); (case rx => omega); (case rl => omega); (case rh => omega))
    | with_reducible refine z_bz ?_
    | with_reducible refine z_bzE ?_
    | (with_reducible apply z_bzl; (case h => omega))) | (first
    | (with_reducible apply z_B; all_goals (intro _; try (exfalso; omega)))
    | (with_reducible apply z_E; all_goals intro _)
    | (with_reducible apply z_lt; (case ha => repeat (with_reducible first | exact zv_l _ | exact zv_r | apply zv_neg)); (case hb => repeat (with_reducible first | exact zv_l _ | exact zv_r | apply zv_neg)); (case hx => omega); (case hy => omega); all_goals (intro _; try (exfalso; omega)))
    | (with_reducible apply z_le; (case ha => repeat (with_reducible first | exact zv_l _ | exact zv_r | apply zv_neg)); (case hb => repeat (with_reducible first | exact zv_l _ | exact zv_r | apply zv_neg)); (case hx => omega); (case hy => omega); all_goals (intro _; try (exfalso; omega)))
    | (with_reducible apply z_eq; (case ha => repeat (with_reducible first | exact zv_l _ | exact zv_r | apply zv_neg)); (case hb => repeat (with_reducible first | exact zv_l _ | exact zv_r | apply zv_neg)); (case hx => omega); (case hy => omega); all_goals (intro _; try (exfalso; omega)))))
  exact ⟨_, _, rfl, rfl, rfl⟩
theorem z_7isByte {m : zMe} {e : Int32} {x : Int} (e1 : e = zI x) (r1 : -2147483648 ≤ x ∧ x < 2147483648) {α : Type} {kf : Int32 × Hp → Option (α × Hp)} {Q : α → zMe → Prop} (K : zOk (kf (zI (zB (0 ≤ x ∧ x ≤ 255)), zM (m))) Q) : zOk ((f_X7_isByte e (zM m)).bind kf) Q := z_b (s_7isByte e1 r1) K
set_option maxRecDepth 100000 in
set_option maxHeartbeats 1000000 in
theorem s_7isSheet {m : zMe} {e : Int32} {x : Int} (e1 : e = zI x) (r1 : -2147483648 ≤ x ∧ x < 2147483648) : f_X7_isSheet e (zM m) = some (zI (zB (0 ≤ x ∧ x ≤ 3)), zM (m)) := by
  subst e1
  refine zOk.eq ?_
  unfold f_X7_isSheet
  repeat' (first | (first
    | (with_reducible apply z_in; (case hA => first | with_reducible exact zj_l _ (by decide) | with_reducible exact zj_m1 | (with_reducible apply zj_e; repeat (with_reducible first | exact zv_l _ | exact zv_r | apply zv_neg))); (case hL => first | with_reducible exact zj_l _ (by decide) | with_reducible exact zj_m1 | (with_reducible apply zj_e; repeat (with_reducible first | exact zv_l _ | exact zv_r | apply zv_neg))); (case hH => first | with_reducible exact zj_l _ (by decide) | with_reducible exact zj_m1 | (with_reducible apply zj_e; repeat (with_reducible first | exact zv_l _ | exact zv_r | apply zv_neg))); (case rx => omega); (case rl => omega); (case rh => omega))
    | with_reducible refine z_bz ?_
    | with_reducible refine z_bzE ?_
    | (with_reducible apply z_bzl; (case h => omega))) | (first
    | (with_reducible apply z_B; all_goals (intro _; try (exfalso; omega)))
    | (with_reducible apply z_E; all_goals intro _)
    | (with_reducible apply z_lt; (case ha => repeat (with_reducible first | exact zv_l _ | exact zv_r | apply zv_neg)); (case hb => repeat (with_reducible first | exact zv_l _ | exact zv_r | apply zv_neg)); (case hx => omega); (case hy => omega); all_goals (intro _; try (exfalso; omega)))
    | (with_reducible apply z_le; (case ha => repeat (with_reducible first | exact zv_l _ | exact zv_r | apply zv_neg)); (case hb => repeat (with_reducible first | exact zv_l _ | exact zv_r | apply zv_neg)); (case hx => omega); (case hy => omega); all_goals (intro _; try (exfalso; omega)))
    | (with_reducible apply z_eq; (case ha => repeat (with_reducible first | exact zv_l _ | exact zv_r | apply zv_neg)); (case hb => repeat (with_reducible first | exact zv_l _ | exact zv_r | apply zv_neg)); (case hx => omega); (case hy => omega); all_goals (intro _; try (exfalso; omega)))))
  exact ⟨_, _, rfl, rfl, rfl⟩
theorem z_7isSheet {m : zMe} {e : Int32} {x : Int} (e1 : e = zI x) (r1 : -2147483648 ≤ x ∧ x < 2147483648) {α : Type} {kf : Int32 × Hp → Option (α × Hp)} {Q : α → zMe → Prop} (K : zOk (kf (zI (zB (0 ≤ x ∧ x ≤ 3)), zM (m))) Q) : zOk ((f_X7_isSheet e (zM m)).bind kf) Q := z_b (s_7isSheet e1 r1) K
theorem s2_become_l {m : zMe} {r : Nat} (hr : zS r) : zOk (lp f_X2_become_12 600 (r, zI 0) (zM m)) (fun v m' => v = () ∧ m' = zF m (r + 1) 0 40 (fun _ => 0)) := by
  refine z_lp (fun n v m1 => ∃ i : Int, v = (r, zI i) ∧ 0 ≤ i ∧ i ≤ 40 ∧ n = (40 - i).toNat ∧ m1 = zF m (r + 1) 0 i (fun _ => 0)) (fun _ _ v m' => v = () ∧ m' = zF m (r + 1) 0 40 (fun _ => 0)) ?_ 600 40 (r, zI 0) m (by omega) ⟨0, rfl, by omega, by omega, by omega, (zF_0 _ _ _ _).symm⟩
  rintro n v m1 k ⟨i, rfl, h0, h1, rfl, rfl⟩ hk
  unfold f_X2_become_12
  dsimp only
  repeat' (first | (first
    | (with_reducible apply z_nm; (case he => repeat (with_reducible first | exact zv_l _ | exact zv_r | apply zv_add | apply zv_sub)))
    | (with_reducible apply z_b_R; (case h => first | exact zs_R0 (by assumption) | with_unfolding_all rfl))
    | (with_reducible apply z_S; (case he => repeat (with_reducible first | exact zv_l _ | exact zv_r | apply zv_add | apply zv_sub)); (case hg => repeat (with_reducible first | exact zv_l _ | exact zv_r | apply zv_add | apply zv_sub)); (case hn => with_reducible first | assumption | exact zs_L (by assumption) | exact zl_40); (case h => omega))) | (first
    | (with_reducible apply z_B; all_goals (intro _; try (exfalso; omega)))
    | (with_reducible apply z_E; all_goals intro _)
    | (with_reducible apply z_lt; (case ha => repeat (with_reducible first | exact zv_l _ | exact zv_r | apply zv_add | apply zv_sub)); (case hb => repeat (with_reducible first | exact zv_l _ | exact zv_r | apply zv_add | apply zv_sub)); (case hx => omega); (case hy => omega); all_goals (intro _; try (exfalso; omega)))
    | (with_reducible apply z_le; (case ha => repeat (with_reducible first | exact zv_l _ | exact zv_r | apply zv_add | apply zv_sub)); (case hb => repeat (with_reducible first | exact zv_l _ | exact zv_r | apply zv_add | apply zv_sub)); (case hx => omega); (case hy => omega); all_goals (intro _; try (exfalso; omega)))
    | (with_reducible apply z_eq; (case ha => repeat (with_reducible first | exact zv_l _ | exact zv_r | apply zv_add | apply zv_sub)); (case hb => repeat (with_reducible first | exact zv_l _ | exact zv_r | apply zv_add | apply zv_sub)); (case hx => omega); (case hy => omega); all_goals (intro _; try (exfalso; omega)))))
  · (first | (with_reducible apply z_reti; (case he => repeat (with_reducible first | exact zv_l _ | exact zv_r | apply zv_add | apply zv_sub))) | with_reducible refine z_ret ?_)
    have : i = 40 := by omega
    rw [this]
    exact ⟨rfl, rfl⟩
  · exact hk _ _ _ (by omega) ⟨i + 1, rfl, by omega, by omega, rfl, zF_s h0 (by omega) rfl⟩
set_option maxRecDepth 100000 in
set_option maxHeartbeats 1000000 in
theorem s_2become {m : zMe} {r : Nat} {e g : Int32} {x y : Int} (a1 : zS r) (e1 : e = zI x) (e2 : g = zI y) : f_X2_become r e g (zM m) = some ((), zM (zF (zU (zU m r 1 x) r 2 y) (r + 1) 0 40 (fun _ => 0))) := by
  subst e1; subst e2
  refine zOk.eq ?_
  unfold f_X2_become
  repeat' (first
    | with_reducible refine z_b (zs_ck (by assumption)) ?_
    | (with_reducible apply z_b_ck; (case h => with_unfolding_all rfl))
    | (with_reducible apply z_PU; (case he => repeat (with_reducible first | exact zv_l _ | exact zv_r | apply zv_add)); (case h => with_reducible first | exact zs_P1 (by assumption) _ | exact zs_P2 (by assumption) _)))
  exact s2_become_l a1
theorem z_2become {m : zMe} {r : Nat} {e g : Int32} {x y : Int} (a1 : zS r) (e1 : e = zI x) (e2 : g = zI y) {α : Type} {kf : Unit × Hp → Option (α × Hp)} {Q : α → zMe → Prop} (K : zOk (kf ((), zM (zF (zU (zU m r 1 x) r 2 y) (r + 1) 0 40 (fun _ => 0)))) Q) : zOk ((f_X2_become r e g (zM m)).bind kf) Q := z_b (s_2become a1 e1 e2) K
set_option maxRecDepth 100000 in
set_option maxHeartbeats 1000000 in
theorem s_2isMissing {m : zMe} {r : Nat} (a1 : zS r) (r1 : -1 ≤ m r 1 ∧ m r 1 ≤ 1) : f_X2_isMissing r (zM m) = some (zI (zB (m r 1 = -1)), zM (m)) := by
  refine zOk.eq ?_
  unfold f_X2_isMissing
  repeat' (first | (first
    | (with_reducible apply z_nm; (case he => repeat (with_reducible first | exact zv_l _ | exact zv_r | apply zv_neg)))
    | with_reducible refine z_b (zs_ck (by assumption)) ?_
    | (with_reducible apply z_b_ck; (case h => with_unfolding_all rfl))
    | (with_reducible apply z_I; (case h => first | exact zs_I1 (by assumption) | with_unfolding_all rfl); (case hy => first | ((simp (disch := omega) only [zU_c, zU_e, zU_k, zF_c, zF_i, zF_o, zW_o, zW_i, zC_c, zC_i, zC_o]); rfl) | rfl))) | (first
    | (with_reducible apply z_B; all_goals (intro _; try (exfalso; omega)))
    | (with_reducible apply z_E; all_goals intro _)
    | (with_reducible apply z_lt; (case ha => repeat (with_reducible first | exact zv_l _ | exact zv_r | apply zv_neg)); (case hb => repeat (with_reducible first | exact zv_l _ | exact zv_r | apply zv_neg)); (case hx => omega); (case hy => omega); all_goals (intro _; try (exfalso; omega)))
    | (with_reducible apply z_le; (case ha => repeat (with_reducible first | exact zv_l _ | exact zv_r | apply zv_neg)); (case hb => repeat (with_reducible first | exact zv_l _ | exact zv_r | apply zv_neg)); (case hx => omega); (case hy => omega); all_goals (intro _; try (exfalso; omega)))
    | (with_reducible apply z_eq; (case ha => repeat (with_reducible first | exact zv_l _ | exact zv_r | apply zv_neg)); (case hb => repeat (with_reducible first | exact zv_l _ | exact zv_r | apply zv_neg)); (case hx => omega); (case hy => omega); all_goals (intro _; try (exfalso; omega)))))
  all_goals (first | exact zB_r1 (by omega) | exact zB_r0 (by omega))
theorem z_2isMissing {m : zMe} {r : Nat} (a1 : zS r) (r1 : -1 ≤ m r 1 ∧ m r 1 ≤ 1) {α : Type} {kf : Int32 × Hp → Option (α × Hp)} {Q : α → zMe → Prop} (K : zOk (kf (zI (zB (m r 1 = -1)), zM (m))) Q) : zOk ((f_X2_isMissing r (zM m)).bind kf) Q := z_b (s_2isMissing a1 r1) K
