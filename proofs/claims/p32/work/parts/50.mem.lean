/-! the memory behind the abstract heap: cells' numbers as integers; rules for walking the mirrored functions -/
def zI (z : Int) : Int32 := Int32.ofInt z
def zJ (z : Int) : Int64 := Int64.ofInt z
abbrev zMe : Type := Nat → Int → Int
def zU (m : zMe) (r : Nat) (k x : Int) : zMe := fun c j => if c = r then (if j = k then x else m c j) else m c j
def zC (m : zMe) (r : Nat) (sp : Int) (d : Nat) (dp n : Int) : zMe := fun c j => if c = d then (if dp ≤ j ∧ j < dp + n then m r (sp + (j - dp)) else m c j) else m c j
def zA (m : zMe) (c : Nat) : Nat → Int32 := fun j => zI (m c (j : Int))
def zG (r : Nat) : Prop := r = 3 ∨ r = 11 ∨ r = 19
def zS (r : Nat) : Prop := r = 42 ∨ r = 44 ∨ r = 46 ∨ r = 48
def zB (p : Prop) [Decidable p] : Int := if p then 1 else 0
theorem zB_p {p : Prop} [Decidable p] (h : p) : zB p = 1 := if_pos h
theorem zB_n {p : Prop} [Decidable p] (h : ¬ p) : zB p = 0 := if_neg h
theorem zI_inj {x y : Int} (hx : -2147483648 ≤ x ∧ x < 2147483648) (hy : -2147483648 ≤ y ∧ y < 2147483648) : zI x = zI y ↔ x = y := by
  constructor
  · intro h
    have h1 := congrArg Int32.toInt h
    unfold zI at h1
    rw [Int32.toInt_ofInt_of_le hx.1 hx.2, Int32.toInt_ofInt_of_le hy.1 hy.2] at h1
    exact h1
  · rintro rfl
    rfl
theorem zI_toInt {x : Int} (hx : -2147483648 ≤ x ∧ x < 2147483648) : (zI x).toInt = x := Int32.toInt_ofInt_of_le hx.1 hx.2
theorem zI_lt {x y : Int} (hx : -2147483648 ≤ x ∧ x < 2147483648) (hy : -2147483648 ≤ y ∧ y < 2147483648) : zI x < zI y ↔ x < y := by
  rw [Int32.lt_iff_toInt_lt, zI_toInt hx, zI_toInt hy]
theorem zI_le {x y : Int} (hx : -2147483648 ≤ x ∧ x < 2147483648) (hy : -2147483648 ≤ y ∧ y < 2147483648) : zI x ≤ zI y ↔ x ≤ y := by
  rw [Int32.le_iff_toInt_le, zI_toInt hx, zI_toInt hy]
theorem zI_of (x : Int32) : ∃ z : Int, x = zI z ∧ (-2147483648 ≤ z ∧ z < 2147483648) := ⟨x.toInt, (Int32.ofInt_toInt x).symm, x.le_toInt, x.toInt_lt⟩
theorem zI_nn {x : Int} (h0 : 0 ≤ x) (h1 : x < 2147483648) : ¬ zI x < 0 := by
  rw [show (0 : Int32) = zI 0 from rfl, zI_lt ⟨by omega, h1⟩ ⟨by omega, by omega⟩]
  omega
theorem zI_nat {x : Int} (h0 : 0 ≤ x) (h1 : x < 2147483648) : (zI x).toNatClampNeg = x.toNat := by
  show (zI x).toInt.toNat = x.toNat
  rw [zI_toInt ⟨by omega, h1⟩]
theorem zv_r {x : Int} : zI x = zI x := rfl
theorem zv_l (n : Nat) : (@OfNat.ofNat Int32 n _) = zI (@OfNat.ofNat Int n _) := (Int32.ofInt_eq_ofNat (n := n)).symm
theorem zv_add {a b : Int32} {x y : Int} (ha : a = zI x) (hb : b = zI y) : a + b = zI (x + y) := by rw [ha, hb]; exact (Int32.ofInt_add x y).symm
theorem zv_sub {a b : Int32} {x y : Int} (ha : a = zI x) (hb : b = zI y) : a - b = zI (x - y) := by rw [ha, hb]; exact (Int32.ofInt_sub x y).symm
theorem zv_mul {a b : Int32} {x y : Int} (ha : a = zI x) (hb : b = zI y) : a * b = zI (x * y) := by rw [ha, hb]; exact (Int32.ofInt_mul x y).symm
theorem zv_neg {a : Int32} {x : Int} (ha : a = zI x) : -a = zI (-x) := by rw [ha]; exact (Int32.ofInt_neg x).symm
theorem zA_upd {m : zMe} {c : Nat} {x y : Int} (h0 : 0 ≤ x) : upd (zA m c) x.toNat (zI y) = zA (zU m c x y) c := by
  funext j
  unfold upd zA zU
  by_cases h : j = x.toNat
  · rw [if_pos h, if_pos rfl, if_pos (by omega)]
  · rw [if_neg h, if_pos rfl, if_neg (by omega)]
theorem zA_at {m : zMe} {c : Nat} {x : Int} (h0 : 0 ≤ x) : zA m c x.toNat = zI (m c x) := by
  unfold zA
  rw [Int.toNat_of_nonneg h0]
def zM (m : zMe) : Hp := [.inr (6, [.ref 1, .ref 3, .ref 11, .ref 19, .ref 27, .ref 30, .ref 36, .ref 41, .ref 40, .int (zI (m 0 9))]), .inr (4, [.ref 2, .int (zI (m 1 1)), .int (zI (m 1 2)), .int (zI (m 1 3)), .int (zI (m 1 4))]), .inl (0, (40, .inl (zA m 2))), .inr (0, [.int (zI (m 3 0)), .int (zI (m 3 1)), .int (zI (m 3 2)), .ref 4, .ref 5, .ref 6, .ref 7, .ref 8, .ref 9, .ref 10]), .inl (0, (6, .inl (zA m 4))), .inl (0, (6, .inl (zA m 5))), .inl (0, (36, .inl (zA m 6))), .inl (0, (9, .inl (zA m 7))), .inl (0, (9, .inl (zA m 8))), .inl (0, (9, .inl (zA m 9))), .inl (0, (9, .inl (zA m 10))), .inr (0, [.int (zI (m 11 0)), .int (zI (m 11 1)), .int (zI (m 11 2)), .ref 12, .ref 13, .ref 14, .ref 15, .ref 16, .ref 17, .ref 18]), .inl (0, (6, .inl (zA m 12))), .inl (0, (6, .inl (zA m 13))), .inl (0, (36, .inl (zA m 14))), .inl (0, (9, .inl (zA m 15))), .inl (0, (9, .inl (zA m 16))), .inl (0, (9, .inl (zA m 17))), .inl (0, (9, .inl (zA m 18))), .inr (0, [.int (zI (m 19 0)), .int (zI (m 19 1)), .int (zI (m 19 2)), .ref 20, .ref 21, .ref 22, .ref 23, .ref 24, .ref 25, .ref 26]), .inl (0, (6, .inl (zA m 20))), .inl (0, (6, .inl (zA m 21))), .inl (0, (36, .inl (zA m 22))), .inl (0, (9, .inl (zA m 23))), .inl (0, (9, .inl (zA m 24))), .inl (0, (9, .inl (zA m 25))), .inl (0, (9, .inl (zA m 26))), .inr (3, [.ref 28, .ref 29, .int (zI (m 27 2)), .int (zI (m 27 3)), .int (zI (m 27 4))]), .inl (0, (6, .inl (zA m 28))), .inl (0, (9, .inl (zA m 29))), .inr (1, [.ref 31, .ref 32, .ref 33, .ref 34, .ref 35, .int (zI (m 30 5)), .int (zI (m 30 6)), .int (zI (m 30 7)), .int (zI (m 30 8))]), .inl (0, (6, .inl (zA m 31))), .inl (0, (9, .inl (zA m 32))), .inl (0, (9, .inl (zA m 33))), .inl (0, (9, .inl (zA m 34))), .inl (0, (9, .inl (zA m 35))), .inr (5, [.ref 37, .ref 38, .ref 39, .int (zI (m 36 3)), .int (zI (m 36 4))]), .inl (0, (6, .inl (zA m 37))), .inl (0, (9, .inl (zA m 38))), .inl (1, (81, .inr (.inl (fun j : Nat => zJ (m 39 j))))), .inl (0, (6, .inl (zA m 40))), .inl (2, (4, .inr (.inr (.inr (.inr (va_up (va_up (va_up (va_up (fun _ => none) 0 (some 42)) 1 (some 44)) 2 (some 46)) 3 (some 48))))))), .inr (2, [.ref 43, .int (zI (m 42 1)), .int (zI (m 42 2))]), .inl (0, (40, .inl (zA m 43))), .inr (2, [.ref 45, .int (zI (m 44 1)), .int (zI (m 44 2))]), .inl (0, (40, .inl (zA m 45))), .inr (2, [.ref 47, .int (zI (m 46 1)), .int (zI (m 46 2))]), .inl (0, (40, .inl (zA m 47))), .inr (2, [.ref 49, .int (zI (m 48 1)), .int (zI (m 48 2))]), .inl (0, (40, .inl (zA m 49))), .inr (7, [.ref 51, .ref 52, .int (zI (m 50 2)), .ref 53, .ref 54, .int (zI (m 50 5)), .int (zI (m 50 6)), .ref 55, .int (zI (m 50 8)), .int (zI (m 50 9)), .ref 56, .int (zI (m 50 11)), .int (zI (m 50 12)), .int (zI (m 50 13)), .int (zI (m 50 14)), .ref 57, .ref 58, .int (zI (m 50 17)), .ref 59, .ref 60, .ref 61]), .inl (0, (87, .inl (zA m 51))), .inl (0, (87, .inl (zA m 52))), .inl (0, (9, .inl (zA m 53))), .inl (0, (6, .inl (zA m 54))), .inl (0, (9, .inl (zA m 55))), .inl (0, (40, .inl (zA m 56))), .inl (0, (25, .inl (zA m 57))), .inl (0, (486, .inl (zA m 58))), .inl (0, (4, .inl (zA m 59))), .inl (0, (4, .inl (zA m 60))), .inl (0, (160, .inl (zA m 61)))]
def zLen (c : Nat) : Nat := match c with
  | 2 => 40
  | 4 => 6
  | 5 => 6
  | 6 => 36
  | 7 => 9
  | 8 => 9
  | 9 => 9
  | 10 => 9
  | 12 => 6
  | 13 => 6
  | 14 => 36
  | 15 => 9
  | 16 => 9
  | 17 => 9
  | 18 => 9
  | 20 => 6
  | 21 => 6
  | 22 => 36
  | 23 => 9
  | 24 => 9
  | 25 => 9
  | 26 => 9
  | 28 => 6
  | 29 => 9
  | 31 => 6
  | 32 => 9
  | 33 => 9
  | 34 => 9
  | 35 => 9
  | 37 => 6
  | 38 => 9
  | 40 => 6
  | 43 => 40
  | 45 => 40
  | 47 => 40
  | 49 => 40
  | 51 => 87
  | 52 => 87
  | 53 => 9
  | 54 => 6
  | 55 => 9
  | 56 => 40
  | 57 => 25
  | 58 => 486
  | 59 => 4
  | 60 => 4
  | 61 => 160
  | _ => 0
set_option maxRecDepth 100000 in
set_option maxHeartbeats 4000000 in
theorem zcell {m : zMe} {c : Nat} (h : zLen c ≠ 0) : (zM m)[c]? = some (.inl (0, (zLen c, .inl (zA m c)))) := by
  match c, h with
  | 0, h => exact absurd rfl h
  | 1, h => exact absurd rfl h
  | 2, _ => rfl
  | 3, h => exact absurd rfl h
  | 4, _ => rfl
  | 5, _ => rfl
  | 6, _ => rfl
  | 7, _ => rfl
  | 8, _ => rfl
  | 9, _ => rfl
  | 10, _ => rfl
  | 11, h => exact absurd rfl h
  | 12, _ => rfl
  | 13, _ => rfl
  | 14, _ => rfl
  | 15, _ => rfl
  | 16, _ => rfl
  | 17, _ => rfl
  | 18, _ => rfl
  | 19, h => exact absurd rfl h
  | 20, _ => rfl
  | 21, _ => rfl
  | 22, _ => rfl
  | 23, _ => rfl
  | 24, _ => rfl
  | 25, _ => rfl
  | 26, _ => rfl
  | 27, h => exact absurd rfl h
  | 28, _ => rfl
  | 29, _ => rfl
  | 30, h => exact absurd rfl h
  | 31, _ => rfl
  | 32, _ => rfl
  | 33, _ => rfl
  | 34, _ => rfl
  | 35, _ => rfl
  | 36, h => exact absurd rfl h
  | 37, _ => rfl
  | 38, _ => rfl
  | 39, h => exact absurd rfl h
  | 40, _ => rfl
  | 41, h => exact absurd rfl h
  | 42, h => exact absurd rfl h
  | 43, _ => rfl
  | 44, h => exact absurd rfl h
  | 45, _ => rfl
  | 46, h => exact absurd rfl h
  | 47, _ => rfl
  | 48, h => exact absurd rfl h
  | 49, _ => rfl
  | 50, h => exact absurd rfl h
  | 51, _ => rfl
  | 52, _ => rfl
  | 53, _ => rfl
  | 54, _ => rfl
  | 55, _ => rfl
  | 56, _ => rfl
  | 57, _ => rfl
  | 58, _ => rfl
  | 59, _ => rfl
  | 60, _ => rfl
  | 61, _ => rfl
  | c + 62, h => exact absurd rfl h
set_option maxRecDepth 100000 in
set_option maxHeartbeats 4000000 in
theorem zset {m : zMe} {c : Nat} (h : zLen c ≠ 0) (k x : Int) : (zM m).set c (.inl (0, (zLen c, .inl (zA (zU m c k x) c)))) = zM (zU m c k x) := by
  match c, h with
  | 0, h => exact absurd rfl h
  | 1, h => exact absurd rfl h
  | 2, _ => rfl
  | 3, h => exact absurd rfl h
  | 4, _ => rfl
  | 5, _ => rfl
  | 6, _ => rfl
  | 7, _ => rfl
  | 8, _ => rfl
  | 9, _ => rfl
  | 10, _ => rfl
  | 11, h => exact absurd rfl h
  | 12, _ => rfl
  | 13, _ => rfl
  | 14, _ => rfl
  | 15, _ => rfl
  | 16, _ => rfl
  | 17, _ => rfl
  | 18, _ => rfl
  | 19, h => exact absurd rfl h
  | 20, _ => rfl
  | 21, _ => rfl
  | 22, _ => rfl
  | 23, _ => rfl
  | 24, _ => rfl
  | 25, _ => rfl
  | 26, _ => rfl
  | 27, h => exact absurd rfl h
  | 28, _ => rfl
  | 29, _ => rfl
  | 30, h => exact absurd rfl h
  | 31, _ => rfl
  | 32, _ => rfl
  | 33, _ => rfl
  | 34, _ => rfl
  | 35, _ => rfl
  | 36, h => exact absurd rfl h
  | 37, _ => rfl
  | 38, _ => rfl
  | 39, h => exact absurd rfl h
  | 40, _ => rfl
  | 41, h => exact absurd rfl h
  | 42, h => exact absurd rfl h
  | 43, _ => rfl
  | 44, h => exact absurd rfl h
  | 45, _ => rfl
  | 46, h => exact absurd rfl h
  | 47, _ => rfl
  | 48, h => exact absurd rfl h
  | 49, _ => rfl
  | 50, h => exact absurd rfl h
  | 51, _ => rfl
  | 52, _ => rfl
  | 53, _ => rfl
  | 54, _ => rfl
  | 55, _ => rfl
  | 56, _ => rfl
  | 57, _ => rfl
  | 58, _ => rfl
  | 59, _ => rfl
  | 60, _ => rfl
  | 61, _ => rfl
  | c + 62, h => exact absurd rfl h
set_option maxRecDepth 100000 in
set_option maxHeartbeats 4000000 in
theorem zsetC {m : zMe} {c : Nat} (h : zLen c ≠ 0) (r : Nat) (sp dp n : Int) : (zM m).set c (.inl (0, (zLen c, .inl (zA (zC m r sp c dp n) c)))) = zM (zC m r sp c dp n) := by
  match c, h with
  | 0, h => exact absurd rfl h
  | 1, h => exact absurd rfl h
  | 2, _ => rfl
  | 3, h => exact absurd rfl h
  | 4, _ => rfl
  | 5, _ => rfl
  | 6, _ => rfl
  | 7, _ => rfl
  | 8, _ => rfl
  | 9, _ => rfl
  | 10, _ => rfl
  | 11, h => exact absurd rfl h
  | 12, _ => rfl
  | 13, _ => rfl
  | 14, _ => rfl
  | 15, _ => rfl
  | 16, _ => rfl
  | 17, _ => rfl
  | 18, _ => rfl
  | 19, h => exact absurd rfl h
  | 20, _ => rfl
  | 21, _ => rfl
  | 22, _ => rfl
  | 23, _ => rfl
  | 24, _ => rfl
  | 25, _ => rfl
  | 26, _ => rfl
  | 27, h => exact absurd rfl h
  | 28, _ => rfl
  | 29, _ => rfl
  | 30, h => exact absurd rfl h
  | 31, _ => rfl
  | 32, _ => rfl
  | 33, _ => rfl
  | 34, _ => rfl
  | 35, _ => rfl
  | 36, h => exact absurd rfl h
  | 37, _ => rfl
  | 38, _ => rfl
  | 39, h => exact absurd rfl h
  | 40, _ => rfl
  | 41, h => exact absurd rfl h
  | 42, h => exact absurd rfl h
  | 43, _ => rfl
  | 44, h => exact absurd rfl h
  | 45, _ => rfl
  | 46, h => exact absurd rfl h
  | 47, _ => rfl
  | 48, h => exact absurd rfl h
  | 49, _ => rfl
  | 50, h => exact absurd rfl h
  | 51, _ => rfl
  | 52, _ => rfl
  | 53, _ => rfl
  | 54, _ => rfl
  | 55, _ => rfl
  | 56, _ => rfl
  | 57, _ => rfl
  | 58, _ => rfl
  | 59, _ => rfl
  | 60, _ => rfl
  | 61, _ => rfl
  | c + 62, h => exact absurd rfl h
theorem zLen_le (c : Nat) : zLen c ≤ 486 := by
  unfold zLen
  split <;> decide
theorem zg_I0 {m : zMe} {r : Nat} (hr : zG r) : gI (zM m) r 0 0 = some (zI (m r 0)) := by rcases hr with rfl | rfl | rfl <;> rfl
theorem zg_P0 {m : zMe} {r : Nat} (hr : zG r) (x : Int) : pI (zM m) r 0 0 (zI x) = some (zM (zU m r 0 x)) := by rcases hr with rfl | rfl | rfl <;> rfl
theorem zg_I1 {m : zMe} {r : Nat} (hr : zG r) : gI (zM m) r 0 1 = some (zI (m r 1)) := by rcases hr with rfl | rfl | rfl <;> rfl
theorem zg_P1 {m : zMe} {r : Nat} (hr : zG r) (x : Int) : pI (zM m) r 0 1 (zI x) = some (zM (zU m r 1 x)) := by rcases hr with rfl | rfl | rfl <;> rfl
theorem zg_I2 {m : zMe} {r : Nat} (hr : zG r) : gI (zM m) r 0 2 = some (zI (m r 2)) := by rcases hr with rfl | rfl | rfl <;> rfl
theorem zg_P2 {m : zMe} {r : Nat} (hr : zG r) (x : Int) : pI (zM m) r 0 2 (zI x) = some (zM (zU m r 2 x)) := by rcases hr with rfl | rfl | rfl <;> rfl
theorem zg_R3 {m : zMe} {r : Nat} (hr : zG r) : gR (zM m) r 0 3 = some (r + 1) := by rcases hr with rfl | rfl | rfl <;> rfl
theorem zg_L3 {r : Nat} (hr : zG r) : zLen (r + 1) = 6 := by rcases hr with rfl | rfl | rfl <;> rfl
theorem zg_R4 {m : zMe} {r : Nat} (hr : zG r) : gR (zM m) r 0 4 = some (r + 2) := by rcases hr with rfl | rfl | rfl <;> rfl
theorem zg_L4 {r : Nat} (hr : zG r) : zLen (r + 2) = 6 := by rcases hr with rfl | rfl | rfl <;> rfl
theorem zg_R5 {m : zMe} {r : Nat} (hr : zG r) : gR (zM m) r 0 5 = some (r + 3) := by rcases hr with rfl | rfl | rfl <;> rfl
theorem zg_L5 {r : Nat} (hr : zG r) : zLen (r + 3) = 36 := by rcases hr with rfl | rfl | rfl <;> rfl
theorem zg_R6 {m : zMe} {r : Nat} (hr : zG r) : gR (zM m) r 0 6 = some (r + 4) := by rcases hr with rfl | rfl | rfl <;> rfl
theorem zg_L6 {r : Nat} (hr : zG r) : zLen (r + 4) = 9 := by rcases hr with rfl | rfl | rfl <;> rfl
theorem zg_R7 {m : zMe} {r : Nat} (hr : zG r) : gR (zM m) r 0 7 = some (r + 5) := by rcases hr with rfl | rfl | rfl <;> rfl
theorem zg_L7 {r : Nat} (hr : zG r) : zLen (r + 5) = 9 := by rcases hr with rfl | rfl | rfl <;> rfl
theorem zg_R8 {m : zMe} {r : Nat} (hr : zG r) : gR (zM m) r 0 8 = some (r + 6) := by rcases hr with rfl | rfl | rfl <;> rfl
theorem zg_L8 {r : Nat} (hr : zG r) : zLen (r + 6) = 9 := by rcases hr with rfl | rfl | rfl <;> rfl
theorem zg_R9 {m : zMe} {r : Nat} (hr : zG r) : gR (zM m) r 0 9 = some (r + 7) := by rcases hr with rfl | rfl | rfl <;> rfl
theorem zg_L9 {r : Nat} (hr : zG r) : zLen (r + 7) = 9 := by rcases hr with rfl | rfl | rfl <;> rfl
theorem zg_ck {m : zMe} {r : Nat} (hr : zG r) : ck (zM m) r 0 = some () := by rcases hr with rfl | rfl | rfl <;> rfl
theorem zs_I1 {m : zMe} {r : Nat} (hr : zS r) : gI (zM m) r 2 1 = some (zI (m r 1)) := by rcases hr with rfl | rfl | rfl | rfl <;> rfl
theorem zs_P1 {m : zMe} {r : Nat} (hr : zS r) (x : Int) : pI (zM m) r 2 1 (zI x) = some (zM (zU m r 1 x)) := by rcases hr with rfl | rfl | rfl | rfl <;> rfl
theorem zs_I2 {m : zMe} {r : Nat} (hr : zS r) : gI (zM m) r 2 2 = some (zI (m r 2)) := by rcases hr with rfl | rfl | rfl | rfl <;> rfl
theorem zs_P2 {m : zMe} {r : Nat} (hr : zS r) (x : Int) : pI (zM m) r 2 2 (zI x) = some (zM (zU m r 2 x)) := by rcases hr with rfl | rfl | rfl | rfl <;> rfl
theorem zs_R0 {m : zMe} {r : Nat} (hr : zS r) : gR (zM m) r 2 0 = some (r + 1) := by rcases hr with rfl | rfl | rfl | rfl <;> rfl
theorem zs_L {r : Nat} (hr : zS r) : zLen (r + 1) = 40 := by rcases hr with rfl | rfl | rfl | rfl <;> rfl
theorem zs_ck {m : zMe} {r : Nat} (hr : zS r) : ck (zM m) r 2 = some () := by rcases hr with rfl | rfl | rfl | rfl <;> rfl
def zM0 : zMe := fun c j => if c = 57 then (([116, 101, 97, 109, 32, 115, 116, 97, 114, 116, 103, 97, 109, 101, 32, 119, 111, 110, 32, 32, 100, 114, 101, 119, 32] : List Int).getD j.toNat 0) else if c = 59 then (if 0 ≤ j ∧ j < 4 then -1 else 0) else if (c = 42 ∨ c = 44 ∨ c = 46 ∨ c = 48) ∧ j = 1 then -1 else 0
theorem za_L {m : zMe} {c n : Nat} {x : Int} (hn : zLen c = n) (h : 0 ≤ x ∧ x < n) : aL (zM m) c (zI x) = some (zI (m c x)) := by
  have hl := zLen_le c
  have h0 : zLen c ≠ 0 := by omega
  have h1 : x < 2147483648 := by omega
  unfold aL
  rw [zcell h0]
  simp only
  rw [if_neg]
  · rw [zI_nat h.1 h1, zA_at h.1]
  · rintro (q | q)
    · exact zI_nn h.1 h1 q
    · rw [zI_nat h.1 h1] at q
      omega
theorem za_S {m : zMe} {c n : Nat} {x y : Int} (hn : zLen c = n) (h : 0 ≤ x ∧ x < n) : aS (zM m) c (zI x) (zI y) = some (zM (zU m c x y)) := by
  have hl := zLen_le c
  have h0 : zLen c ≠ 0 := by omega
  have h1 : x < 2147483648 := by omega
  unfold aS
  rw [zcell h0]
  simp only
  rw [if_neg]
  · rw [zI_nat h.1 h1, zA_upd h.1, zset h0]
  · rintro (q | q)
    · exact zI_nn h.1 h1 q
    · rw [zI_nat h.1 h1] at q
      omega
theorem za_C {m : zMe} {r d n0 n1 : Nat} {sp dp n : Int} (hr : zLen r = n0) (hd : zLen d = n1) (h : 0 ≤ sp ∧ 0 ≤ dp ∧ 0 ≤ n ∧ sp + n ≤ n0 ∧ dp + n ≤ n1) (hp : n0 ≠ 0 ∧ n1 ≠ 0) : aC (zM m) r (zI sp) d (zI dp) (zI n) = some (zM (zC m r sp d dp n)) := by
  have hl := zLen_le r
  have hl2 := zLen_le d
  have h0 : zLen r ≠ 0 := by omega
  have h1 : zLen d ≠ 0 := by omega
  unfold aC
  rw [zcell h0, zcell h1]
  simp only
  rw [if_neg]
  · rw [zI_nat h.1 (by omega), zI_nat h.2.1 (by omega), zI_nat h.2.2.1 (by omega), ← zsetC h1]
    congr 6
    funext j
    unfold va_cpy zA zC
    by_cases hj : dp.toNat ≤ j ∧ j < dp.toNat + n.toNat
    · rw [if_pos hj, if_pos rfl, if_pos (by omega)]
      congr 2
      omega
    · rw [if_neg hj, if_pos rfl, if_neg (by omega)]
  · rw [zI_nat h.1 (by omega), zI_nat h.2.1 (by omega), zI_nat h.2.2.1 (by omega)]
    rintro (q | q | q | q | q)
    · exact zI_nn h.1 (by omega) q
    · exact zI_nn h.2.1 (by omega) q
    · exact zI_nn h.2.2.1 (by omega) q
    · omega
    · omega
def zst (q : Nat) (x : Int) : Int := match q with
  | 0 => x + 1
  | 1 => if x = 0 then 0 else 1
  | 2 => if x = 0 then 1 else 2
  | _ => if x = 0 then 1 else 0
theorem z_012 {x : Int} (h : 0 ≤ x ∧ x ≤ 2) : x = 0 ∨ x = 1 ∨ x = 2 := by omega
theorem za_T0 {x : Int} (h : 0 ≤ x ∧ x ≤ 2) : sT 0 (zI x) = some (zI (x + 1)) := by rcases z_012 h with rfl | rfl | rfl <;> rfl
theorem za_T1 {x : Int} (h : 0 ≤ x ∧ x ≤ 2) : sT 1 (zI x) = some (zI (if x = 0 then 0 else 1)) := by rcases z_012 h with rfl | rfl | rfl <;> rfl
theorem za_T2 {x : Int} (h : 0 ≤ x ∧ x ≤ 2) : sT 2 (zI x) = some (zI (if x = 0 then 1 else 2)) := by rcases z_012 h with rfl | rfl | rfl <;> rfl
theorem za_T3 {x : Int} (h : 0 ≤ x ∧ x ≤ 2) : sT 3 (zI x) = some (zI (if x = 0 then 1 else 0)) := by rcases z_012 h with rfl | rfl | rfl <;> rfl
theorem z_0123 {x : Int} (h : 0 ≤ x ∧ x < 4) : x = 0 ∨ x = 1 ∨ x = 2 ∨ x = 3 := by omega
def zSh (x : Int) : Nat := 42 + 2 * x.toNat
theorem zS_Sh {x : Int} (h : 0 ≤ x ∧ x < 4) : zS (zSh x) := by
  unfold zS zSh
  omega
theorem za_Q {m : zMe} {x : Int} (h : 0 ≤ x ∧ x < 4) : qL (zM m) 41 (zI x) = some (zSh x) := by rcases z_0123 h with rfl | rfl | rfl | rfl <;> rfl
/-! walking: a mirrored function ends, with this answer and this memory -/
def zOk {α : Type} (o : Option (α × Hp)) (Q : α → zMe → Prop) : Prop := ∃ v m, o = some (v, zM m) ∧ Q v m
theorem zOk.mono {α : Type} {o : Option (α × Hp)} {P Q : α → zMe → Prop} (h : zOk o P) (hi : ∀ v m, P v m → Q v m) : zOk o Q := by
  obtain ⟨v, m, h1, h2⟩ := h
  exact ⟨v, m, h1, hi v m h2⟩
theorem zOk.eq {α : Type} {o : Option (α × Hp)} {v : α} {m : zMe} (h : zOk o (fun v' m' => v' = v ∧ m' = m)) : o = some (v, zM m) := by
  obtain ⟨v', m', h1, rfl, rfl⟩ := h
  exact h1
section ZW
variable {α β : Type} {m : zMe} {Q : α → zMe → Prop}
theorem z_ret {v : α} (h : Q v m) : zOk (some (v, zM m)) Q := ⟨v, m, rfl, h⟩
theorem z_reti {e : Int32} {x : Int} {Q : Int32 → zMe → Prop} (he : e = zI x) (h : Q (zI x) m) : zOk (some (e, zM m)) Q := ⟨e, m, rfl, by rw [he]; exact h⟩
theorem z_nm {e : Int32} {x : Int} {f : Int32 → Option (α × Hp)} (he : e = zI x) (K : zOk (f (zI x)) Q) : zOk ((some e).bind f) Q := by subst he; exact K
theorem z_nml {e : Int64} {f : Int64 → Option (α × Hp)} (K : zOk (f e) Q) : zOk ((some e).bind f) Q := K
theorem z_b {o : Option β} {x : β} {f : β → Option (α × Hp)} (h : o = some x) (K : zOk (f x) Q) : zOk (o.bind f) Q := by subst h; exact K
theorem z_call {o : Option (β × Hp)} {P : β → zMe → Prop} {f : β × Hp → Option (α × Hp)} (h : zOk o P) (K : ∀ v m', P v m' → zOk (f (v, zM m')) Q) : zOk (o.bind f) Q := by
  obtain ⟨v, m', rfl, h2⟩ := h
  exact K v m' h2
theorem z_I {r c : Nat} {k : Nat} {x y : Int} {f : Int32 → Option (α × Hp)} (h : gI (zM m) r c k = some (zI x)) (hy : x = y) (K : zOk (f (zI y)) Q) : zOk ((gI (zM m) r c k).bind f) Q := by subst hy; exact z_b h K
theorem z_P {r c : Nat} {k : Nat} {e : Int32} {x : Int} {m' : zMe} {f : Hp → Option (α × Hp)} (he : e = zI x) (h : pI (zM m) r c k (zI x) = some (zM m')) (K : zOk (f (zM m')) Q) : zOk ((pI (zM m) r c k e).bind f) Q := by subst he; exact z_b h K
theorem z_L {c n : Nat} {e : Int32} {x y : Int} {f : Int32 → Option (α × Hp)} (he : e = zI x) (hn : zLen c = n) (h : 0 ≤ x ∧ x < n) (hy : m c x = y) (K : zOk (f (zI y)) Q) : zOk ((aL (zM m) c e).bind f) Q := by subst he; subst hy; exact z_b (za_L hn h) K
theorem z_S {c n : Nat} {e g : Int32} {x y : Int} {f : Hp → Option (α × Hp)} (he : e = zI x) (hg : g = zI y) (hn : zLen c = n) (h : 0 ≤ x ∧ x < n) (K : zOk (f (zM (zU m c x y))) Q) : zOk ((aS (zM m) c e g).bind f) Q := by subst he; subst hg; exact z_b (za_S hn h) K
theorem z_ite {c : Prop} [Decidable c] {A B : Option (α × Hp)} (h1 : c → zOk A Q) (h2 : ¬ c → zOk B Q) : zOk (if c then A else B) Q := by
  by_cases h : c
  · rw [if_pos h]; exact h1 h
  · rw [if_neg h]; exact h2 h
theorem z_lt {a b : Int32} {x y : Int} {A B : Option (α × Hp)} (ha : a = zI x) (hb : b = zI y) (hx : -2147483648 ≤ x ∧ x < 2147483648) (hy : -2147483648 ≤ y ∧ y < 2147483648) (h1 : x < y → zOk A Q) (h2 : ¬ x < y → zOk B Q) : zOk (if a < b then A else B) Q := by
  subst ha; subst hb
  exact z_ite (fun h => h1 ((zI_lt hx hy).mp h)) (fun h => h2 (fun q => h ((zI_lt hx hy).mpr q)))
theorem z_le {a b : Int32} {x y : Int} {A B : Option (α × Hp)} (ha : a = zI x) (hb : b = zI y) (hx : -2147483648 ≤ x ∧ x < 2147483648) (hy : -2147483648 ≤ y ∧ y < 2147483648) (h1 : x ≤ y → zOk A Q) (h2 : ¬ x ≤ y → zOk B Q) : zOk (if a ≤ b then A else B) Q := by
  subst ha; subst hb
  exact z_ite (fun h => h1 ((zI_le hx hy).mp h)) (fun h => h2 (fun q => h ((zI_le hx hy).mpr q)))
theorem z_eq {a b : Int32} {x y : Int} {A B : Option (α × Hp)} (ha : a = zI x) (hb : b = zI y) (hx : -2147483648 ≤ x ∧ x < 2147483648) (hy : -2147483648 ≤ y ∧ y < 2147483648) (h1 : x = y → zOk A Q) (h2 : ¬ x = y → zOk B Q) : zOk (if a = b then A else B) Q := by
  subst ha; subst hb
  exact z_ite (fun h => h1 ((zI_inj hx hy).mp h)) (fun h => h2 (fun q => h ((zI_inj hx hy).mpr q)))
theorem z_B {p : Prop} [Decidable p] {A B : Option (α × Hp)} (h0 : ¬ p → zOk A Q) (h1 : p → zOk B Q) : zOk (if zI (zB p) = 0 then A else B) Q := by
  by_cases h : p
  · rw [zB_p h, if_neg (by decide)]; exact h1 h
  · rw [zB_n h, if_pos (by decide)]; exact h0 h
theorem z_bz {p : Prop} [Decidable p] {f : Unit → Option (α × Hp)} (K : zOk (f ()) Q) : zOk ((bz (zI (zB p))).bind f) Q := by
  refine z_b ?_ K
  by_cases h : p
  · rw [zB_p h]; rfl
  · rw [zB_n h]; rfl
/-- a loop, or a recursion: a measure that falls -/
theorem z_lp {σ : Type} {b : (σ → Hp → Option (α × Hp)) → σ → Hp → Option (α × Hp)} (Inv : Nat → σ → zMe → Prop) (Q : σ → zMe → α → zMe → Prop)
    (hs : ∀ n v m (k : σ → Hp → Option (α × Hp)), Inv n v m → (∀ n' v' m', n' < n → Inv n' v' m' → zOk (k v' (zM m')) (Q v' m')) → zOk (b k v (zM m)) (Q v m)) : ∀ N n v m, n < N → Inv n v m → zOk (lp b N v (zM m)) (Q v m) := by
  intro N
  induction N with
  | zero => intro n v m h; exact absurd h (by omega)
  | succ N ih => intro n v m h hI; exact hs n v m _ hI (fun n' v' m' h1 h2 => ih n' v' m' (by omega) h2)
end ZW
theorem zM_57 : zA zM0 57 = (upd (upd (upd (upd (upd (upd (upd (upd (upd (upd (upd (upd (upd (upd (upd (upd (upd (upd (upd (upd (upd (upd (upd (upd (upd (fun _ => 0) 0 (116)) 1 (101)) 2 (97)) 3 (109)) 4 (32)) 5 (115)) 6 (116)) 7 (97)) 8 (114)) 9 (116)) 10 (103)) 11 (97)) 12 (109)) 13 (101)) 14 (32)) 15 (119)) 16 (111)) 17 (110)) 18 (32)) 19 (32)) 20 (100)) 21 (114)) 22 (101)) 23 (119)) 24 (32)) := by
  funext j
  match j with
  | 0 => rfl
  | 1 => rfl
  | 2 => rfl
  | 3 => rfl
  | 4 => rfl
  | 5 => rfl
  | 6 => rfl
  | 7 => rfl
  | 8 => rfl
  | 9 => rfl
  | 10 => rfl
  | 11 => rfl
  | 12 => rfl
  | 13 => rfl
  | 14 => rfl
  | 15 => rfl
  | 16 => rfl
  | 17 => rfl
  | 18 => rfl
  | 19 => rfl
  | 20 => rfl
  | 21 => rfl
  | 22 => rfl
  | 23 => rfl
  | 24 => rfl
  | j + 25 =>
    have h : ((j + 25 : Nat) : Int).toNat = j + 25 := by omega
    simp [zA, zM0, upd, h]
    rfl
theorem zM_59 : zA zM0 59 = (upd (upd (upd (upd (fun _ => 0) 0 (-1)) 1 (-1)) 2 (-1)) 3 (-1)) := by
  funext j
  match j with
  | 0 => rfl
  | 1 => rfl
  | 2 => rfl
  | 3 => rfl
  | j + 4 =>
    simp [zA, zM0, upd]
    rw [if_neg (by omega)]
    rfl
set_option maxRecDepth 100000 in
theorem zM_hi : zM zM0 = hi_25 := by
  unfold zM
  rw [zM_57, zM_59]
  rfl
