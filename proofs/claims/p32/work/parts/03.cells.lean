/-! reads and writes of the abstract heap -/
def ushr (x y : Int32) : Int32 := (x.toUInt32 >>> (y.toUInt32 &&& Int32.toUInt32 31)).toInt32
def ck (h : Hp) (r ci : Nat) : Option Unit := match h[r]? with
  | some (.inr (c, _)) => if c = ci then some () else none
  | _ => none
def gF (h : Hp) (r ci k : Nat) : Option Value := match h[r]? with
  | some (.inr (c, fs)) => if c = ci then fs[k]? else none
  | _ => none
def gI (h : Hp) (r ci k : Nat) : Option Int32 := match gF h r ci k with
  | some (.int x) => some x
  | _ => none
def gR (h : Hp) (r ci k : Nat) : Option Nat := match gF h r ci k with
  | some (.ref x) => some x
  | _ => none
def pF (h : Hp) (r ci k : Nat) (v : Value) : Option Hp := match h[r]? with
  | some (.inr (c, fs)) => if c = ci ∧ k < fs.length then some (h.set r (.inr (c, fs.set k v))) else none
  | _ => none
def pI (h : Hp) (r ci k : Nat) (x : Int32) : Option Hp := pF h r ci k (.int x)
def pZ (h : Hp) (r ci k : Nat) (x : Int32) : Option Hp := if x = 0 ∨ x = 1 then pF h r ci k (.int x) else none
def aL (h : Hp) (r : Nat) (i : Int32) : Option Int32 := match h[r]? with
  | some (.inl (0, (n, .inl f))) => if i < 0 ∨ n ≤ i.toNatClampNeg then none else some (f i.toNatClampNeg)
  | _ => none
def aS (h : Hp) (r : Nat) (i x : Int32) : Option Hp := match h[r]? with
  | some (.inl (0, (n, .inl f))) => if i < 0 ∨ n ≤ i.toNatClampNeg then none else some (h.set r (.inl (0, (n, .inl (upd f i.toNatClampNeg x)))))
  | _ => none
def lL (h : Hp) (r : Nat) (i : Int32) : Option Int64 := match h[r]? with
  | some (.inl (1, (n, .inr (.inl f)))) => if i < 0 ∨ n ≤ i.toNatClampNeg then none else some (f i.toNatClampNeg)
  | _ => none
def lS (h : Hp) (r : Nat) (i : Int32) (x : Int64) : Option Hp := match h[r]? with
  | some (.inl (1, (n, .inr (.inl f)))) => if i < 0 ∨ n ≤ i.toNatClampNeg then none else some (h.set r (.inl (1, (n, .inr (.inl (vp_updL f i.toNatClampNeg x))))))
  | _ => none
def qL (h : Hp) (r : Nat) (i : Int32) : Option Nat := match h[r]? with
  | some (.inl (2, (n, .inr (.inr (.inr (.inr f)))))) => if i < 0 ∨ n ≤ i.toNatClampNeg then none else f i.toNatClampNeg
  | _ => none
def qS (h : Hp) (r : Nat) (i : Int32) (x : Nat) : Option Hp := match h[r]? with
  | some (.inl (2, (n, .inr (.inr (.inr (.inr f)))))) => if i < 0 ∨ n ≤ i.toNatClampNeg then none else match ck h x 2 with
    | some _ => some (h.set r (.inl (2, (n, .inr (.inr (.inr (.inr (va_up f i.toNatClampNeg (some x)))))))))
    | none => none
  | _ => none
def aN (h : Hp) (r : Nat) : Option Int32 := match h[r]? with
  | some (.inl (0, (n, .inl _))) => some (Int32.ofNat n)
  | _ => none
def aC (h : Hp) (r : Nat) (sp : Int32) (q : Nat) (dp z : Int32) : Option Hp := match h[r]?, h[q]? with
  | some (.inl (0, (n0, .inl f))), some (.inl (0, (n1, .inl g))) => if sp < 0 ∨ dp < 0 ∨ z < 0 ∨ n0 < sp.toNatClampNeg + z.toNatClampNeg ∨ n1 < dp.toNatClampNeg + z.toNatClampNeg then none else some (h.set q (.inl (0, (n1, .inl (va_cpy f g sp.toNatClampNeg dp.toNatClampNeg z.toNatClampNeg)))))
  | _, _ => none
def sT (q : Nat) (i : Int32) : Option Int32 := match statT[q]? with
  | some (_, xs) => if i < 0 ∨ 3 ≤ i.toNatClampNeg then none else some (xs.getD i.toNatClampNeg 0)
  | none => none
/-- a truth value -/
def bz (x : Int32) : Option Unit := if x = 0 ∨ x = 1 then some () else none
theorem gF_some {h : Hp} {r ci k : Nat} {v : Value} (hx : gF h r ci k = some v) : ∃ fs, h[r]? = some (.inr (ci, fs)) ∧ fs[k]? = some v := by
  unfold gF at hx
  split at hx
  · rename_i c fs he
    split at hx
    · rename_i hc
      subst hc
      exact ⟨fs, he, hx⟩
    · cases hx
  · cases hx
theorem gI_some {h : Hp} {r ci k : Nat} {x : Int32} (hx : gI h r ci k = some x) : gF h r ci k = some (.int x) := by
  unfold gI at hx
  split at hx
  · rename_i y he
    cases hx
    exact he
  · cases hx
theorem gR_some {h : Hp} {r ci k : Nat} {x : Nat} (hx : gR h r ci k = some x) : gF h r ci k = some (.ref x) := by
  unfold gR at hx
  split at hx
  · rename_i y he
    cases hx
    exact he
  · cases hx
theorem ck_some {h : Hp} {r ci : Nat} {u : Unit} (hx : ck h r ci = some u) : ∃ fs, h[r]? = some (.inr (ci, fs)) := by
  unfold ck at hx
  split at hx
  · rename_i c fs he
    split at hx
    · rename_i hc
      subst hc
      exact ⟨fs, he⟩
    · cases hx
  · cases hx
theorem pF_some {h h' : Hp} {r ci k : Nat} {v : Value} (hx : pF h r ci k v = some h') : ∃ fs, h[r]? = some (.inr (ci, fs)) ∧ k < fs.length ∧ h' = h.set r (.inr (ci, fs.set k v)) := by
  unfold pF at hx
  split at hx
  · rename_i c fs he
    split at hx
    · rename_i hc
      obtain ⟨rfl, hk⟩ := hc
      cases hx
      exact ⟨fs, he, hk, rfl⟩
    · cases hx
  · cases hx
theorem aL_some {h : Hp} {r : Nat} {i x : Int32} (hx : aL h r i = some x) : ∃ n f, h[r]? = some (.inl (0, (n, .inl f))) ∧ vp_in i n ∧ f i.toNatClampNeg = x := by
  unfold aL at hx
  split at hx
  · rename_i n f he
    split at hx
    · cases hx
    · rename_i hc
      cases hx
      exact ⟨n, f, he, hc, rfl⟩
  · cases hx
theorem aS_some {h h' : Hp} {r : Nat} {i x : Int32} (hx : aS h r i x = some h') : ∃ n f, h[r]? = some (.inl (0, (n, .inl f))) ∧ vp_in i n ∧ h' = h.set r (.inl (0, (n, .inl (upd f i.toNatClampNeg x)))) := by
  unfold aS at hx
  split at hx
  · rename_i n f he
    split at hx
    · cases hx
    · rename_i hc
      cases hx
      exact ⟨n, f, he, hc, rfl⟩
  · cases hx
theorem lL_some {h : Hp} {r : Nat} {i : Int32} {x : Int64} (hx : lL h r i = some x) : ∃ n f, h[r]? = some (.inl (1, (n, .inr (.inl f)))) ∧ vp_in i n ∧ f i.toNatClampNeg = x := by
  unfold lL at hx
  split at hx
  · rename_i n f he
    split at hx
    · cases hx
    · rename_i hc
      cases hx
      exact ⟨n, f, he, hc, rfl⟩
  · cases hx
theorem lS_some {h h' : Hp} {r : Nat} {i : Int32} {x : Int64} (hx : lS h r i x = some h') : ∃ n f, h[r]? = some (.inl (1, (n, .inr (.inl f)))) ∧ vp_in i n ∧ h' = h.set r (.inl (1, (n, .inr (.inl (vp_updL f i.toNatClampNeg x))))) := by
  unfold lS at hx
  split at hx
  · rename_i n f he
    split at hx
    · cases hx
    · rename_i hc
      cases hx
      exact ⟨n, f, he, hc, rfl⟩
  · cases hx
theorem qL_some {h : Hp} {r x : Nat} {i : Int32} (hx : qL h r i = some x) : ∃ n f, h[r]? = some (.inl (2, (n, .inr (.inr (.inr (.inr f)))))) ∧ vp_in i n ∧ f i.toNatClampNeg = some x := by
  unfold qL at hx
  split at hx
  · rename_i n f he
    split at hx
    · cases hx
    · rename_i hc
      exact ⟨n, f, he, hc, hx⟩
  · cases hx
theorem qS_some {h h' : Hp} {r x : Nat} {i : Int32} (hx : qS h r i x = some h') : ∃ n f vs, h[r]? = some (.inl (2, (n, .inr (.inr (.inr (.inr f)))))) ∧ h[x]? = some (.inr (2, vs)) ∧ vp_in i n ∧ h' = h.set r (.inl (2, (n, .inr (.inr (.inr (.inr (va_up f i.toNatClampNeg (some x)))))))) := by
  unfold qS at hx
  split at hx
  · rename_i n f he
    split at hx
    · cases hx
    · rename_i hc
      split at hx
      · rename_i u hu
        obtain ⟨vs, hv⟩ := ck_some hu
        cases hx
        exact ⟨n, f, vs, he, hv, hc, rfl⟩
      · cases hx
  · cases hx
theorem aN_some {h : Hp} {r : Nat} {x : Int32} (hx : aN h r = some x) : ∃ n f, h[r]? = some (.inl (0, (n, .inl f))) ∧ Int32.ofNat n = x := by
  unfold aN at hx
  split at hx
  · rename_i n f he
    cases hx
    exact ⟨n, f, he, rfl⟩
  · cases hx
theorem aC_some {h h' : Hp} {r q : Nat} {sp dp z : Int32} (hx : aC h r sp q dp z = some h') : ∃ n0 n1 f g, h[r]? = some (.inl (0, (n0, .inl f))) ∧ h[q]? = some (.inl (0, (n1, .inl g))) ∧ ¬ sp < 0 ∧ ¬ dp < 0 ∧ ¬ z < 0 ∧ sp.toNatClampNeg + z.toNatClampNeg ≤ n0 ∧ dp.toNatClampNeg + z.toNatClampNeg ≤ n1 ∧ h' = h.set q (.inl (0, (n1, .inl (va_cpy f g sp.toNatClampNeg dp.toNatClampNeg z.toNatClampNeg)))) := by
  unfold aC at hx
  split at hx
  · rename_i n0 f n1 g he hg
    split at hx
    · cases hx
    · rename_i hc
      cases hx
      simp only [not_or] at hc
      exact ⟨n0, n1, f, g, he, hg, hc.1, hc.2.1, hc.2.2.1, Nat.not_lt.mp hc.2.2.2.1, Nat.not_lt.mp hc.2.2.2.2, rfl⟩
  · cases hx
theorem sT_some {q : Nat} {nm : String} {xs : List Int32} {i x : Int32} (hq : statT[q]? = some (nm, xs)) (hx : sT q i = some x) : vp_in i 3 ∧ Value.int (xs.getD i.toNatClampNeg 0) = .int x := by
  unfold sT at hx
  rw [hq] at hx
  dsimp only at hx
  split at hx
  · cases hx
  · rename_i hc
    cases hx
    exact ⟨hc, rfl⟩
theorem bz_some {x : Int32} {u : Unit} (hx : bz x = some u) : x = 0 ∨ x = 1 := by
  unfold bz at hx
  split at hx
  · assumption
  · cases hx
/-- what a field's place asks of the tables -/
def GFok (own : String) (i ci fk : Nat) : Prop := ∃ (C : String) (T : u_T) (N : Nat), vwCl[ci]? = some (C, T, N) ∧ fk < N ∧ (∀ w ∈ u_ws C T N, w ∈ lw_good) ∧ Cond.fieldLink own i C (T fk).2.1 (T fk).2.2.1 ∈ lw_good ∧ (T fk).1 = C ∧ ∃ ty0 : Nat → FieldType, (∀ k, k < N → parseFieldDescriptor (T k).2.2.1 = some (ty0 k)) ∧ ∀ a, a < N → ∀ b, b < N → a ≠ b → (T a).2.1 ≠ (T b).2.1
def PFok (own : String) (i ci fk : Nat) (ty : FieldType) : Prop := GFok own i ci fk ∧ ∀ (C : String) (T : u_T) (N : Nat), vwCl[ci]? = some (C, T, N) → (T fk).2.2.2 = false ∧ parseFieldDescriptor (T fk).2.2.1 = some ty
def PNok (own : String) (i ci fk : Nat) (ty : FieldType) : Prop := GFok own i ci fk ∧ ∀ (C : String) (T : u_T) (N : Nat), vwCl[ci]? = some (C, T, N) → (T fk).2.2.2 = true ∧ parseFieldDescriptor (T fk).2.2.1 = some ty ∧ (T fk).1 = own
