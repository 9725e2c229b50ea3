/-! what the printed rows use -/
def lp {σ ρ : Type} (b : (σ → Hp → Option ρ) → σ → Hp → Option ρ) : Nat → σ → Hp → Option ρ
  | 0 => fun _ _ => none
  | n + 1 => b (lp b n)
theorem aw_lp {σ ρ : Type} {b : (σ → Hp → Option ρ) → σ → Hp → Option ρ} {q : ρ} {Z : σ → Hp → Prop} (hb : ∀ kH : σ → Hp → Option ρ, (∀ v h, kH v h = some q → Z v h) → ∀ v h, b kH v h = some q → Z v h) : ∀ (n : Nat) (v : σ) (h : Hp), lp b n v h = some q → Z v h
  | 0, _, _, hf => by cases hf
  | n + 1, v, h, hf => hb (lp b n) (aw_lp hb n) v h hf
theorem b_some {α β : Type} {o : Option α} {f : α → Option β} {b : β} (h : o.bind f = some b) : ∃ a, o = some a ∧ f a = some b := by
  cases o with
  | none => cases h
  | some a => exact ⟨a, rfl, h⟩
theorem i_pos {α : Type} {c : Prop} {hd : Decidable c} {a b r : α} (hc : c) (h : @ite α c hd a b = r) : a = r := by
  rw [if_pos hc] at h
  exact h
theorem i_neg {α : Type} {c : Prop} {hd : Decidable c} {a b r : α} (hc : ¬ c) (h : @ite α c hd a b = r) : b = r := by
  rw [if_neg hc] at h
  exact h
theorem rm_ok {d d' nL' mc ms : Nat} (h1 : d + 1 ≤ d') (h2 : nL' ≤ 45) : d + 1 ≤ (rmd d' mc ms).frames ∧ 8 + (nL' + 11) + 64 * d ≤ (rmd d' mc ms).locals := ⟨h1, by
  show _ ≤ 64 * d'
  omega⟩
theorem tab_out {x : Int32} {N : Nat} {hi : Int} (hN : N < 2 ^ 31) (hh : hi = (N : Int) - 1) (h : ∀ j : Nat, j < N → ¬ x = nI j) : x.toInt < 0 ∨ hi < x.toInt := by
  by_cases h0 : x < 0
  · left
    exact Int32.lt_iff_toInt_lt.mp h0
  · right
    obtain ⟨j, hj, rfl⟩ := nI_of h0
    have h1 : ¬ j < N := fun q => h j q rfl
    rw [nI_toInt hj]
    omega
section AWX
variable {X : Cx} {cc : ByteArray} {nL : Nat} {own : String} {R : Room} {Qm : State → Prop} {k n : Nat} {adr : Nat → Nat} {h : Hp} {pc : Nat} {L : List (Nat × Value)} {st : List Value}
theorem aw_nm {z x : Int32} (he : some z = some x) (K : AW X cc nL own R Qm k n adr h pc L (.int x :: st)) : AW X cc nL own R Qm k n adr h pc L (.int z :: st) := by
  cases he
  exact K
theorem aw_nml {z x : Int64} (he : some z = some x) (K : AW X cc nL own R Qm k n adr h pc L (.long x :: st)) : AW X cc nL own R Qm k n adr h pc L (.long z :: st) := by
  cases he
  exact K
theorem aw_getI {i r ci fk : Nat} {x : Int32} (hd : decode cc pc = .ok (.getfield i, 3)) (hw : GFok own i ci fk) (hx : gI h r ci fk = some x) (K : AW X cc nL own R Qm k n adr h (pc + 3) L (.int x :: st)) : AW X cc nL own R Qm k n adr h pc L (.ref r :: st) := aw_get hd hw (gI_some hx) K
theorem aw_getR {i r ci fk x : Nat} (hd : decode cc pc = .ok (.getfield i, 3)) (hw : GFok own i ci fk) (hx : gR h r ci fk = some x) (K : AW X cc nL own R Qm k n adr h (pc + 3) L (.ref x :: st)) : AW X cc nL own R Qm k n adr h pc L (.ref r :: st) := aw_get hd hw (gR_some hx) K
theorem aw_putI {i r ci fk : Nat} {x : Int32} {h' : Hp} (hd : decode cc pc = .ok (.putfield i, 3)) (hw : PFok own i ci fk .int) (hx : pI h r ci fk x = some h') (K : AW X cc nL own R Qm k n adr h' (pc + 3) L st) : AW X cc nL own R Qm k n adr h pc L (.int x :: .ref r :: st) := aw_put hd hw (fun _ => ⟨rfl, rfl⟩) hx K
theorem aw_putZ {i r ci fk : Nat} {x : Int32} {h' : Hp} (hd : decode cc pc = .ok (.putfield i, 3)) (hw : PFok own i ci fk .boolean) (hx : pZ h r ci fk x = some h') (K : AW X cc nL own R Qm k n adr h' (pc + 3) L st) : AW X cc nL own R Qm k n adr h pc L (.int x :: .ref r :: st) := by
  unfold pZ at hx
  split at hx
  · rename_i hz
    refine aw_put hd hw (fun _ => ?_) hx K
    show narrow .boolean (.int x) = .int x ∧ fits .boolean (.int x) = true
    rcases hz with rfl | rfl
    · exact ⟨by decide, by decide⟩
    · exact ⟨by decide, by decide⟩
  · cases hx
variable {i d b nL' : Nat} {y : MethodName} {cc' : ByteArray} {ret : Option FieldType} {as stk : List Value} {v : Value} {h' : Hp}
theorem aw_cV {ci N : Nat} {T : u_T} {u : Unit} (hd : decode cc pc = .ok (.invokevirtual i, 3)) (hm : MOk y cc' nL' ret as.length) (hv : VOk y) (hw : Cond.methodLink own i y ∈ lw_good) (hb : ck h b ci = some u) (hc : vwCl[ci]? = some (y.cls, T, N)) (hr : d + 1 ≤ R.frames ∧ 8 + (nL' + 11) + 64 * d ≤ R.locals) (hkn : k ≤ R.cells ∧ n ≤ R.slots) (hcat : (st.map fun v => v.category).sum ≤ 8) (hst : stk = as.reverse ++ .ref b :: st) (M : Mt d y cc' nL' ret (.ref b :: as) h (some v) h')
    (K : AW X cc nL own R Qm k n adr h' (pc + 3) L (v :: st)) : AW X cc nL own R Qm k n adr h pc L stk := aw_virtK hd hm hv hw hb hc hr hkn hcat hst M K
theorem aw_cV0 {ci N : Nat} {T : u_T} {u : Unit} (hd : decode cc pc = .ok (.invokevirtual i, 3)) (hm : MOk y cc' nL' ret as.length) (hv : VOk y) (hw : Cond.methodLink own i y ∈ lw_good) (hb : ck h b ci = some u) (hc : vwCl[ci]? = some (y.cls, T, N)) (hr : d + 1 ≤ R.frames ∧ 8 + (nL' + 11) + 64 * d ≤ R.locals) (hkn : k ≤ R.cells ∧ n ≤ R.slots) (hcat : (st.map fun v => v.category).sum ≤ 8) (hst : stk = as.reverse ++ .ref b :: st) (M : Mt d y cc' nL' ret (.ref b :: as) h none h')
    (K : AW X cc nL own R Qm k n adr h' (pc + 3) L st) : AW X cc nL own R Qm k n adr h pc L stk := aw_virtK hd hm hv hw hb hc hr hkn hcat hst M K
theorem aw_cN {ci N : Nat} {T : u_T} {u : Unit} {host : String} (hd : decode cc pc = .ok (.invokevirtual i, 3)) (hm : MOk y cc' nL' ret as.length) (hv : VOk y) (hw : (own, i, y, host) ∈ nestM) (hb : ck h b ci = some u) (hc : vwCl[ci]? = some (y.cls, T, N)) (hr : d + 1 ≤ R.frames ∧ 8 + (nL' + 11) + 64 * d ≤ R.locals) (hkn : k ≤ R.cells ∧ n ≤ R.slots) (hcat : (st.map fun v => v.category).sum ≤ 8) (hst : stk = as.reverse ++ .ref b :: st) (M : Mt d y cc' nL' ret (.ref b :: as) h (some v) h')
    (K : AW X cc nL own R Qm k n adr h' (pc + 3) L (v :: st)) : AW X cc nL own R Qm k n adr h pc L stk := aw_virtNK hd hm hv hw hb hc hr hkn hcat hst M K
theorem aw_cS (hd : decode cc pc = .ok (.invokestatic i, 3)) (hm : MOk y cc' nL' ret as.length) (hv : Cond.static y ∈ lw_good) (hw : Cond.methodLink own i y ∈ lw_good) (hr : d + 1 ≤ R.frames ∧ 8 + (nL' + 11) + 64 * d ≤ R.locals) (hkn : k ≤ R.cells ∧ n ≤ R.slots) (hcat : (st.map fun v => v.category).sum ≤ 8) (hst : stk = as.reverse ++ st) (M : Mt d y cc' nL' ret as h (some v) h')
    (K : AW X cc nL own R Qm k n adr h' (pc + 3) L (v :: st)) : AW X cc nL own R Qm k n adr h pc L stk := aw_stat hd hm hv hw hr hkn hcat hst M K
theorem aw_cS0 (hd : decode cc pc = .ok (.invokestatic i, 3)) (hm : MOk y cc' nL' ret as.length) (hv : Cond.static y ∈ lw_good) (hw : Cond.methodLink own i y ∈ lw_good) (hr : d + 1 ≤ R.frames ∧ 8 + (nL' + 11) + 64 * d ≤ R.locals) (hkn : k ≤ R.cells ∧ n ≤ R.slots) (hcat : (st.map fun v => v.category).sum ≤ 8) (hst : stk = as.reverse ++ st) (M : Mt d y cc' nL' ret as h none h')
    (K : AW X cc nL own R Qm k n adr h' (pc + 3) L st) : AW X cc nL own R Qm k n adr h pc L stk := aw_stat hd hm hv hw hr hkn hcat hst M K
theorem aw_cSN {host : String} (hd : decode cc pc = .ok (.invokestatic i, 3)) (hm : MOk y cc' nL' ret as.length) (hv : Cond.static y ∈ lw_good) (hw : (own, i, y, host) ∈ nestM) (hr : d + 1 ≤ R.frames ∧ 8 + (nL' + 11) + 64 * d ≤ R.locals) (hkn : k ≤ R.cells ∧ n ≤ R.slots) (hcat : (st.map fun v => v.category).sum ≤ 8) (hst : stk = as.reverse ++ st) (M : Mt d y cc' nL' ret as h (some v) h')
    (K : AW X cc nL own R Qm k n adr h' (pc + 3) L (v :: st)) : AW X cc nL own R Qm k n adr h pc L stk := aw_statN hd hm hv hw hr hkn hcat hst M K
end AWX
