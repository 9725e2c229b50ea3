/-! contracts over the abstract heap, calls, ends, making -/
def mth (X : Cx) : Method := X.2.2.2.2.2.2.2.1
def Qc (G : Gx) (Q : (Nat → Nat) → Option Value → Hp → Prop) : Array Value → State → Outcome → State → Prop := fun _ st o t => (∃ (a : Nat → Nat) (r : Option Value) (h' : Hp), Q a r h' ∧ o = .returned (r.map (tv a)) ∧ RH G a h' t.heap) ∧ va_F (Aq G) st t
def Qmet (X : Cx) (mc ms : Nat) (Q : (Nat → Nat) → Option Value → Hp → Prop) : State → Prop := match X with
  | (_, _, _, s, _, args, below, _, _, G) => MQ below (Qc G Q) args s mc ms (Aq G)
def rmd (d mc ms : Nat) : Room := { frames := d, cells := mc, slots := ms, locals := 64 * d }
/-- a method's contract: from this heap, with these arguments, it ends as Q says -/
def MtQ (d mc ms : Nat) (y : MethodName) (cc : ByteArray) (nL : Nat) (ret : Option FieldType) (as : List Value) (h : Hp) (Q : (Nat → Nat) → (Nat → Nat) → Option Value → Hp → Prop) : Prop :=
  ∀ (l : Launch) (G : Gx) (adr : Nat → Nat), Met l y (.code y cc nL ret :: lw_good) (rmd d mc ms) (va_Pc (as.map (tv adr)) (fun U => KK G adr U ∧ RH G adr h U.heap)) (Qc G (Q adr)) mc ms (Aq G)
/-- nothing is made: the answer is r, the heap h' -/
def Qe (r : Option Value) (h' : Hp) : (Nat → Nat) → (Nat → Nat) → Option Value → Hp → Prop := fun adr a r0 h0 => a = adr ∧ r0 = r ∧ h0 = h'
/-- cells are made: places below those that were there keep their addresses -/
def Qn (N : Nat) (h' : Hp) : (Nat → Nat) → (Nat → Nat) → Option Value → Hp → Prop := fun adr a r0 h0 => (∀ i, (i < N ∨ 1000 ≤ i) → a i = adr i) ∧ r0 = none ∧ h0 = h'
abbrev Mt (d : Nat) (y : MethodName) (cc : ByteArray) (nL : Nat) (ret : Option FieldType) (as : List Value) (h : Hp) (r : Option Value) (h' : Hp) : Prop := MtQ d 0 0 y cc nL ret as h (Qe r h')
theorem lv_args_tv (adr : Nat → Nat) : ∀ (i : Nat) (as : List Value), lv_args i (as.map (tv adr)) = tL adr (lv_args i as)
  | _, [] => rfl
  | i, v :: vs => by
    show (i, tv adr v) :: lv_args _ (vs.map (tv adr)) = tL adr ((i, v) :: lv_args _ vs)
    rw [tv_cat, lv_args_tv adr _ vs]
    rfl
theorem lg_sl_tv (adr : Nat → Nat) (as : List Value) : (lg_sl (as.map (tv adr))).length = (lg_sl as).length := by
  induction as with
  | nil => rfl
  | cons v t ih =>
    simp only [lg_sl, List.map_cons, List.flatMap_cons, List.length_append, tv_cat] at ih ⊢
    rw [ih]
    by_cases hc : v.category = 2 <;> simp [hc]
theorem MtQ.of {d mc ms : Nat} {y : MethodName} {cc : ByteArray} {nL : Nat} {ret : Option FieldType} {as : List Value} {h : Hp} {Q : (Nat → Nat) → (Nat → Nat) → Option Value → Hp → Prop} (hy : plainName y.cls = true) (hlen : (lg_sl as).length ≤ nL)
    (body : ∀ (X : Cx) (adr : Nat → Nat), (mth X).sig.returnType = ret → (mth X).name = y.name → AW X cc nL y.cls (rmd d mc ms) (Qmet X mc ms (Q adr)) 0 0 adr h 0 (lv_args 0 as) []) : MtQ d mc ms y cc nL ret as h Q := by
  intro l G adr
  refine Met.ofW (cc := cc) (maxL := nL) (ret := ret) hy rfl ?_
  intro p e s m args below meth c s₁ B hml hv
  obtain ⟨rfl, hK, hR⟩ := hv
  have hts := atoms_spec (ws := .code y cc nL ret :: lw_good) B.pre
  have hown : s.vm.findClass y.cls = some m.cls := findClass_of_methodNamed B.named
  have hname : meth.name = y.name := (name_of_methodNamed B.named B.method).1
  have hl := lv_entry (as.map (tv adr)) (n := nL) (by rw [lg_sl_tv]; exact hlen)
  rw [lg_entry_eq]
  generalize (lg_sl (as.map (tv adr)) ++ List.replicate (nL - (lg_sl (as.map (tv adr))).length) Slot.unset).toArray = ls at hl ⊢
  rw [lv_args_tv] at hl
  exact body (p, l, e, s, m, _, below, meth, c, G) adr B.returns hname ⟨B.exec, B.bytes, hml, hown, fun w hw => hts w (List.mem_cons_of_mem _ hw), B.notSynchronized⟩ hK ls s.heap [] hl hR va_S.rf
def MOk (y : MethodName) (cc : ByteArray) (nL : Nat) (ret : Option FieldType) (n : Nat) : Prop := Cond.code y cc nL ret ∈ lw_good ∧ Cond.initialized y.cls ∈ lw_good ∧ y.cls ≠ "java/lang/invoke/MethodHandle" ∧ y.cls ≠ "java/lang/invoke/VarHandle" ∧ (parseMethodDescriptor y.desc).map (fun d => d.parameters.length) = some n
def VOk (y : MethodName) : Prop := Cond.instanceMethod y ∈ lw_good ∧ Cond.selects y.cls y y ∈ lw_good
theorem code_goodIn {y : MethodName} {cc : ByteArray} {nL : Nat} {ret : Option FieldType} (h : Cond.code y cc nL ret ∈ lw_good) : GoodIn lw_good (Cond.code y cc nL ret :: lw_good) := fun w hw => (List.mem_cons.mp hw).elim (fun e => by rw [e]; exact lw_good_all _ h) (lw_good_all w)
theorem tv_cats (adr : Nat → Nat) (st : List Value) : (List.map (fun v => v.category) (List.map (tv adr) st)).sum = (st.map fun v => v.category).sum := by
  rw [List.map_map]
  congr 1
  apply List.map_congr_left
  intro v _
  exact tv_cat adr v
section AWC
variable {p : Program} {l : Launch} {e : Env} {R : Room} {s : State} {m : MethodId} {args : Array Value} {below : List Frame} {meth : Method} {c : Code} {H : Heap} {locs : List Loc} {k n mc ms : Nat} {Qm : State → Prop} {G : Gx} {pc : Nat} {ls : Array Slot} {stk rest : List Value}
theorem aw_of_run {Q : (Nat → Nat) → Option Value → Hp → Prop} {a0 : Array Value} (hrun : va_Run p l e R s m args below meth c H locs k n mc ms (F0 m pc ls stk) rest (Qc G Q a0) (Aq G)) (hS : va_S (Aq G) s.heap H locs)
    (K : ∀ (a : Nat → Nat) (r : Option Value) (h' : Hp), Q a r h' → ∀ (H1 : Heap) (locs1 : List Loc), RH G a h' H1 → va_S (Aq G) s.heap H1 locs1 → W p l e R s m args below meth c H1 locs1 (k + mc) (n + ms) Qm (F0 m (pc + 3) ls ((r.map (tv a)).toList ++ rest))) : W p l e R s m args below meth c H locs k n Qm (F0 m pc ls stk) := by
  intro T hT Xs
  obtain ⟨v, st₀, t, T', Ls, h0, X', hL, e1, e2, ⟨⟨a, r, h', hq, hv, hRH⟩, hz, hkp⟩, hgo⟩ := hrun T hT Xs
  cases hv
  rw [h0] at hz hkp
  have hS1 : va_S (Aq G) s.heap T'.heap (locs ++ Ls) := ⟨Nat.le_trans hS.1 (by rw [e1]; exact hz), fun q h1 h2 => by rw [e1, hkp q (Nat.lt_of_lt_of_le h1 hS.1) h2]; exact hS.2.1 q h1 h2, fun q hq => by
    rcases List.mem_append.mp hq with z | z
    · exact hS.2.2 q z
    · exact hL q z⟩
  obtain ⟨t2, a1, b1⟩ := K a r h' hq T'.heap (locs ++ Ls) (by rw [e1]; exact hRH) hS1 T' rfl X'
  exact ⟨t2, hgo t2 a1, b1⟩
theorem pc_blind {as : List Value} {adr : Nat → Nat} {h : Hp} : FrameBlind (va_Pc (as.map (tv adr)) (fun U => KK G adr U ∧ RH G adr h U.heap)) := fun a U g mk q => ⟨q.1, KK.calling a g mk q.2.1, q.2.2⟩
end AWC
section AWD
variable {X : Cx} {cc : ByteArray} {nL : Nat} {own : String} {R : Room} {Qm : State → Prop} {k n : Nat} {adr : Nat → Nat} {h : Hp} {pc : Nat} {L : List (Nat × Value)} {st : List Value}
variable {i d b nL' : Nat} {y : MethodName} {cc' : ByteArray} {ret : Option FieldType} {as stk : List Value} {r : Option Value} {h' : Hp}
theorem aw_virt {ci N : Nat} {fs : List Value} {T : u_T} (hd : decode cc pc = .ok (.invokevirtual i, 3)) (hm : MOk y cc' nL' ret as.length) (hv : VOk y) (hw : Cond.methodLink own i y ∈ lw_good) (hb : h[b]? = some (.inr (ci, fs))) (hc : vwCl[ci]? = some (y.cls, T, N)) (hr : d + 1 ≤ R.frames ∧ 8 + (nL' + 11) + 64 * d ≤ R.locals) (hkn : k ≤ R.cells ∧ n ≤ R.slots) (hcat : (st.map fun v => v.category).sum ≤ 8) (hst : stk = as.reverse ++ .ref b :: st) (M : Mt d y cc' nL' ret (.ref b :: as) h r h')
    (K : AW X cc nL own R Qm k n adr h' (pc + 3) L (r.toList ++ st)) : AW X cc nL own R Qm k n adr h pc L stk := by
  obtain ⟨p, l, e, s, m, args, below, meth, c, G⟩ := X
  intro F hk ls H locs hl hR hS
  subst hst
  have hcb : CallB R s args own i y cc' nL' ret (.code y cc' nL' ret :: lw_good) (rmd d 0 0) 0 0 as.length := callB_of as.length F.2.2.2.2.1 (code_goodIn hm.1) rfl rfl rfl (F.2.2.2.2.1 _ hm.2.1) (F.2.2.2.2.1 _ hw) ⟨hm.2.2.1, hm.2.2.2.1, hm.2.2.2.2⟩ hr
  refine aw_of_run (rest := st.map (tv adr)) (va_runV (As := as.map (tv adr)) (b := adr b) ⟨F.1, F.2.1, F.2.2.1, F.2.2.2.1, F.2.2.2.2.1⟩ (M l G adr) ⟨hcb, F.2.2.2.2.1 _ hv.1, F.2.2.2.2.1 _ hv.2⟩ ⟨pc_blind, va_recv hk.2.1 hR.1 hc (cW_at hb), fun U hU hW => ⟨rfl, hk.go hS hW hU, by rw [hU]; exact hR⟩⟩ rfl (by simp) hl.1 (by simp [tv]) (lv_room (by rw [tv_cats]; exact hcat)) hd hkn) hS (fun a r0 h0 hq H1 locs1 hR1 hS1 => ?_)
  obtain ⟨rfl, rfl, rfl⟩ := hq
  have := K F hk ls H1 locs1 hl hR1 hS1
  cases r0 <;> exact this
theorem aw_virtN {ci N : Nat} {fs : List Value} {T : u_T} {host : String} (hd : decode cc pc = .ok (.invokevirtual i, 3)) (hm : MOk y cc' nL' ret as.length) (hv : VOk y) (hw : (own, i, y, host) ∈ nestM) (hb : h[b]? = some (.inr (ci, fs))) (hc : vwCl[ci]? = some (y.cls, T, N)) (hr : d + 1 ≤ R.frames ∧ 8 + (nL' + 11) + 64 * d ≤ R.locals) (hkn : k ≤ R.cells ∧ n ≤ R.slots) (hcat : (st.map fun v => v.category).sum ≤ 8) (hst : stk = as.reverse ++ .ref b :: st) (M : Mt d y cc' nL' ret (.ref b :: as) h r h')
    (K : AW X cc nL own R Qm k n adr h' (pc + 3) L (r.toList ++ st)) : AW X cc nL own R Qm k n adr h pc L stk := by
  obtain ⟨p, l, e, s, m, args, below, meth, c, G⟩ := X
  intro F hk ls H locs hl hR hS
  subst hst
  have hcb := va_cnB (R := R) (rm := rmd d 0 0) (mc := 0) (ms := 0) as.length F.2.2.2.2.1 (code_goodIn hm.1) rfl rfl rfl (hk.2.2.1 _ hw) (F.2.2.2.2.1 _ hm.2.1) ⟨hm.2.2.1, hm.2.2.2.1, hm.2.2.2.2⟩ hr
  refine aw_of_run (rest := st.map (tv adr)) (va_runVN (As := as.map (tv adr)) (b := adr b) ⟨F.1, F.2.1, F.2.2.1, F.2.2.2.1, F.2.2.2.2.1⟩ (M l G adr) ⟨hcb, F.2.2.2.2.1 _ hv.1, F.2.2.2.2.1 _ hv.2⟩ ⟨pc_blind, va_recv hk.2.1 hR.1 hc (cW_at hb), fun U hU hW => ⟨rfl, hk.go hS hW hU, by rw [hU]; exact hR⟩⟩ rfl (by simp) hl.1 (by simp [tv]) (lv_room (by rw [tv_cats]; exact hcat)) hd hkn) hS (fun a r0 h0 hq H1 locs1 hR1 hS1 => ?_)
  obtain ⟨rfl, rfl, rfl⟩ := hq
  have := K F hk ls H1 locs1 hl hR1 hS1
  cases r0 <;> exact this
theorem aw_stat (hd : decode cc pc = .ok (.invokestatic i, 3)) (hm : MOk y cc' nL' ret as.length) (hv : Cond.static y ∈ lw_good) (hw : Cond.methodLink own i y ∈ lw_good) (hr : d + 1 ≤ R.frames ∧ 8 + (nL' + 11) + 64 * d ≤ R.locals) (hkn : k ≤ R.cells ∧ n ≤ R.slots) (hcat : (st.map fun v => v.category).sum ≤ 8) (hst : stk = as.reverse ++ st) (M : Mt d y cc' nL' ret as h r h')
    (K : AW X cc nL own R Qm k n adr h' (pc + 3) L (r.toList ++ st)) : AW X cc nL own R Qm k n adr h pc L stk := by
  obtain ⟨p, l, e, s, m, args, below, meth, c, G⟩ := X
  intro F hk ls H locs hl hR hS
  subst hst
  have hcb : CallB R s args own i y cc' nL' ret (.code y cc' nL' ret :: lw_good) (rmd d 0 0) 0 0 as.length := callB_of as.length F.2.2.2.2.1 (code_goodIn hm.1) rfl rfl rfl (F.2.2.2.2.1 _ hm.2.1) (F.2.2.2.2.1 _ hw) ⟨hm.2.2.1, hm.2.2.2.1, hm.2.2.2.2⟩ hr
  refine aw_of_run (rest := st.map (tv adr)) (va_runS (As := as.map (tv adr)) ⟨F.1, F.2.1, F.2.2.1, F.2.2.2.1, F.2.2.2.2.1⟩ (M l G adr) ⟨hcb, F.2.2.2.2.1 _ hv⟩ ⟨pc_blind, fun U hU hW => ⟨rfl, hk.go hS hW hU, by rw [hU]; exact hR⟩⟩ rfl (by simp) hl.1 (by simp) (lv_room (by rw [tv_cats]; exact hcat)) hd hkn) hS (fun a r0 h0 hq H1 locs1 hR1 hS1 => ?_)
  obtain ⟨rfl, rfl, rfl⟩ := hq
  have := K F hk ls H1 locs1 hl hR1 hS1
  cases r0 <;> exact this
theorem aw_statN {host : String} (hd : decode cc pc = .ok (.invokestatic i, 3)) (hm : MOk y cc' nL' ret as.length) (hv : Cond.static y ∈ lw_good) (hw : (own, i, y, host) ∈ nestM) (hr : d + 1 ≤ R.frames ∧ 8 + (nL' + 11) + 64 * d ≤ R.locals) (hkn : k ≤ R.cells ∧ n ≤ R.slots) (hcat : (st.map fun v => v.category).sum ≤ 8) (hst : stk = as.reverse ++ st) (M : Mt d y cc' nL' ret as h r h')
    (K : AW X cc nL own R Qm k n adr h' (pc + 3) L (r.toList ++ st)) : AW X cc nL own R Qm k n adr h pc L stk := by
  obtain ⟨p, l, e, s, m, args, below, meth, c, G⟩ := X
  intro F hk ls H locs hl hR hS
  subst hst
  have hcb := va_cnB (R := R) (rm := rmd d 0 0) (mc := 0) (ms := 0) as.length F.2.2.2.2.1 (code_goodIn hm.1) rfl rfl rfl (hk.2.2.1 _ hw) (F.2.2.2.2.1 _ hm.2.1) ⟨hm.2.2.1, hm.2.2.2.1, hm.2.2.2.2⟩ hr
  refine aw_of_run (rest := st.map (tv adr)) (va_runSN (As := as.map (tv adr)) ⟨F.1, F.2.1, F.2.2.1, F.2.2.2.1, F.2.2.2.2.1⟩ (M l G adr) ⟨hcb, F.2.2.2.2.1 _ hv, trivial⟩ ⟨pc_blind, fun U hU hW => ⟨rfl, hk.go hS hW hU, by rw [hU]; exact hR⟩⟩ rfl (by simp) hl.1 (by simp) (lv_room (by rw [tv_cats]; exact hcat)) hd hkn) hS (fun a r0 h0 hq H1 locs1 hR1 hS1 => ?_)
  obtain ⟨rfl, rfl, rfl⟩ := hq
  have := K F hk ls H1 locs1 hl hR1 hS1
  cases r0 <;> exact this
variable {Q : (Nat → Nat) → Option Value → Hp → Prop}
theorem aw_iret {x : Int32} (hr : (mth X).sig.returnType = some .int) (hd : decode cc pc = .ok (.ireturn, 1)) (hq : Q adr (some (.int x)) h) : AW X cc nL own R (Qmet X k n Q) k n adr h pc L [.int x] := by
  obtain ⟨p, l, e, s, m, args, below, meth, c, G⟩ := X
  intro F hk ls H locs hl hR hS
  exact W.iret F.1 F.2.1 hr (fun t ht hW => ⟨⟨adr, some (.int x), h, hq, rfl, by rw [ht]; exact hR⟩, hS.F ht⟩) hS.2.2 hd F.2.2.2.2.2
theorem aw_zret {x : Int32} {ty : FieldType} (hr : (mth X).sig.returnType = some ty) (hn : narrow ty (.int x) = .int x) (hd : decode cc pc = .ok (.ireturn, 1)) (hq : Q adr (some (.int x)) h) : AW X cc nL own R (Qmet X k n Q) k n adr h pc L [.int x] := by
  obtain ⟨p, l, e, s, m, args, below, meth, c, G⟩ := X
  intro F hk ls H locs hl hR hS
  exact W.zret F.1 F.2.1 hr hn (fun t ht hW => ⟨⟨adr, some (.int x), h, hq, rfl, by rw [ht]; exact hR⟩, hS.F ht⟩) hS.2.2 hd F.2.2.2.2.2
theorem aw_vret (hr : (mth X).sig.returnType = none) (hd : decode cc pc = .ok (.return_, 1)) (hq : Q adr none h) : AW X cc nL own R (Qmet X k n Q) k n adr h pc L [] := by
  obtain ⟨p, l, e, s, m, args, below, meth, c, G⟩ := X
  intro F hk ls H locs hl hR hS
  exact W.vret F.1 F.2.1 hr (fun t ht hW => ⟨⟨adr, none, h, hq, rfl, by rw [ht]; exact hR⟩, hS.F ht⟩) hS.2.2 hd F.2.2.2.2.2
theorem bz_nar {x : Int32} {u : Unit} (hx : bz x = some u) : narrow .boolean (.int x) = .int x := by
  rcases bz_some hx with rfl | rfl <;> decide
theorem ck_virt {h : Hp} {r ci : Nat} {u : Unit} (hx : ck h r ci = some u) : ∃ fs, h[r]? = some (.inr (ci, fs)) := ck_some hx
theorem aw_virtK {ci N : Nat} {T : u_T} {u : Unit} (hd : decode cc pc = .ok (.invokevirtual i, 3)) (hm : MOk y cc' nL' ret as.length) (hv : VOk y) (hw : Cond.methodLink own i y ∈ lw_good) (hb : ck h b ci = some u) (hc : vwCl[ci]? = some (y.cls, T, N)) (hr : d + 1 ≤ R.frames ∧ 8 + (nL' + 11) + 64 * d ≤ R.locals) (hkn : k ≤ R.cells ∧ n ≤ R.slots) (hcat : (st.map fun v => v.category).sum ≤ 8) (hst : stk = as.reverse ++ .ref b :: st) (M : Mt d y cc' nL' ret (.ref b :: as) h r h')
    (K : AW X cc nL own R Qm k n adr h' (pc + 3) L (r.toList ++ st)) : AW X cc nL own R Qm k n adr h pc L stk := by
  obtain ⟨fs, hb⟩ := ck_some hb
  exact aw_virt hd hm hv hw hb hc hr hkn hcat hst M K
theorem aw_virtNK {ci N : Nat} {T : u_T} {u : Unit} {host : String} (hd : decode cc pc = .ok (.invokevirtual i, 3)) (hm : MOk y cc' nL' ret as.length) (hv : VOk y) (hw : (own, i, y, host) ∈ nestM) (hb : ck h b ci = some u) (hc : vwCl[ci]? = some (y.cls, T, N)) (hr : d + 1 ≤ R.frames ∧ 8 + (nL' + 11) + 64 * d ≤ R.locals) (hkn : k ≤ R.cells ∧ n ≤ R.slots) (hcat : (st.map fun v => v.category).sum ≤ 8) (hst : stk = as.reverse ++ .ref b :: st) (M : Mt d y cc' nL' ret (.ref b :: as) h r h')
    (K : AW X cc nL own R Qm k n adr h' (pc + 3) L (r.toList ++ st)) : AW X cc nL own R Qm k n adr h pc L stk := by
  obtain ⟨fs, hb⟩ := ck_some hb
  exact aw_virtN hd hm hv hw hb hc hr hkn hcat hst M K
end AWD
