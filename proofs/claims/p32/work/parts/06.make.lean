/-! making objects and arrays: places keep their addresses -/
def okb (n : Nat) (v : Value) : Bool := match v with
  | .ref i => decide (i < n) || decide (1000 ≤ i)
  | _ => true
def okc (n : Nat) (e : Ae) : Bool := match e with
  | .inl (_, (N, .inr (.inr (.inr (.inr f))))) => (List.range N).all fun j => match f j with
    | some i => decide (i < n) || decide (1000 ≤ i)
    | none => true
  | .inl _ => true
  | .inr (_, fs) => fs.all (okb n)
def nrf (v : Value) : Bool := match v with
  | .ref _ => false
  | _ => true
theorem nrf_map {fs : List Value} (h : fs.all nrf = true) (a : Nat → Nat) : fs.map (tv a) = fs := by
  have : fs.map (tv a) = fs.map id := List.map_congr_left fun v hv => by
    have h1 := List.all_eq_true.mp h v hv
    cases v with
    | ref i => cases h1
    | _ => rfl
  rw [this, List.map_id]
def okh (h : Hp) : Bool := h.all (okc h.length)
def okl (n : Nat) (L : List (Nat × Value)) (st : List Value) : Bool := L.all (fun q => okb n q.2) && st.all (okb n)
/-- two maps agree on what stands below N and on what is outside -/
def Agr (N : Nat) (a adr : Nat → Nat) : Prop := ∀ i, (i < N ∨ 1000 ≤ i) → a i = adr i
theorem Agr.v {N : Nat} {a adr : Nat → Nat} (hA : Agr N a adr) {v : Value} (h : okb N v = true) : tv a v = tv adr v := by
  cases v with
  | ref i =>
    simp only [okb, Bool.or_eq_true, decide_eq_true_eq] at h
    show Value.ref (a i) = .ref (adr i)
    rw [hA i h]
  | _ => rfl
theorem Agr.st {N : Nat} {a adr : Nat → Nat} (hA : Agr N a adr) {st : List Value} (h : st.all (okb N) = true) : st.map (tv a) = st.map (tv adr) := List.map_congr_left fun v hv => hA.v (List.all_eq_true.mp h v hv)
theorem Agr.L {N : Nat} {a adr : Nat → Nat} (hA : Agr N a adr) {L : List (Nat × Value)} (h : L.all (fun q => okb N q.2) = true) : tL a L = tL adr L := List.map_congr_left fun q hq => by rw [hA.v (List.all_eq_true.mp h q hq)]
theorem Agr.e {N : Nat} {a adr : Nat → Nat} (hA : Agr N a adr) {G : Gx} {e : Ae} (h : okc N e = true) : tE G a e = tE G adr e := by
  obtain ⟨k, M, f | f | f | f | f⟩ | ⟨c, fs⟩ := e
  · rfl
  · rfl
  · rfl
  · rfl
  · show Sum.inl _ = Sum.inl _
    unfold tA
    simp only
    congr 5
    congr 1
    congr 1
    congr 1
    congr 1
    funext j
    by_cases hj : j < M
    · simp only [hj, if_true]
      have h1 := List.all_eq_true.mp h j (List.mem_range.mpr hj)
      cases hf : f j with
      | none => rfl
      | some i =>
        rw [hf] at h1
        simp only [Bool.or_eq_true, decide_eq_true_eq] at h1
        show some (a i) = some (adr i)
        rw [hA i h1]
    · simp [hj]
  · show Sum.inr (c, _) = Sum.inr (c, _)
    rw [hA.st h]
theorem Agr.w {N : Nat} {a adr : Nat → Nat} (hA : Agr N a adr) {G : Gx} {h : Hp} (hN : h.length ≤ N) (hh : h.all (okc N) = true) : cW G a h = cW G adr h := by
  apply List.ext_getElem?
  intro j
  simp only [cW, List.getElem?_mapIdx]
  cases he : h[j]? with
  | none => rfl
  | some e =>
    have hl := (List.getElem?_eq_some_iff.mp he).1
    simp only [Option.map_some]
    rw [hA j (Or.inl (by omega)), hA.e (List.all_eq_true.mp hh e (List.mem_of_getElem? he))]
theorem Agr.tr {N M : Nat} {a b c : Nat → Nat} (hNM : N ≤ M) (h1 : Agr M b a) (h2 : Agr N a c) : Agr N b c := fun i hi => (h1 i (by omega)).trans (h2 i hi)
theorem Agr.rf {N : Nat} {a : Nat → Nat} : Agr N a a := fun _ _ => rfl
theorem cW_push {G : Gx} {adr : Nat → Nat} {h : Hp} {e : Ae} : cW G adr (h ++ [e]) = cW G adr h ++ [(adr h.length, tE G adr e)] := by
  simp [cW, List.mapIdx_append]
def put1 (adr : Nat → Nat) (N q : Nat) : Nat → Nat := fun i => if i = N then q else adr i
theorem put1_agr (adr : Nat → Nat) {N : Nat} (q : Nat) (hN : N < 1000) : Agr N (put1 adr N q) adr := fun i hi => by
  unfold put1
  rw [if_neg (by omega)]
theorem put1_at (adr : Nat → Nat) (N q : Nat) : put1 adr N q N = q := by simp [put1]
theorem push_w {G : Gx} {adr : Nat → Nat} {h : Hp} {e : Ae} {q : Nat} {e' : va_E} (hN : h.length < 1000) (hh : okh h = true) (he : tE G (put1 adr h.length q) e = e') : cW G (put1 adr h.length q) (h ++ [e]) = cW G adr h ++ [(q, e')] := by
  rw [cW_push, (put1_agr adr q hN).w (Nat.le_refl _) hh, put1_at, he]
theorem ha_int (N : Nat) (cA : ClassId) : vp_cell cA (N, .inl (fun _ => 0)) = arrV cA N (fun _ => defaultValue .int) := rfl
theorem ha_long (N : Nat) (cA : ClassId) : vp_cell cA (N, .inr (.inl (fun _ => 0))) = arrV cA N (fun _ => defaultValue .long) := by
  rw [vp_cell_l]
  rfl
section AWM
variable {X : Cx} {cc : ByteArray} {nL : Nat} {own : String} {R : Room} {Qm : State → Prop} {k n : Nat} {adr : Nat → Nat} {h : Hp} {pc : Nat} {L : List (Nat × Value)} {st : List Value}
theorem AW.heq {h1 : Hp} (e : h = h1) (K : AW X cc nL own R Qm k n adr h1 pc L st) : AW X cc nL own R Qm k n adr h pc L st := e ▸ K
theorem AW.leq {L1 : List (Nat × Value)} (e : L = L1) (K : AW X cc nL own R Qm k n adr h pc L1 st) : AW X cc nL own R Qm k n adr h pc L st := e ▸ K
theorem AW.keq {k1 n1 : Nat} (e1 : k = k1) (e2 : n = n1) (K : AW X cc nL own R Qm k1 n1 adr h pc L st) : AW X cc nL own R Qm k n adr h pc L st := e1 ▸ e2 ▸ K
theorem aw_new {i ci N : Nat} {C : String} {T : u_T} {fs : List Value} (ty : Nat → FieldType) (hd : decode cc pc = .ok (.new i, 3)) (hc : vwCl[ci]? = some (C, T, N)) (hin : ∀ w ∈ u_ws C T N, w ∈ lw_good) (hty : ∀ k, k < N → parseFieldDescriptor (T k).2.2.1 = some (ty k)) (hcl : Cond.classLink own i C ∈ lw_good) (hi : Cond.instantiable C N ∈ lw_good) (hini : Cond.initialized C ∈ lw_good) (hfs : ∀ j, j < N → defaultValue (ty j) = vp_V fs j) (hfr : fs.all nrf = true) (hkn : k + 1 ≤ R.cells ∧ n + N ≤ R.slots) {N0 : Nat} (hN0 : h.length = N0) (hN : N0 < 1000) (hh : okh h = true) (hs : okl N0 L st = true)
    (K : ∀ a, Agr N0 a adr → AW X cc nL own R Qm (k + 1) (n + N) a (h ++ [.inr (ci, fs)]) (pc + 3) L (.ref N0 :: st)) : AW X cc nL own R Qm k n adr h pc L st := by
  obtain ⟨p, l, e, s, m, args, below, meth, c, G⟩ := X
  subst hN0
  intro F hk ls H locs hl hR hS
  simp only [okl, Bool.and_eq_true] at hs
  refine va_new (ci := ci) (fs := fs) F.1 F.2.1 F.2.2.2.2.1 hin ty hty F.2.2.2.1 (F.2.2.2.2.1 _ hcl) (F.2.2.2.2.1 _ hi) (F.2.2.2.2.1 _ hini) hk.2.1 hR.1 hR.2 hS (fun q hq => Nat.le_trans hk.1 hq) hc hfs hkn.1 hkn.2 hd (fun q H1 hP hD hS1 => ?_)
  have hA := put1_agr adr q hN
  have hfe : tE G (put1 adr h.length q) (.inr (ci, fs)) = .inr (ci, fs) := by
    show Sum.inr (ci, _) = Sum.inr (ci, _)
    rw [nrf_map hfr]
  have hw := push_w (G := G) (e := .inr (ci, fs)) (q := q) hN hh hfe
  refine W.eq ?_ (K _ hA F (hk.adr (fun i hi => hA i (Or.inr hi))) ls H1 locs (by rw [hA.L hs.1]; exact hl) ⟨by rw [hw]; exact hP, by rw [hw]; exact hD⟩ hS1)
  simp only [List.map_cons, hA.st hs.2]
  show _ = F0 m (pc + 3) ls (.ref (put1 adr h.length q h.length) :: _)
  rw [put1_at]
theorem aw_newa {z : Int32} {kd N : Nat} {atype : ArrayType} {ty : FieldType} {a0 : vp_A} (hd : decode cc pc = .ok (.newarray atype, 2)) (hwd : Cond.arrayClass ty ∈ lw_good) (hat : newarray.typeOf atype = ty) (hkd : (kd = 0 ∧ ty = .int) ∨ (kd = 1 ∧ ty = .long)) (ha : ∀ cA : ClassId, vp_cell cA a0 = arrV cA N (fun _ => defaultValue ty)) (hta : ∀ a, tA a a0 = a0) (hz : ¬ z < 0) (hzN : z.toNatClampNeg = N) (hby : N * componentBytes ty ≤ 536870912) (hkn : k + 1 ≤ R.cells ∧ n + N ≤ R.slots) {N0 : Nat} (hN0 : h.length = N0) (hN : N0 < 1000) (hh : okh h = true) (hs : okl N0 L st = true)
    (K : ∀ a, Agr N0 a adr → AW X cc nL own R Qm (k + 1) (n + N) a (h ++ [.inl (kd, a0)]) (pc + 2) L (.ref N0 :: st)) : AW X cc nL own R Qm k n adr h pc L (.int z :: st) := by
  obtain ⟨p, l, e, s, m, args, below, meth, c, G⟩ := X
  subst hN0
  intro F hk ls H locs hl hR hS
  simp only [okl, Bool.and_eq_true] at hs
  refine va_newa (atype := atype) F.1 F.2.1 (by rw [hat]; exact F.2.2.2.2.1 _ hwd) hat hk.2.1 hR.1 hR.2 hS (fun q hq => Nat.le_trans hk.1 hq) ha hz hzN hby hkn.1 hkn.2 hd (fun q cA H1 hK1 hP hD hS1 => ?_)
  have hA := put1_agr adr q hN
  have hcA : cA = G.2.1 kd := by
    have h1 := (hK1.2 3 (cA, ty) rfl).2
    rcases hkd with ⟨rfl, rfl⟩ | ⟨rfl, rfl⟩
    · have h2 := (hK1.2 0 _ rfl).2
      exact Option.some.inj (h1.symm.trans h2)
    · have h2 := (hK1.2 1 _ rfl).2
      exact Option.some.inj (h1.symm.trans h2)
  subst hcA
  have hfe : tE G (put1 adr h.length q) (.inl (kd, a0)) = .inl (G.2.1 kd, a0) := by
    show Sum.inl (G.2.1 kd, _) = Sum.inl (G.2.1 kd, _)
    rw [hta]
  have hw := push_w (G := G) (e := .inl (kd, a0)) (q := q) hN hh hfe
  refine W.eq ?_ (K _ hA F (hk.adr (fun i hi => hA i (Or.inr hi))) ls H1 locs (by rw [hA.L hs.1]; exact hl) ⟨by rw [hw]; exact hP, by rw [hw]; exact hD⟩ hS1)
  simp only [List.map_cons, hA.st hs.2]
  show _ = F0 m (pc + 2) ls (.ref (put1 adr h.length q h.length) :: _)
  rw [put1_at]
theorem aw_newq {i N : Nat} {z : Int32} (hd : decode cc pc = .ok (.anewarray i, 3)) (hcl : Cond.classLink own i "StillInIt$Sheet" ∈ lw_good) (hz : ¬ z < 0) (hzN : z.toNatClampNeg = N) (hby : N * 4 ≤ 536870912) (hkn : k + 1 ≤ R.cells ∧ n + N ≤ R.slots) {N0 : Nat} (hN0 : h.length = N0) (hN : N0 < 1000) (hh : okh h = true) (hs : okl N0 L st = true)
    (K : ∀ a, Agr N0 a adr → AW X cc nL own R Qm (k + 1) (n + N) a (h ++ [.inl (2, (N, .inr (.inr (.inr (.inr (fun _ => none))))))]) (pc + 3) L (.ref N0 :: st)) : AW X cc nL own R Qm k n adr h pc L (.int z :: st) := by
  obtain ⟨p, l, e, s, m, args, below, meth, c, G⟩ := X
  subst hN0
  intro F hk ls H locs hl hR hS
  simp only [okl, Bool.and_eq_true] at hs
  refine va_newq F.1 F.2.1 F.2.2.2.1 (F.2.2.2.2.1 _ hcl) hk.2.2.2.2.2.2.2.1 hk.2.1 hR.1 hR.2 hS (fun q hq => Nat.le_trans hk.1 hq) hz hzN hby hkn.1 hkn.2 hd (fun q cA H1 hK1 hP hD hS1 => ?_)
  have hA := put1_agr adr q hN
  have hcA : cA = G.2.1 2 := by
    obtain ⟨kA, comp, -, -, -, h1⟩ := (hK1.2 3 (cA, .object "StillInIt$Sheet") rfl).2
    obtain ⟨kB, comp2, -, -, -, h2⟩ := (hK1.2 2 _ rfl).2
    exact Option.some.inj (h1.symm.trans h2)
  subst hcA
  have hfe : tE G (put1 adr h.length q) (.inl (2, (N, .inr (.inr (.inr (.inr (fun _ => none))))))) = .inl (G.2.1 2, (N, .inr (.inr (.inr (.inr (fun _ => none)))))) := by
    show Sum.inl (G.2.1 2, _) = Sum.inl (G.2.1 2, _)
    unfold tA
    congr 2
    simp
  have hw := push_w (G := G) (e := .inl (2, (N, .inr (.inr (.inr (.inr (fun _ => none))))))) (q := q) hN hh hfe
  refine W.eq ?_ (K _ hA F (hk.adr (fun i hi => hA i (Or.inr hi))) ls H1 locs (by rw [hA.L hs.1]; exact hl) ⟨by rw [hw]; exact hP, by rw [hw]; exact hD⟩ hS1)
  simp only [List.map_cons, hA.st hs.2]
  show _ = F0 m (pc + 3) ls (.ref (put1 adr h.length q h.length) :: _)
  rw [put1_at]
theorem aw_objInit {i x : Nat} (hd : decode cc pc = .ok (.invokespecial i, 3)) (hw : Cond.methodLink own i Lib.objectInit ∈ lw_good) (hr : 1 ≤ R.frames ∧ (st.map fun v => v.category).sum + 12 ≤ R.locals) (hcat : (st.map fun v => v.category).sum ≤ 8)
    (K : AW X cc nL own R Qm k n adr h (pc + 3) L st) : AW X cc nL own R Qm k n adr h pc L (.ref x :: st) := by
  obtain ⟨p, l, e, s, m, args, below, meth, c, G⟩ := X
  intro F hk ls H locs hl hR hS
  refine W.objInit F.1 F.2.1 F.2.2.2.1 (F.2.2.2.2.1 _ hw) (F.2.2.2.2.1 _ wd_oinst) (F.2.2.2.2.1 _ wd_ocode) rfl (hl.1.trans F.2.2.1.symm) rfl hd hr.1 ?_ (K F hk ls H locs hl hR hS)
  have e1 : (F0 m pc ls (List.map (tv adr) (.ref x :: st))).monitorRoom = 0 := by
    have := lv_room (m := m) (pc := pc) (ls := ls) (rest := List.map (tv adr) (.ref x :: st)) (st := []) (by simp)
    rfl
  rw [e1, tv_cats]
  omega
theorem aw_putF {i r ci fk : Nat} {v : Value} {ty : FieldType} {h' : Hp} (hnm : (mth X).name = "<init>") (hd : decode cc pc = .ok (.putfield i, 3)) (hw : PNok own i ci fk ty) (hn : ∀ a, narrow ty (tv a v) = tv a v ∧ fits ty (tv a v) = true) (hx : pF h r ci fk v = some h') (K : AW X cc nL own R Qm k n adr h' (pc + 3) L st) : AW X cc nL own R Qm k n adr h pc L (v :: .ref r :: st) := by
  obtain ⟨p, l, e, s, m, args, below, meth, c, G⟩ := X
  intro F hk ls H locs hl hR hS
  obtain ⟨⟨C, T, N, hc, hN, hin, hlk, hT, ty0, hty, hnn⟩, hp⟩ := hw
  obtain ⟨fs, he, hlt, rfl⟩ := pF_some hx
  obtain ⟨hfin, hd0, hdc⟩ := hp C T N hc
  refine va_putF (ci := ci) (ty := ty) F.1 F.2.1 F.2.2.2.2.1 hin ty0 hty hnn F.2.2.2.1 hk.2.1 hR.1 hR.2 hS r (cW_at he) hc fk hN (F.2.2.2.2.1 _ hlk) (fun _ z => by rw [← hT]; exact z) hfin hnm hdc hd0 (hn adr).1 (hn adr).2 (by simpa using hlt) hd (fun H1 locs1 hP hD hS1 => K F hk ls H1 locs1 hl ?_ hS1)
  rw [show (List.map (tv adr) fs).set fk (tv adr v) = List.map (tv adr) (fs.set fk v) from List.map_set.symm] at hP hD
  exact ⟨by rw [← cW_set]; exact hP, by rw [← cW_set]; exact hD⟩
variable {i d b nL' mc ms : Nat} {y : MethodName} {cc' : ByteArray} {as stk : List Value} {h' : Hp}
theorem aw_ctor (hd : decode cc pc = .ok (.invokespecial i, 3)) (hm : MOk y cc' nL' none as.length) (hv : Cond.instanceMethod y ∈ lw_good) (hini : y.name = "<init>") (hw : Cond.methodLink own i y ∈ lw_good) (hr : d + 1 ≤ R.frames ∧ 8 + (nL' + 11) + 64 * d ≤ R.locals) (hkn : k + mc ≤ R.cells ∧ n + ms ≤ R.slots) (hcat : (st.map fun v => v.category).sum ≤ 8) (hst : stk = as.reverse ++ .ref b :: st) {N0 : Nat} (hs : okl N0 L st = true) (M : MtQ d mc ms y cc' nL' none (.ref b :: as) h (Qn N0 h'))
    (K : ∀ a, Agr N0 a adr → AW X cc nL own R Qm (k + mc) (n + ms) a h' (pc + 3) L st) : AW X cc nL own R Qm k n adr h pc L stk := by
  obtain ⟨p, l, e, s, m, args, below, meth, c, G⟩ := X
  intro F hk ls H locs hl hR hS
  simp only [okl, Bool.and_eq_true] at hs
  subst hst
  have hcb : CallB R s args own i y cc' nL' none (.code y cc' nL' none :: lw_good) (rmd d mc ms) mc ms as.length := callB_of as.length F.2.2.2.2.1 (code_goodIn hm.1) rfl rfl rfl (F.2.2.2.2.1 _ hm.2.1) (F.2.2.2.2.1 _ hw) ⟨hm.2.2.1, hm.2.2.2.1, hm.2.2.2.2⟩ hr
  refine aw_of_run (rest := st.map (tv adr)) (va_runI (As := as.map (tv adr)) (b := adr b) ⟨F.1, F.2.1, F.2.2.1, F.2.2.2.1, F.2.2.2.2.1⟩ (M l G adr) ⟨hcb, hini, F.2.2.2.2.1 _ hv⟩ ⟨pc_blind, fun U hU hW => ⟨rfl, hk.go hS hW hU, by rw [hU]; exact hR⟩⟩ rfl (by simp) hl.1 (by simp [tv]) (lv_room (by rw [tv_cats]; exact hcat)) hd hkn) hS (fun a r0 h0 hq H1 locs1 hR1 hS1 => ?_)
  obtain ⟨hA, rfl, rfl⟩ := hq
  have hA : Agr N0 a adr := hA
  refine W.eq ?_ (K a hA F (hk.adr (fun i hi => hA i (Or.inr hi))) ls H1 locs1 (by rw [hA.L hs.1]; exact hl) hR1 hS1)
  rw [hA.st hs.2]
  rfl
theorem aw_ctorN {host : String} (hd : decode cc pc = .ok (.invokespecial i, 3)) (hm : MOk y cc' nL' none as.length) (hv : Cond.instanceMethod y ∈ lw_good) (hini : y.name = "<init>") (hw : (own, i, y, host) ∈ nestM) (hr : d + 1 ≤ R.frames ∧ 8 + (nL' + 11) + 64 * d ≤ R.locals) (hkn : k + mc ≤ R.cells ∧ n + ms ≤ R.slots) (hcat : (st.map fun v => v.category).sum ≤ 8) (hst : stk = as.reverse ++ .ref b :: st) {N0 : Nat} (hs : okl N0 L st = true) (M : MtQ d mc ms y cc' nL' none (.ref b :: as) h (Qn N0 h'))
    (K : ∀ a, Agr N0 a adr → AW X cc nL own R Qm (k + mc) (n + ms) a h' (pc + 3) L st) : AW X cc nL own R Qm k n adr h pc L stk := by
  obtain ⟨p, l, e, s, m, args, below, meth, c, G⟩ := X
  intro F hk ls H locs hl hR hS
  simp only [okl, Bool.and_eq_true] at hs
  subst hst
  have hcb := va_cnB (R := R) (rm := rmd d mc ms) (mc := mc) (ms := ms) as.length F.2.2.2.2.1 (code_goodIn hm.1) rfl rfl rfl (hk.2.2.1 _ hw) (F.2.2.2.2.1 _ hm.2.1) ⟨hm.2.2.1, hm.2.2.2.1, hm.2.2.2.2⟩ hr
  refine aw_of_run (rest := st.map (tv adr)) (va_runIN (As := as.map (tv adr)) (b := adr b) ⟨F.1, F.2.1, F.2.2.1, F.2.2.2.1, F.2.2.2.2.1⟩ (M l G adr) ⟨hcb, hini, F.2.2.2.2.1 _ hv⟩ ⟨pc_blind, fun U hU hW => ⟨rfl, hk.go hS hW hU, by rw [hU]; exact hR⟩⟩ rfl (by simp) hl.1 (by simp [tv]) (lv_room (by rw [tv_cats]; exact hcat)) hd hkn) hS (fun a r0 h0 hq H1 locs1 hR1 hS1 => ?_)
  obtain ⟨hA, rfl, rfl⟩ := hq
  have hA : Agr N0 a adr := hA
  refine W.eq ?_ (K a hA F (hk.adr (fun i hi => hA i (Or.inr hi))) ls H1 locs1 (by rw [hA.L hs.1]; exact hl) hR1 hS1)
  rw [hA.st hs.2]
  rfl
end AWM
