/-! THE LIGHT JUDGEMENT: one abstract heap (a list of cells whose references are places of that list), kept beside the machine's by one map of addresses; whole-world contracts, no splitting of worlds. -/
abbrev Ae : Type := (Nat × vp_A) ⊕ (Nat × List Value)
abbrev Hp : Type := List Ae
/-- classes' numbers and slots; array classes by kind; the first address that is ours -/
abbrev Gx : Type := va_G × (Nat → ClassId) × Nat
def tv (adr : Nat → Nat) (v : Value) : Value := match v with
  | .ref i => .ref (adr i)
  | w => w
def tA (adr : Nat → Nat) (a : vp_A) : vp_A := (a.1, match a.2 with
  | .inl f => .inl f
  | .inr (.inl f) => .inr (.inl f)
  | .inr (.inr (.inl f)) => .inr (.inr (.inl f))
  | .inr (.inr (.inr (.inl f))) => .inr (.inr (.inr (.inl f)))
  | .inr (.inr (.inr (.inr f))) => .inr (.inr (.inr (.inr (fun j => if j < a.1 then (f j).map adr else none)))))
def tE (G : Gx) (adr : Nat → Nat) (e : Ae) : va_E := match e with
  | .inl (k, a) => .inl (G.2.1 k, tA adr a)
  | .inr (c, fs) => .inr (c, fs.map (tv adr))
def cW (G : Gx) (adr : Nat → Nat) (h : Hp) : va_W := h.mapIdx (fun i e => (adr i, tE G adr e))
theorem cW_at {G : Gx} {adr : Nat → Nat} {h : Hp} {i : Nat} {e : Ae} (he : h[i]? = some e) : (cW G adr h)[i]? = some (adr i, tE G adr e) := by
  simp [cW, List.getElem?_mapIdx, he]
theorem cW_set {G : Gx} {adr : Nat → Nat} {h : Hp} {i : Nat} {e : Ae} : (cW G adr h).set i (adr i, tE G adr e) = cW G adr (h.set i e) := by
  apply List.ext_getElem?
  intro j
  simp only [cW, List.getElem?_set, List.getElem?_mapIdx, List.length_mapIdx]
  by_cases hij : i = j
  · subst hij
    by_cases hl : i < h.length
    · simp [hl]
    · simp [hl]
  · simp [hij]
theorem tv_cat (adr : Nat → Nat) (v : Value) : (tv adr v).category = v.category := by cases v <;> rfl
def tL (adr : Nat → Nat) (L : List (Nat × Value)) : List (Nat × Value) := L.map (fun q => (q.1, tv adr q.2))
theorem tL_at {adr : Nat → Nat} {L : List (Nat × Value)} {j i : Nat} {v : Value} (h : L[j]? = some (i, v)) : (tL adr L)[j]? = some (i, tv adr v) := by
  simp [tL, h]
theorem tL_st1 {adr : Nat → Nat} {L L' : List (Nat × Value)} {i : Nat} {v : Value} (h : (i, v) :: L.filter (fun q => !(q.1 == i) && !(q.1 + 1 == i && q.2.category == 2)) = L') : (i, tv adr v) :: (tL adr L).filter (fun q => !(q.1 == i) && !(q.1 + 1 == i && q.2.category == 2)) = tL adr L' := by
  subst h
  simp only [tL, List.map_cons, List.filter_map]
  congr 2
  apply List.filter_congr
  intro q _
  simp [tv_cat]
theorem tL_st2 {adr : Nat → Nat} {L L' : List (Nat × Value)} {i : Nat} {v : Value} (h : (i, v) :: L.filter (fun q => !(q.1 == i) && (!(q.1 == i + 1) && !(q.1 + 1 == i && q.2.category == 2))) = L') : (i, tv adr v) :: (tL adr L).filter (fun q => !(q.1 == i) && (!(q.1 == i + 1) && !(q.1 + 1 == i && q.2.category == 2))) = tL adr L' := by
  subst h
  simp only [tL, List.map_cons, List.filter_map]
  congr 2
  apply List.filter_congr
  intro q _
  simp [tv_cat]
theorem tL_sub {adr : Nat → Nat} {L L' : List (Nat × Value)} {ls : Array Slot} {nL : Nat} (h : lv_has ls nL (tL adr L)) (ks : List Nat) (hk : ks.map (fun k => L[k]?) = L'.map some) : lv_has ls nL (tL adr L') := by
  refine ⟨h.1, h.2.1, fun q hq => ?_⟩
  simp only [tL, List.mem_map] at hq
  obtain ⟨x, hx, rfl⟩ := hq
  have h1 : some x ∈ L'.map some := List.mem_map_of_mem hx
  rw [← hk] at h1
  obtain ⟨k, -, hk2⟩ := List.mem_map.mp h1
  have h2 : x ∈ L := List.mem_of_getElem? hk2
  exact h.2.2 (x.1, tv adr x.2) (List.mem_map.mpr ⟨x, h2, rfl⟩)
def Aq (G : Gx) : Nat → Prop := fun q => G.2.2 ≤ q
/-- static tables of our own: name, three numbers -/
def statT : List (String × List Int32) := [("WON", [1, 2, 3]), ("DRAWN", [0, 1, 1]), ("LEAST", [1, 2, 2]), ("FIRST_RESULT", [1, 0, 0])]
/-- what holds of a state beside its heap's own cells: tables, nest words, static tables, the texts of constants -/
def KK (G : Gx) (adr : Nat → Nat) (U : State) : Prop :=
  G.2.2 ≤ U.heap.size ∧ va_K G.1 vwCl [(G.2.1 0, .int), (G.2.1 1, .long), (G.2.1 2, .object "StillInIt$Sheet")] U ∧ (∀ w ∈ nestM, va_Nw (.methodLinkNest w.1 w.2.1 w.2.2.1 w.2.2.2) U) ∧ (∀ w ∈ nestF, va_Nw (.fieldLinkNest w.1 w.2.1 w.2.2.1 w.2.2.2.1 w.2.2.2.2.1 w.2.2.2.2.2) U) ∧
  (∀ (k : Nat) (q : String × List Int32), statT[k]? = some q → va_Z "StillInIt" q.1 "[I" (.ref (adr (1000 + k))) (Aq G) U U.heap ∧ va_T .int (adr (1000 + k)) 3 (fun j => .int (q.2.getD j 0)) (Aq G) U U.heap) ∧
  (∀ w ∈ strR, vk_R w.1 w.2.1 w.2.2.1 (adr (1010 + w.2.2.2)) U) ∧
  vk_S 5 [4, 5, 4, 3, 4] strB (fun i => adr (1010 + i)) (fun i => adr (1020 + i)) (Aq G) U U.heap ∧ va_AO "StillInIt$Sheet" U ∧ va_Z "java/lang/String" "COMPACT_STRINGS" "Z" (.int 1) (Aq G) U U.heap ∧ (va_Z "jdk/internal/util/Preconditions" "SIOOBE_FORMATTER" "Ljava/util/function/BiFunction;" .null (Aq G) U U.heap ∨ va_Z "jdk/internal/util/Preconditions" "SIOOBE_FORMATTER" "Ljava/util/function/BiFunction;" (.ref (adr 1031)) (Aq G) U U.heap)
theorem KK.calling {G : Gx} {adr : Nat → Nat} {U : State} (a : Array Value) (g : JFrame) (mk : MethodId) (h : KK G adr U) : KK G adr (U.calling g mk a) := by
  obtain ⟨h0, h1, h2, h3, h4, h5, h6, h7, h8, h9⟩ := h
  have hv : U.vm.Alike (U.calling g mk a).vm := Vm.Alike.refl _
  refine ⟨h0, va_K.moved hv h1, fun w hw => va_Nw.same rfl (u := U) rfl (h2 w hw), fun w hw => va_Nw.same rfl (u := U) rfl (h3 w hw), fun k q hq => ⟨va_Z.moved hv (h4 k q hq).1, va_T.moved hv (h4 k q hq).2⟩, fun w hw => vk_R.same (u := U) rfl (h5 w hw), vk_S.moved hv h6, va_AO.moved hv h7, va_Z.moved hv h8, h9.elim (fun q => Or.inl (va_Z.moved hv q)) (fun q => Or.inr (va_Z.moved hv q))⟩
theorem KK.go {G : Gx} {adr : Nat → Nat} {s U : State} {H : Heap} {locs : List Loc} (h : KK G adr s) (hS : va_S (Aq G) s.heap H locs) (hW : s.WarmedH U.vm) (hU : U.heap = H) : KK G adr U := by
  obtain ⟨h0, h1, h2, h3, h4, h5, h6, h7, h8, h9⟩ := h
  have hv : s.vm.Alike U.vm := hW.alike
  have hk : ∀ a : Nat, a < s.heap.size → ¬ Aq G a → U.heap[a]? = s.heap[a]? := fun a h1 h2 => by rw [hU]; exact hS.2.1 a h1 h2
  refine ⟨by rw [hU]; exact Nat.le_trans h0 hS.1, va_K.moved hv h1, fun w hw => va_Nw.warmM hW (h2 w hw), fun w hw => va_Nw.warmF hW (h3 w hw), fun k q hq => ⟨va_Z.kept (va_Z.moved hv (h4 k q hq).1) hk, va_T.kept (va_T.moved hv (h4 k q hq).2) hk⟩, fun w hw => vk_R.warm hW (h5 w hw), vk_S.kept (vk_S.moved hv h6) hk, va_AO.moved hv h7, va_Z.kept (va_Z.moved hv h8) hk, h9.elim (fun q => Or.inl (va_Z.kept (va_Z.moved hv q) hk)) (fun q => Or.inr (va_Z.kept (va_Z.moved hv q) hk))⟩
theorem KK.adr {G : Gx} {adr adr' : Nat → Nat} {U : State} (h : KK G adr U) (he : ∀ i, 1000 ≤ i → adr' i = adr i) : KK G adr' U := by
  have e1 : ∀ k, adr' (1000 + k) = adr (1000 + k) := fun k => he _ (by omega)
  have e2 : ∀ k, adr' (1010 + k) = adr (1010 + k) := fun k => he _ (by omega)
  have e3 : ∀ k, adr' (1020 + k) = adr (1020 + k) := fun k => he _ (by omega)
  have e4 : adr' 1031 = adr 1031 := he _ (by omega)
  unfold KK at h ⊢
  simp only [e1, e2, e3, e4]
  exact h
/-- the abstract heap stands in the machine's -/
def RH (G : Gx) (adr : Nat → Nat) (h : Hp) (H : Heap) : Prop := va_P G.1 vwCl (cW G adr h) H ∧ va_D (Aq G) (cW G adr h)
abbrev Cx : Type := Program × Launch × Env × State × MethodId × Array Value × List Frame × Method × Code × Gx
/-- what is fixed while a method runs -/
def Fx (X : Cx) (cc : ByteArray) (nL : Nat) (own : String) : Prop := match X with
  | (p, _, _, s, m, args, _, meth, c, _) => p.tables.exec = Jvm.exec ∧ c.code = cc ∧ c.maxLocals = nL ∧ s.vm.findClass own = some m.cls ∧ (∀ w ∈ lw_good, w.before args s = true) ∧ meth.locks = false
/-- the machine, at this place of this method, with these locals, this stack and this heap, comes to Qm -/
def AW (X : Cx) (cc : ByteArray) (nL : Nat) (own : String) (R : Room) (Qm : State → Prop) (k n : Nat) (adr : Nat → Nat) (h : Hp) (pc : Nat) (L : List (Nat × Value)) (st : List Value) : Prop := match X with
  | (p, l, e, s, m, args, below, meth, c, G) => Fx X cc nL own → KK G adr s → ∀ (ls : Array Slot) (H : Heap) (locs : List Loc), lv_has ls nL (tL adr L) → RH G adr h H → va_S (Aq G) s.heap H locs → W p l e R s m args below meth c H locs k n Qm (F0 m pc ls (st.map (tv adr)))
