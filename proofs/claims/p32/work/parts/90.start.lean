/-- the tables' words at the start: array types, static tables, texts -/
theorem st_arr {args : Array Value} {s : State} {ty : FieldType} (h : (Cond.arrayClass ty).before args s = true) (ht : ∀ cA, s.vm.findClass ("[" ++ ty.toString) = some cA → va_RA s cA ty) : ∃ cA : ClassId, ArrOfT s cA ty ∧ va_RA s cA ty := by
  obtain ⟨cA, kA, comp, h1, h2, h3⟩ := Cond.arrayClass_spec (args := args) (first := s) (o := none) (s := s) (idx := []) h
  exact ⟨cA, fun n z => ⟨fun k h => (by cases h), kA, h2, comp, h3⟩, ht cA h1⟩
theorem st_arrq {args : Array Value} {s : State} {C : String} (h : (Cond.arrayOver (.object C)).before args s = true) : ∃ cA : ClassId, ArrOfT s cA (.object C) ∧ va_RA s cA (.object C) := by
  obtain ⟨comp, cA, kA, h1, -, h2, h3, h4⟩ := Cond.arrayOver_spec (args := args) (first := s) (o := none) (s := s) (idx := []) h
  exact ⟨cA, fun n z => ⟨fun k h => (by cases h), kA, h2, comp, h3⟩, kA, comp, h2, h3, h1, h4⟩
set_option maxRecDepth 100000 in
set_option maxHeartbeats 4000000 in
theorem whole_start {p : Program} {e : Env} {s : State} {m : MethodId} {below : List Frame} {meth : Method} {c : Code} (l : Launch) (hflags : l.flags = flags0) {b L : Nat} {xs : Nat → Int32} (hL : L ≤ 3584) (C0 : lw_At p s m meth c b L xs) : W p l e room_1 s m #[Value.ref b] below meth c s.heap [] 0 0 (lw_Z below #[Value.ref b] s) (entryFrame m ([Value.ref b] : List Value).toArray 4) := by
  obtain ⟨hx, hb, hr, hml, hown, hts, hX, hbl, hlocks, hgv⟩ := id C0
  have hgo : ∀ w ∈ lw_good, w.before #[Value.ref b] s = true := fun w hw => hts w (List.mem_filter.mp hw).1
  have hfl := flat_of_before _ hgv
  have hAo : ∀ a : Nat, a < s.heap.size → ¬ (fun q : Nat => s.heap.size ≤ q) a := fun a h => Nat.not_le.mpr h
  obtain ⟨c0, i0, hn0⟩ := u_known (C := RX0) (T := TX0) (N := 10) (n := 10) hgo inlX0 (hgo _ wiX0)
  obtain ⟨c1, i1, hn1⟩ := u_known (C := RX1) (T := TX1) (N := 9) (n := 9) hgo inlX1 (hgo _ wiX1)
  obtain ⟨c2, i2, hn2⟩ := u_known (C := RX2) (T := TX2) (N := 3) (n := 3) hgo inlX2 (hgo _ wiX2)
  obtain ⟨c3, i3, hn3⟩ := u_known (C := RX3) (T := TX3) (N := 5) (n := 5) hgo inlX3 (hgo _ wiX3)
  obtain ⟨c4, i4, hn4⟩ := u_known (C := RX4) (T := TX4) (N := 5) (n := 5) hgo inlX4 (hgo _ wiX4)
  obtain ⟨c5, i5, hn5⟩ := u_known (C := RX5) (T := TX5) (N := 5) (n := 5) hgo inlX5 (hgo _ wiX5)
  obtain ⟨c6, i6, hn6⟩ := u_known (C := RX6) (T := TX6) (N := 10) (n := 10) hgo inlX6 (hgo _ wiX6)
  obtain ⟨c7, i7, hn7⟩ := u_known (C := RX7) (T := TX7) (N := 21) (n := 21) hgo inlX7 (hgo _ wiX7)
  obtain ⟨dC, dI, hKc⟩ : ∃ (dC : Nat → ClassId) (dI : Nat → Nat → Nat), ∀ (k : Nat) (q : vw_C), vwCl[k]? = some q → u_Kn s q.1 q.2.1 q.2.2 (dC k) (dI k) := by
    refine ⟨fun k => if k = 0 then c0 else if k = 1 then c1 else if k = 2 then c2 else if k = 3 then c3 else if k = 4 then c4 else if k = 5 then c5 else if k = 6 then c6 else c7, fun k => if k = 0 then i0 else if k = 1 then i1 else if k = 2 then i2 else if k = 3 then i3 else if k = 4 then i4 else if k = 5 then i5 else if k = 6 then i6 else i7, ?_⟩
    intro k q hq
    match k, hq with
    | 0, hq => cases hq; exact hn0
    | 1, hq => cases hq; exact hn1
    | 2, hq => cases hq; exact hn2
    | 3, hq => cases hq; exact hn3
    | 4, hq => cases hq; exact hn4
    | 5, hq => cases hq; exact hn5
    | 6, hq => cases hq; exact hn6
    | 7, hq => cases hq; exact hn7
    | k + 8, hq => simp [vwCl] at hq
  obtain ⟨tI, hI1, hI2⟩ := st_arr (hgo _ wa_int) (fun _ h => h)
  obtain ⟨tJ, hJ1, hJ2⟩ := st_arr (hgo _ wa_long) (fun _ h => h)
  have hao : (Cond.arrayOver (.object "StillInIt$Sheet")).before #[Value.ref b] s = true := hts _ (List.mem_of_getElem? (i := 254) (by decide +kernel))
  obtain ⟨tQ, hQ1, hQ2⟩ := st_arrq hao
  obtain ⟨z0, hz0, hT0⟩ := va_Tof (tm := .static "StillInIt" "WON" "[I") (ty := .int) (N := 3) (f := fun j => .int (([1, 2, 3] : List Int32).getD j 0)) (A := fun q : Nat => s.heap.size ≤ q) (by decide) (hfl _ (by decide +kernel)) (va_eqt (hfl (Cond.eq (.length (.static "StillInIt" "WON" "[I")) (.int 3)) (by decide +kernel))) (fun j hj => by
    match j, hj with
    | 0, _ => exact va_eqt (hfl (Cond.eq (.elem (.static "StillInIt" "WON" "[I") (.int 0)) (.int 1)) (by decide +kernel))
    | 1, _ => exact va_eqt (hfl (Cond.eq (.elem (.static "StillInIt" "WON" "[I") (.int 1)) (.int 2)) (by decide +kernel))
    | 2, _ => exact va_eqt (hfl (Cond.eq (.elem (.static "StillInIt" "WON" "[I") (.int 2)) (.int 3)) (by decide +kernel))
    | j + 3, hj => exact absurd hj (by omega)) hAo
  have hZ0 := va_Zref (A := fun q : Nat => s.heap.size ≤ q) (hts (.laysStatic "StillInIt" "WON" "[I") (List.mem_of_getElem? (i := 521) (by decide +kernel))) (hgo _ wnX6) hz0 hAo
  obtain ⟨z1, hz1, hT1⟩ := va_Tof (tm := .static "StillInIt" "DRAWN" "[I") (ty := .int) (N := 3) (f := fun j => .int (([0, 1, 1] : List Int32).getD j 0)) (A := fun q : Nat => s.heap.size ≤ q) (by decide) (hfl _ (by decide +kernel)) (va_eqt (hfl (Cond.eq (.length (.static "StillInIt" "DRAWN" "[I")) (.int 3)) (by decide +kernel))) (fun j hj => by
    match j, hj with
    | 0, _ => exact va_eqt (hfl (Cond.eq (.elem (.static "StillInIt" "DRAWN" "[I") (.int 0)) (.int 0)) (by decide +kernel))
    | 1, _ => exact va_eqt (hfl (Cond.eq (.elem (.static "StillInIt" "DRAWN" "[I") (.int 1)) (.int 1)) (by decide +kernel))
    | 2, _ => exact va_eqt (hfl (Cond.eq (.elem (.static "StillInIt" "DRAWN" "[I") (.int 2)) (.int 1)) (by decide +kernel))
    | j + 3, hj => exact absurd hj (by omega)) hAo
  have hZ1 := va_Zref (A := fun q : Nat => s.heap.size ≤ q) (hts (.laysStatic "StillInIt" "DRAWN" "[I") (List.mem_of_getElem? (i := 519) (by decide +kernel))) (hgo _ wnX6) hz1 hAo
  obtain ⟨z2, hz2, hT2⟩ := va_Tof (tm := .static "StillInIt" "LEAST" "[I") (ty := .int) (N := 3) (f := fun j => .int (([1, 2, 2] : List Int32).getD j 0)) (A := fun q : Nat => s.heap.size ≤ q) (by decide) (hfl _ (by decide +kernel)) (va_eqt (hfl (Cond.eq (.length (.static "StillInIt" "LEAST" "[I")) (.int 3)) (by decide +kernel))) (fun j hj => by
    match j, hj with
    | 0, _ => exact va_eqt (hfl (Cond.eq (.elem (.static "StillInIt" "LEAST" "[I") (.int 0)) (.int 1)) (by decide +kernel))
    | 1, _ => exact va_eqt (hfl (Cond.eq (.elem (.static "StillInIt" "LEAST" "[I") (.int 1)) (.int 2)) (by decide +kernel))
    | 2, _ => exact va_eqt (hfl (Cond.eq (.elem (.static "StillInIt" "LEAST" "[I") (.int 2)) (.int 2)) (by decide +kernel))
    | j + 3, hj => exact absurd hj (by omega)) hAo
  have hZ2 := va_Zref (A := fun q : Nat => s.heap.size ≤ q) (hts (.laysStatic "StillInIt" "LEAST" "[I") (List.mem_of_getElem? (i := 587) (by decide +kernel))) (hgo _ wnX6) hz2 hAo
  obtain ⟨z3, hz3, hT3⟩ := va_Tof (tm := .static "StillInIt" "FIRST_RESULT" "[I") (ty := .int) (N := 3) (f := fun j => .int (([1, 0, 0] : List Int32).getD j 0)) (A := fun q : Nat => s.heap.size ≤ q) (by decide) (hfl _ (by decide +kernel)) (va_eqt (hfl (Cond.eq (.length (.static "StillInIt" "FIRST_RESULT" "[I")) (.int 3)) (by decide +kernel))) (fun j hj => by
    match j, hj with
    | 0, _ => exact va_eqt (hfl (Cond.eq (.elem (.static "StillInIt" "FIRST_RESULT" "[I") (.int 0)) (.int 1)) (by decide +kernel))
    | 1, _ => exact va_eqt (hfl (Cond.eq (.elem (.static "StillInIt" "FIRST_RESULT" "[I") (.int 1)) (.int 0)) (by decide +kernel))
    | 2, _ => exact va_eqt (hfl (Cond.eq (.elem (.static "StillInIt" "FIRST_RESULT" "[I") (.int 2)) (.int 0)) (by decide +kernel))
    | j + 3, hj => exact absurd hj (by omega)) hAo
  have hZ3 := va_Zref (A := fun q : Nat => s.heap.size ≤ q) (hts (.laysStatic "StillInIt" "FIRST_RESULT" "[I") (List.mem_of_getElem? (i := 602) (by decide +kernel))) (hgo _ wnX6) hz3 hAo
  obtain ⟨adK, adV, hSS, hev⟩ := vk_Sof (s := s) (args := #[Value.ref b]) (N := 5) (tm := fun i => .string "StillInIt" (([267, 276, 281, 286, 292] : List Nat).getD i 0)) (len := [4, 5, 4, 3, 4]) (byt := strB) (A := fun q : Nat => s.heap.size ≤ q) (by decide)
    (fun i hi => by
      match i, hi with
      | 0, _ => exact hfl _ (by decide +kernel)
      | 1, _ => exact hfl _ (by decide +kernel)
      | 2, _ => exact hfl _ (by decide +kernel)
      | 3, _ => exact hfl _ (by decide +kernel)
      | 4, _ => exact hfl _ (by decide +kernel)
      | i + 5, hi => exact absurd hi (by omega))
    (fun i hi => by
      match i, hi with
      | 0, _ => exact hfl _ (by decide +kernel)
      | 1, _ => exact hfl _ (by decide +kernel)
      | 2, _ => exact hfl _ (by decide +kernel)
      | 3, _ => exact hfl _ (by decide +kernel)
      | 4, _ => exact hfl _ (by decide +kernel)
      | i + 5, hi => exact absurd hi (by omega))
    (fun i hi => by
      match i, hi with
      | 0, _ => exact hfl _ (by decide +kernel)
      | 1, _ => exact hfl _ (by decide +kernel)
      | 2, _ => exact hfl _ (by decide +kernel)
      | 3, _ => exact hfl _ (by decide +kernel)
      | 4, _ => exact hfl _ (by decide +kernel)
      | i + 5, hi => exact absurd hi (by omega))
    (fun i hi => by
      match i, hi with
      | 0, _ => exact hfl _ (by decide +kernel)
      | 1, _ => exact hfl _ (by decide +kernel)
      | 2, _ => exact hfl _ (by decide +kernel)
      | 3, _ => exact hfl _ (by decide +kernel)
      | 4, _ => exact hfl _ (by decide +kernel)
      | i + 5, hi => exact absurd hi (by omega))
    (fun i hi j hj => by
      match i, hi with
      | 0, _ =>
        match j, hj with
        | 0, _ => exact hfl _ (by decide +kernel)
        | 1, _ => exact hfl _ (by decide +kernel)
        | 2, _ => exact hfl _ (by decide +kernel)
        | 3, _ => exact hfl _ (by decide +kernel)
        | j + 4, hj => exact absurd hj (by simp)
      | 1, _ =>
        match j, hj with
        | 0, _ => exact hfl _ (by decide +kernel)
        | 1, _ => exact hfl _ (by decide +kernel)
        | 2, _ => exact hfl _ (by decide +kernel)
        | 3, _ => exact hfl _ (by decide +kernel)
        | 4, _ => exact hfl _ (by decide +kernel)
        | j + 5, hj => exact absurd hj (by simp)
      | 2, _ =>
        match j, hj with
        | 0, _ => exact hfl _ (by decide +kernel)
        | 1, _ => exact hfl _ (by decide +kernel)
        | 2, _ => exact hfl _ (by decide +kernel)
        | 3, _ => exact hfl _ (by decide +kernel)
        | j + 4, hj => exact absurd hj (by simp)
      | 3, _ =>
        match j, hj with
        | 0, _ => exact hfl _ (by decide +kernel)
        | 1, _ => exact hfl _ (by decide +kernel)
        | 2, _ => exact hfl _ (by decide +kernel)
        | j + 3, hj => exact absurd hj (by simp)
      | 4, _ =>
        match j, hj with
        | 0, _ => exact hfl _ (by decide +kernel)
        | 1, _ => exact hfl _ (by decide +kernel)
        | 2, _ => exact hfl _ (by decide +kernel)
        | 3, _ => exact hfl _ (by decide +kernel)
        | j + 4, hj => exact absurd hj (by simp)
      | i + 5, hi => exact absurd hi (by omega))
    (fun i j hi hj hij => by
      match i, hi, j, hj, hij with
      | 0, _, 0, _, hij => exact absurd rfl hij
      | 0, _, 1, _, _ => first | exact Or.inl (hfl _ (by decide +kernel)) | exact Or.inr (hfl _ (by decide +kernel))
      | 0, _, 2, _, _ => first | exact Or.inl (hfl _ (by decide +kernel)) | exact Or.inr (hfl _ (by decide +kernel))
      | 0, _, 3, _, _ => first | exact Or.inl (hfl _ (by decide +kernel)) | exact Or.inr (hfl _ (by decide +kernel))
      | 0, _, 4, _, _ => first | exact Or.inl (hfl _ (by decide +kernel)) | exact Or.inr (hfl _ (by decide +kernel))
      | 1, _, 0, _, _ => first | exact Or.inl (hfl _ (by decide +kernel)) | exact Or.inr (hfl _ (by decide +kernel))
      | 1, _, 1, _, hij => exact absurd rfl hij
      | 1, _, 2, _, _ => first | exact Or.inl (hfl _ (by decide +kernel)) | exact Or.inr (hfl _ (by decide +kernel))
      | 1, _, 3, _, _ => first | exact Or.inl (hfl _ (by decide +kernel)) | exact Or.inr (hfl _ (by decide +kernel))
      | 1, _, 4, _, _ => first | exact Or.inl (hfl _ (by decide +kernel)) | exact Or.inr (hfl _ (by decide +kernel))
      | 2, _, 0, _, _ => first | exact Or.inl (hfl _ (by decide +kernel)) | exact Or.inr (hfl _ (by decide +kernel))
      | 2, _, 1, _, _ => first | exact Or.inl (hfl _ (by decide +kernel)) | exact Or.inr (hfl _ (by decide +kernel))
      | 2, _, 2, _, hij => exact absurd rfl hij
      | 2, _, 3, _, _ => first | exact Or.inl (hfl _ (by decide +kernel)) | exact Or.inr (hfl _ (by decide +kernel))
      | 2, _, 4, _, _ => first | exact Or.inl (hfl _ (by decide +kernel)) | exact Or.inr (hfl _ (by decide +kernel))
      | 3, _, 0, _, _ => first | exact Or.inl (hfl _ (by decide +kernel)) | exact Or.inr (hfl _ (by decide +kernel))
      | 3, _, 1, _, _ => first | exact Or.inl (hfl _ (by decide +kernel)) | exact Or.inr (hfl _ (by decide +kernel))
      | 3, _, 2, _, _ => first | exact Or.inl (hfl _ (by decide +kernel)) | exact Or.inr (hfl _ (by decide +kernel))
      | 3, _, 3, _, hij => exact absurd rfl hij
      | 3, _, 4, _, _ => first | exact Or.inl (hfl _ (by decide +kernel)) | exact Or.inr (hfl _ (by decide +kernel))
      | 4, _, 0, _, _ => first | exact Or.inl (hfl _ (by decide +kernel)) | exact Or.inr (hfl _ (by decide +kernel))
      | 4, _, 1, _, _ => first | exact Or.inl (hfl _ (by decide +kernel)) | exact Or.inr (hfl _ (by decide +kernel))
      | 4, _, 2, _, _ => first | exact Or.inl (hfl _ (by decide +kernel)) | exact Or.inr (hfl _ (by decide +kernel))
      | 4, _, 3, _, _ => first | exact Or.inl (hfl _ (by decide +kernel)) | exact Or.inr (hfl _ (by decide +kernel))
      | 4, _, 4, _, hij => exact absurd rfl hij
      | i + 5, hi, _, _, _ => exact absurd hi (by omega)
      | _, _, j + 5, hj, _ => exact absurd hj (by omega)) hAo
  have hZC : va_Z "java/lang/String" "COMPACT_STRINGS" "Z" (.int 1) (fun q : Nat => s.heap.size ≤ q) s s.heap := va_Zof (args := #[Value.ref b]) (hts (.laysStatic "java/lang/String" "COMPACT_STRINGS" "Z") (List.mem_of_getElem? (i := 350) (by decide +kernel))) (hgo _ wnJ0) (va_eqt (hfl (Cond.eq (.static "java/lang/String" "COMPACT_STRINGS" "Z") (.int 1)) (by decide +kernel))) hAo
  obtain ⟨z31, hZF⟩ : ∃ t : Nat, va_Z "jdk/internal/util/Preconditions" "SIOOBE_FORMATTER" "Ljava/util/function/BiFunction;" .null (fun q : Nat => s.heap.size ≤ q) s s.heap ∨ va_Z "jdk/internal/util/Preconditions" "SIOOBE_FORMATTER" "Ljava/util/function/BiFunction;" (.ref t) (fun q : Nat => s.heap.size ≤ q) s s.heap := by
    rcases va_Zqof (args := #[Value.ref b]) (A := fun q : Nat => s.heap.size ≤ q) (hts (.laysStatic "jdk/internal/util/Preconditions" "SIOOBE_FORMATTER" "Ljava/util/function/BiFunction;") (List.mem_of_getElem? (i := 366) (by decide +kernel))) (hgo _ wnJ3) (hfl (Cond.isRef (.static "jdk/internal/util/Preconditions" "SIOOBE_FORMATTER" "Ljava/util/function/BiFunction;")) (by decide +kernel)) hAo with z | ⟨t, z⟩
    · exact ⟨0, Or.inl z⟩
    · exact ⟨t, Or.inr z⟩
  generalize hadr : (fun i : Nat => if i = 1030 then b else if i = 1031 then z31 else if 1020 ≤ i then adV (i - 1020) else if 1010 ≤ i then adK (i - 1010) else if i = 1000 then z0 else if i = 1001 then z1 else if i = 1002 then z2 else z3) = adr
  have hb30 : adr 1030 = b := by rw [← hadr]; rfl
  have hb31 : adr 1031 = z31 := by rw [← hadr]; rfl
  have hs0 : adr (1000 + 0) = z0 := by rw [← hadr]; rfl
  have hs1 : adr (1000 + 1) = z1 := by rw [← hadr]; rfl
  have hs2 : adr (1000 + 2) = z2 := by rw [← hadr]; rfl
  have hs3 : adr (1000 + 3) = z3 := by rw [← hadr]; rfl
  have hk0 : adr (1010 + 0) = adK 0 := by rw [← hadr]; rfl
  have hk1 : adr (1010 + 1) = adK 1 := by rw [← hadr]; rfl
  have hk2 : adr (1010 + 2) = adK 2 := by rw [← hadr]; rfl
  have hk3 : adr (1010 + 3) = adK 3 := by rw [← hadr]; rfl
  have hk4 : adr (1010 + 4) = adK 4 := by rw [← hadr]; rfl
  have hkA : ∀ i, i < 5 → adr (1010 + i) = adK i := fun i hi => by
    match i, hi with
    | 0, _ => exact hk0
    | 1, _ => exact hk1
    | 2, _ => exact hk2
    | 3, _ => exact hk3
    | 4, _ => exact hk4
    | i + 5, hi => exact absurd hi (by omega)
  have hvA : ∀ i, i < 5 → adr (1020 + i) = adV i := fun i hi => by
    match i, hi with
    | 0, _ => rw [← hadr]; rfl
    | 1, _ => rw [← hadr]; rfl
    | 2, _ => rw [← hadr]; rfl
    | 3, _ => rw [← hadr]; rfl
    | 4, _ => rw [← hadr]; rfl
    | i + 5, hi => exact absurd hi (by omega)
  have hKK : KK ((dC, dI), (fun k => if k = 0 then tI else if k = 1 then tJ else tQ), s.heap.size) adr s := by
    refine ⟨Nat.le_refl _, ⟨hKc, fun k q h => ?_⟩, fun w hw => va_Nw.of rfl (hts _ (nestM_in w hw)), fun w hw => va_Nw.of rfl (hts _ (nestF_in w hw)), fun k q hq => ?_, fun w hw => ?_, ?_, va_AO.of hao, hZC, by rw [hb31]; exact hZF⟩
    · match k, h with
      | 0, h => cases h; exact ⟨hI1, hI2⟩
      | 1, h => cases h; exact ⟨hJ1, hJ2⟩
      | 2, h => cases h; exact ⟨hQ1, hQ2⟩
      | k + 3, h => simp at h
    · match k, hq with
      | 0, hq => cases hq; rw [hs0]; exact ⟨hZ0, hT0⟩
      | 1, hq => cases hq; rw [hs1]; exact ⟨hZ1, hT1⟩
      | 2, hq => cases hq; rw [hs2]; exact ⟨hZ2, hT2⟩
      | 3, hq => cases hq; rw [hs3]; exact ⟨hZ3, hT3⟩
      | k + 4, hq => simp [statT] at hq
    · simp only [strR, List.mem_cons, List.not_mem_nil, or_false] at hw
      rcases hw with rfl | rfl | rfl | rfl | rfl | rfl | rfl | rfl | rfl | rfl
      · rw [hk0]; exact vk_R.of (A := #[Value.ref b]) (hts _ (strR_in ("StillInIt", 267, "team", 0) (by decide +kernel))) (hev 0 (by decide))
      · rw [hk0]; exact vk_R.of (A := #[Value.ref b]) (hts _ (strR_in ("StillInIt$Tape", 49, "team", 0) (by decide +kernel))) (by first | exact va_eqR (args := #[Value.ref b]) (hfl (Cond.eq (.string "StillInIt" 267) (.string "StillInIt$Tape" 49)) (by decide +kernel)) (hev 0 (by decide)) | exact va_eqv (args := #[Value.ref b]) (hfl (Cond.eq (.string "StillInIt$Tape" 49) (.string "StillInIt" 267)) (by decide +kernel)) (hev 0 (by decide)))
      · rw [hk1]; exact vk_R.of (A := #[Value.ref b]) (hts _ (strR_in ("StillInIt$Tape", 55, "start", 1) (by decide +kernel))) (by first | exact va_eqR (args := #[Value.ref b]) (hfl (Cond.eq (.string "StillInIt" 276) (.string "StillInIt$Tape" 55)) (by decide +kernel)) (hev 1 (by decide)) | exact va_eqv (args := #[Value.ref b]) (hfl (Cond.eq (.string "StillInIt$Tape" 55) (.string "StillInIt" 276)) (by decide +kernel)) (hev 1 (by decide)))
      · rw [hk2]; exact vk_R.of (A := #[Value.ref b]) (hts _ (strR_in ("StillInIt$Tape", 57, "game", 2) (by decide +kernel))) (by first | exact va_eqR (args := #[Value.ref b]) (hfl (Cond.eq (.string "StillInIt" 281) (.string "StillInIt$Tape" 57)) (by decide +kernel)) (hev 2 (by decide)) | exact va_eqv (args := #[Value.ref b]) (hfl (Cond.eq (.string "StillInIt$Tape" 57) (.string "StillInIt" 281)) (by decide +kernel)) (hev 2 (by decide)))
      · rw [hk3]; exact vk_R.of (A := #[Value.ref b]) (hts _ (strR_in ("StillInIt$Tape", 59, "won", 3) (by decide +kernel))) (by first | exact va_eqR (args := #[Value.ref b]) (hfl (Cond.eq (.string "StillInIt" 286) (.string "StillInIt$Tape" 59)) (by decide +kernel)) (hev 3 (by decide)) | exact va_eqv (args := #[Value.ref b]) (hfl (Cond.eq (.string "StillInIt$Tape" 59) (.string "StillInIt" 286)) (by decide +kernel)) (hev 3 (by decide)))
      · rw [hk4]; exact vk_R.of (A := #[Value.ref b]) (hts _ (strR_in ("StillInIt$Tape", 61, "drew", 4) (by decide +kernel))) (by first | exact va_eqR (args := #[Value.ref b]) (hfl (Cond.eq (.string "StillInIt" 292) (.string "StillInIt$Tape" 61)) (by decide +kernel)) (hev 4 (by decide)) | exact va_eqv (args := #[Value.ref b]) (hfl (Cond.eq (.string "StillInIt$Tape" 61) (.string "StillInIt" 292)) (by decide +kernel)) (hev 4 (by decide)))
      · rw [hk1]; exact vk_R.of (A := #[Value.ref b]) (hts _ (strR_in ("StillInIt", 276, "start", 1) (by decide +kernel))) (hev 1 (by decide))
      · rw [hk2]; exact vk_R.of (A := #[Value.ref b]) (hts _ (strR_in ("StillInIt", 281, "game", 2) (by decide +kernel))) (hev 2 (by decide))
      · rw [hk3]; exact vk_R.of (A := #[Value.ref b]) (hts _ (strR_in ("StillInIt", 286, "won", 3) (by decide +kernel))) (hev 3 (by decide))
      · rw [hk4]; exact vk_R.of (A := #[Value.ref b]) (hts _ (strR_in ("StillInIt", 292, "drew", 4) (by decide +kernel))) (hev 4 (by decide))
    · refine ⟨fun i hi => ?_, fun i j hi hj he => ?_⟩
      · simp only [hkA i hi, hvA i hi]; exact hSS.1 i hi
      · simp only [hkA i hi, hkA j hj] at he; exact hSS.2 i j hi hj he
  have hl := lv_entry ([.ref b]) (n := 4) (Nat.le_of_ble_eq_true rfl)
  rw [lg_entry_eq]
  generalize (lg_sl ([.ref b]) ++ List.replicate (4 - (lg_sl ([.ref b])).length) Slot.unset).toArray = ls at hl ⊢
  have hl : lv_has ls 4 (tL adr [(0, .ref 1030)]) := by
    show lv_has ls 4 [(0, .ref (adr 1030))]
    rw [hb30]
    exact hl
  obtain ⟨q, hf, hq⟩ := law_pure xs L hL
  refine law_start (X := (p, l, e, s, m, #[Value.ref b], below, meth, c, ((dC, dI), (fun k => if k = 0 then tI else if k = 1 then tJ else tQ), s.heap.size))) (q := q) (sl := L) (xs := xs) ?_ hf ⟨hx, hb, hml, hown, hgo, hlocks⟩ hKK ls s.heap [] hl ⟨fun k q h => by simp [cW] at h, ⟨fun i j p q h => by simp [cW] at h, fun k q h => by simp [cW] at h⟩⟩ va_S.rf
  exact ⟨⟨by decide, by decide⟩, by rw [hb30]; exact hX, by rw [hb30]; exact hbl, by rw [hb30]; exact Nat.not_le.mpr hbl, hq, rfl, hr, by rw [hb30], rfl⟩
set_option maxHeartbeats 4000000 in
theorem lw_walk (l : Launch) (hflags : l.flags = flags0) (b : Addr) (xs : List Int32) : MetFree l x (headSpec (Jvm.Cond.code x code maxLocals ret :: tables_1) room_1) (lw_P b xs) (fun _ _ _ _ _ => True) lw_Q := by
  refine MetFree.of_bodyS (code := code) (maxLocals := maxLocals) (ret := ret) (by decide) ?_ ?_
  · intro args s m h hn
    obtain ⟨meth, c, h1, h2, h3, h4, h5, h6, -, -⟩ := Cond.code_spec hn (atoms_spec (ws := Jvm.Cond.code x code maxLocals ret :: tables_1) h _ List.mem_cons_self)
    exact ⟨meth, c, h1, h2, h3, h4, h5, h6⟩
  · intro p e s m args below meth c s₁ B hml0 hP _
    obtain ⟨rfl, hx, hbd, hgv⟩ := hP
    obtain ⟨scr, harrAt, hlist, hof, hsmall⟩ := hx
    obtain ⟨hcb, hkn, -, -⟩ := State.arrayAt?_spec harrAt
    have hown : s.vm.findClass R_law = some m.cls := findClass_of_methodNamed B.named
    have hts0 : ∀ c ∈ (Jvm.Cond.code x code maxLocals ret :: tables_1), c.before #[Value.ref b] s = true := atoms_spec (ws := Jvm.Cond.code x code maxLocals ret :: tables_1) B.pre
    have hts : ∀ w ∈ lw_tbl, w.before #[Value.ref b] s = true := k2_hts_sels lw_privs (fun w hw => hts0 w (List.mem_cons_of_mem _ hw)) lw_privs_ok
    have hml : c.maxLocals = 4 := B.maxLocals_eq (hts0 _ List.mem_cons_self)
    have X₀ : Stand p l e room_1 s m #[Value.ref b] below meth c s₁ [] 0 0 := Stand.of_body B
    have hh0 : s₁.heap = s.heap := by rw [B.state]; rfl
    have hsz : scr.slots.size = xs.length := by rw [← Array.length_toList, hlist, List.length_map]
    have hval : ∀ j : Nat, j < xs.length → scr.slots[j]? = some (.int (xs.getD j 0)) := fun j hj => by
      rw [← Array.getElem?_toList, hlist]
      simp [hj]
    have hbl : b < s.heap.size := (Array.getElem?_eq_some_iff.mp hcb).1
    have hX : va_X b xs.length (fun j => xs.getD j 0) s s.heap := ⟨scr, hcb, hof, hkn, hsz, hval⟩
    have K : W p l e room_1 s m #[Value.ref b] below meth c s₁.heap [] 0 0 (lw_Z below #[Value.ref b] s) (entryFrame m ([Value.ref b] : List Value).toArray 4) := by
      rw [hh0]
      exact whole_start l hflags hbd ⟨B.exec, B.bytes, B.returns, hml, hown, hts, hX, hbl, B.notSynchronized, hgv⟩
    obtain ⟨t, a1, o, b1, b2, b3⟩ := K s₁ rfl X₀
    exact ⟨t, o, a1, b1, b2, b3⟩
theorem lw_pre_spec {args : Array Value} {s : State} (h : (Jvm.Cond.and given_1 narrow_1).before args s = true) (hr : rest_1_c.before args s = true) : ∃ (b : Addr) (xs : List Int32), lw_P b xs args s := by
  have hs := flat_of_before _ h
  have hq := flat_of_before _ hr
  have hc : (Cond.count 1).before args s = true := hs _ (by decide +kernel)
  have harr : (Cond.arrayOf (.arg 0) .int).before args s = true := hs _ (by decide +kernel)
  have hle : (Cond.le (.length (.arg 0)) (.int 3584)).before args s = true := hs _ (by decide +kernel)
  have hlen : (Cond.isInt (.length (.arg 0))).before args s = true := hq _ (by decide +kernel)
  have hall : (Cond.all (.arg 0) (.isInt (.elem (.arg 0) (.index 0)))).before args s = true := hq _ (by decide +kernel)
  obtain ⟨b, xs, hb, hx⟩ := State.ints_of_pre rfl harr hlen hall
  have hsm : xs.length < 2 ^ 31 := hx.choose_spec.2.2.2
  have hev : (Term.length (.arg 0)).eval args s none [] s = some (.int xs.length.toInt32) := hx.length_eval hb
  have hv := Cond.le_ints hev (show (Term.int 3584).eval args s none [] s = some (.int 3584) from rfl)
  have hd : xs.length.toInt32 ≤ 3584 := by
    simpa [Cond.before, Cond.holds, hv] using hle
  have hN : xs.length ≤ 3584 := (Int32.ofNat_le_ofNat hsm (by decide)).mp (show Int32.ofNat xs.length ≤ Int32.ofNat 3584 from hd)
  exact ⟨b, xs, Cond.one_arg hc (show args[0]? = some (.ref b) from hb), hx, hN, h⟩
theorem lw_comes (l : Launch) (hflags : l.flags = flags0) : Comes l x (Jvm.Cond.code x code maxLocals ret :: tables_1) room_1 (fun tb e args s => Calls_1 tb e args s ∧ rest_1 tb e args s ∧ Pre_1 tb e args s)
    (fun _ _ args s o t => lw_Q args s o t) := by
  intro p e ha hc hk s m args below hf hfit hheap happ hpre
  obtain ⟨b, xs, hP⟩ := lw_pre_spec hpre.2.2 hpre.2.1
  obtain ⟨k, o, h1, h2, h3, hQ⟩ := lw_walk l hflags b xs p e ha hc hk s m args below hf ((Spec.applies_iff_loose hf).mp happ).1 hP trivial
  exact ⟨k, o, h1, h2, h3, hQ⟩
theorem lw_frame {s t : State} {o : Outcome} {args : Array Value} (h : Framed s o t [] 600000 7302250) :
    Framed s o t (fieldLocs frame_1_writes args s ++ arrayLocs frame_1_arrays args s ++ staticLocs frame_1_statics s) 600000 7302250 := h
theorem lw_limb (L : Cond) (hL : ∀ (args : Array Value) (s t : State), L.after args s (.returned (some (.int 1))) t = true) :
    ArmFor flags0 classFile x code maxLocals ret World_1 tables_1 room_1 Calls_1 rest_1 Pre_1
      (fun tb e a s o t => postC L tb e a s o t ∧ Framed s o t (fieldLocs frame_1_writes a s ++ arrayLocs frame_1_arrays a s ++ staticLocs frame_1_statics s) 600000 7302250) := by
  intro l hflags _ _ p e ha hc hk s m args below hf hfit hheap happ hpre
  obtain ⟨k, o, h1, h2, h3, rfl, hF⟩ := lw_comes l hflags p e ha hc hk s m args below hf hfit hheap happ hpre
  exact ⟨k, _, h1, h2, h3, hL args s _, lw_frame hF⟩
theorem i_vc : Claimed_1_1 ∧ Claimed_1_2 := ⟨lw_limb limb_1_1 (fun args s t => by simp [limb_1_1, Cond.after, Cond.holds, Cond.value]), lw_limb limb_1_2 (fun args s t => Cond.after_iff.mpr (by
  first | (rw [show limb_1_2 = Cond.eq .result (.int 1) from rfl, Cond.eq_ints (x := 1) (y := 1) rfl rfl]; simp; done) | (simp [limb_1_2, Cond.value, Term.eval]; done)))⟩

