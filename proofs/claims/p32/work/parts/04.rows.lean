section AWR
variable {X : Cx} {cc : ByteArray} {nL : Nat} {own : String} {R : Room} {Qm : State → Prop} {k n : Nat} {adr : Nat → Nat} {h : Hp} {pc : Nat} {L : List (Nat × Value)} {st : List Value}

theorem aw_iadd {x y : Int32} (hd : decode cc pc = .ok (.iadd, 1)) (K : AW X cc nL own R Qm k n adr h (pc + 1) L (.int (x + y) :: st)) : AW X cc nL own R Qm k n adr h pc L (.int y :: .int x :: st) := by
  obtain ⟨p, l, e, s, m, args, below, meth, c, G⟩ := X
  intro F hk ls H locs hl hR hS
  exact lv_iadd F.1 F.2.1 hd (K F hk ls H locs hl hR hS)

theorem aw_isub {x y : Int32} (hd : decode cc pc = .ok (.isub, 1)) (K : AW X cc nL own R Qm k n adr h (pc + 1) L (.int (x - y) :: st)) : AW X cc nL own R Qm k n adr h pc L (.int y :: .int x :: st) := by
  obtain ⟨p, l, e, s, m, args, below, meth, c, G⟩ := X
  intro F hk ls H locs hl hR hS
  exact lv_isub F.1 F.2.1 hd (K F hk ls H locs hl hR hS)

theorem aw_imul {x y : Int32} (hd : decode cc pc = .ok (.imul, 1)) (K : AW X cc nL own R Qm k n adr h (pc + 1) L (.int (x * y) :: st)) : AW X cc nL own R Qm k n adr h pc L (.int y :: .int x :: st) := by
  obtain ⟨p, l, e, s, m, args, below, meth, c, G⟩ := X
  intro F hk ls H locs hl hR hS
  exact lv_imul F.1 F.2.1 hd (K F hk ls H locs hl hR hS)

theorem aw_iand {x y : Int32} (hd : decode cc pc = .ok (.iand, 1)) (K : AW X cc nL own R Qm k n adr h (pc + 1) L (.int (x &&& y) :: st)) : AW X cc nL own R Qm k n adr h pc L (.int y :: .int x :: st) := by
  obtain ⟨p, l, e, s, m, args, below, meth, c, G⟩ := X
  intro F hk ls H locs hl hR hS
  exact lv_iand F.1 F.2.1 hd (K F hk ls H locs hl hR hS)

theorem aw_ior {x y : Int32} (hd : decode cc pc = .ok (.ior, 1)) (K : AW X cc nL own R Qm k n adr h (pc + 1) L (.int (x ||| y) :: st)) : AW X cc nL own R Qm k n adr h pc L (.int y :: .int x :: st) := by
  obtain ⟨p, l, e, s, m, args, below, meth, c, G⟩ := X
  intro F hk ls H locs hl hR hS
  exact lv_ior F.1 F.2.1 hd (K F hk ls H locs hl hR hS)

theorem aw_ixor {x y : Int32} (hd : decode cc pc = .ok (.ixor, 1)) (K : AW X cc nL own R Qm k n adr h (pc + 1) L (.int (x ^^^ y) :: st)) : AW X cc nL own R Qm k n adr h pc L (.int y :: .int x :: st) := by
  obtain ⟨p, l, e, s, m, args, below, meth, c, G⟩ := X
  intro F hk ls H locs hl hR hS
  exact lv_ixor F.1 F.2.1 hd (K F hk ls H locs hl hR hS)

theorem aw_ishl {x y : Int32} (hd : decode cc pc = .ok (.ishl, 1)) (K : AW X cc nL own R Qm k n adr h (pc + 1) L (.int (x <<< (y &&& 31)) :: st)) : AW X cc nL own R Qm k n adr h pc L (.int y :: .int x :: st) := by
  obtain ⟨p, l, e, s, m, args, below, meth, c, G⟩ := X
  intro F hk ls H locs hl hR hS
  exact lv_ishl F.1 F.2.1 hd (K F hk ls H locs hl hR hS)

theorem aw_ishr {x y : Int32} (hd : decode cc pc = .ok (.ishr, 1)) (K : AW X cc nL own R Qm k n adr h (pc + 1) L (.int (x >>> (y &&& 31)) :: st)) : AW X cc nL own R Qm k n adr h pc L (.int y :: .int x :: st) := by
  obtain ⟨p, l, e, s, m, args, below, meth, c, G⟩ := X
  intro F hk ls H locs hl hR hS
  exact lv_ishr F.1 F.2.1 hd (K F hk ls H locs hl hR hS)

theorem aw_iushr {x y : Int32} (hd : decode cc pc = .ok (.iushr, 1)) (K : AW X cc nL own R Qm k n adr h (pc + 1) L (.int (ushr x y) :: st)) : AW X cc nL own R Qm k n adr h pc L (.int y :: .int x :: st) := by
  obtain ⟨p, l, e, s, m, args, below, meth, c, G⟩ := X
  intro F hk ls H locs hl hR hS
  exact lv_iushr F.1 F.2.1 hd rfl (K F hk ls H locs hl hR hS)

theorem aw_idiv {x y : Int32} (hd : decode cc pc = .ok (.idiv, 1)) (hne : ¬ y = 0) (K : AW X cc nL own R Qm k n adr h (pc + 1) L (.int (x / y) :: st)) : AW X cc nL own R Qm k n adr h pc L (.int y :: .int x :: st) := by
  obtain ⟨p, l, e, s, m, args, below, meth, c, G⟩ := X
  intro F hk ls H locs hl hR hS
  exact lv_idiv F.1 F.2.1 hd hne (K F hk ls H locs hl hR hS)

theorem aw_irem {x y : Int32} (hd : decode cc pc = .ok (.irem, 1)) (hne : ¬ y = 0) (K : AW X cc nL own R Qm k n adr h (pc + 1) L (.int (x - x / y * y) :: st)) : AW X cc nL own R Qm k n adr h pc L (.int y :: .int x :: st) := by
  obtain ⟨p, l, e, s, m, args, below, meth, c, G⟩ := X
  intro F hk ls H locs hl hR hS
  exact lv_irem F.1 F.2.1 hd hne (K F hk ls H locs hl hR hS)

theorem aw_ineg {x : Int32} (hd : decode cc pc = .ok (.ineg, 1)) (K : AW X cc nL own R Qm k n adr h (pc + 1) L (.int (-x) :: st)) : AW X cc nL own R Qm k n adr h pc L (.int x :: st) := by
  obtain ⟨p, l, e, s, m, args, below, meth, c, G⟩ := X
  intro F hk ls H locs hl hR hS
  exact lv_ineg F.1 F.2.1 hd (K F hk ls H locs hl hR hS)

theorem aw_i2l {x : Int32} (hd : decode cc pc = .ok (.i2l, 1)) (K : AW X cc nL own R Qm k n adr h (pc + 1) L (.long x.toInt64 :: st)) : AW X cc nL own R Qm k n adr h pc L (.int x :: st) := by
  obtain ⟨p, l, e, s, m, args, below, meth, c, G⟩ := X
  intro F hk ls H locs hl hR hS
  exact lv_i2l F.1 F.2.1 hd rfl (K F hk ls H locs hl hR hS)

theorem aw_i2b {x : Int32} (hd : decode cc pc = .ok (.i2b, 1)) (K : AW X cc nL own R Qm k n adr h (pc + 1) L (.int x.toInt8.toInt32 :: st)) : AW X cc nL own R Qm k n adr h pc L (.int x :: st) := by
  obtain ⟨p, l, e, s, m, args, below, meth, c, G⟩ := X
  intro F hk ls H locs hl hR hS
  exact lv_i2b F.1 F.2.1 hd rfl (K F hk ls H locs hl hR hS)

theorem aw_lcmp {x y : Int64} (hd : decode cc pc = .ok (.lcmp, 1)) (K : AW X cc nL own R Qm k n adr h (pc + 1) L (.int (lg_cmp x y) :: st)) : AW X cc nL own R Qm k n adr h pc L (.long y :: .long x :: st) := by
  obtain ⟨p, l, e, s, m, args, below, meth, c, G⟩ := X
  intro F hk ls H locs hl hR hS
  exact W.lcmp F.1 F.2.1 hd (K F hk ls H locs hl hR hS)

theorem aw_lor {x y : Int64} (hd : decode cc pc = .ok (.lor, 1)) (K : AW X cc nL own R Qm k n adr h (pc + 1) L (.long (x ||| y) :: st)) : AW X cc nL own R Qm k n adr h pc L (.long y :: .long x :: st) := by
  obtain ⟨p, l, e, s, m, args, below, meth, c, G⟩ := X
  intro F hk ls H locs hl hR hS
  exact lv_lor F.1 F.2.1 hd (K F hk ls H locs hl hR hS)

theorem aw_lshl {x : Int64} {y : Int32} (hd : decode cc pc = .ok (.lshl, 1)) (K : AW X cc nL own R Qm k n adr h (pc + 1) L (.long (x <<< (y.toInt64 &&& 63)) :: st)) : AW X cc nL own R Qm k n adr h pc L (.int y :: .long x :: st) := by
  obtain ⟨p, l, e, s, m, args, below, meth, c, G⟩ := X
  intro F hk ls H locs hl hR hS
  exact lv_lshl F.1 F.2.1 hd rfl (K F hk ls H locs hl hR hS)

theorem aw_iconst {z : Int} {v : Int32} (hd : decode cc pc = .ok (.iconst z, 1)) (hv : Int32.ofInt z = v) (K : AW X cc nL own R Qm k n adr h (pc + 1) L (.int v :: st)) : AW X cc nL own R Qm k n adr h pc L st := by
  obtain ⟨p, l, e, s, m, args, below, meth, c, G⟩ := X
  intro F hk ls H locs hl hR hS
  exact lv_iconst F.1 F.2.1 hd hv (K F hk ls H locs hl hR hS)

theorem aw_bipush {z : Int} {v : Int32} (hd : decode cc pc = .ok (.bipush z, 2)) (hv : (Int8.ofInt z).toInt32 = v) (K : AW X cc nL own R Qm k n adr h (pc + 2) L (.int v :: st)) : AW X cc nL own R Qm k n adr h pc L st := by
  obtain ⟨p, l, e, s, m, args, below, meth, c, G⟩ := X
  intro F hk ls H locs hl hR hS
  exact lv_bipush F.1 F.2.1 hd hv (K F hk ls H locs hl hR hS)

theorem aw_sipush {z : Int} {v : Int32} (hd : decode cc pc = .ok (.sipush z, 3)) (hv : (Int16.ofInt z).toInt32 = v) (K : AW X cc nL own R Qm k n adr h (pc + 3) L (.int v :: st)) : AW X cc nL own R Qm k n adr h pc L st := by
  obtain ⟨p, l, e, s, m, args, below, meth, c, G⟩ := X
  intro F hk ls H locs hl hR hS
  exact lv_sipush F.1 F.2.1 hd hv (K F hk ls H locs hl hR hS)

theorem aw_lconst {z : Fin 2} {v : Int64} (hd : decode cc pc = .ok (.lconst z, 1)) (hv : Int64.ofNat (z : Nat) = v) (K : AW X cc nL own R Qm k n adr h (pc + 1) L (.long v :: st)) : AW X cc nL own R Qm k n adr h pc L st := by
  obtain ⟨p, l, e, s, m, args, below, meth, c, G⟩ := X
  intro F hk ls H locs hl hR hS
  exact lv_lconst F.1 F.2.1 hd hv (K F hk ls H locs hl hR hS)

theorem aw_null (hd : decode cc pc = .ok (.aconst_null, 1)) (K : AW X cc nL own R Qm k n adr h (pc + 1) L (.null :: st)) : AW X cc nL own R Qm k n adr h pc L st := by
  obtain ⟨p, l, e, s, m, args, below, meth, c, G⟩ := X
  intro F hk ls H locs hl hR hS
  exact lv_null F.1 F.2.1 hd (K F hk ls H locs hl hR hS)

theorem aw_goto {off : Int} {tgt : Nat} (hd : decode cc pc = .ok (.goto off, 3)) (ht : (pc : Int) + off = (tgt : Int)) (K : AW X cc nL own R Qm k n adr h tgt L st) : AW X cc nL own R Qm k n adr h pc L st := by
  obtain ⟨p, l, e, s, m, args, below, meth, c, G⟩ := X
  intro F hk ls H locs hl hR hS
  exact lv_goto F.1 F.2.1 hd ht (K F hk ls H locs hl hR hS)

theorem aw_ifnonnull {off : Int} {tgt x : Nat} (hd : decode cc pc = .ok (.ifnonnull off, 3)) (ht : (pc : Int) + off = (tgt : Int)) (K : AW X cc nL own R Qm k n adr h tgt L st) : AW X cc nL own R Qm k n adr h pc L (.ref x :: st) := by
  obtain ⟨p, l, e, s, m, args, below, meth, c, G⟩ := X
  intro F hk ls H locs hl hR hS
  exact lv_ifnonnull F.1 F.2.1 hd ht (K F hk ls H locs hl hR hS)

theorem aw_ifnonnullN {off : Int} (hd : decode cc pc = .ok (.ifnonnull off, 3)) (K : AW X cc nL own R Qm k n adr h (pc + 3) L st) : AW X cc nL own R Qm k n adr h pc L (.null :: st) := by
  obtain ⟨p, l, e, s, m, args, below, meth, c, G⟩ := X
  intro F hk ls H locs hl hR hS
  exact lv_ifnonnullN F.1 F.2.1 hd (K F hk ls H locs hl hR hS)

theorem aw_ldc {i : Nat} {v : Int32} (hd : decode cc pc = .ok (.ldc i, 2)) (hw : Cond.constant own i v ∈ lw_good) (K : AW X cc nL own R Qm k n adr h (pc + 2) L (.int v :: st)) : AW X cc nL own R Qm k n adr h pc L st := by
  obtain ⟨p, l, e, s, m, args, below, meth, c, G⟩ := X
  intro F hk ls H locs hl hR hS
  exact lv_ldc F.1 F.2.1 F.2.2.2.1 (F.2.2.2.2.1 _ hw) hd (K F hk ls H locs hl hR hS)

theorem aw_ldcw {i : Nat} {v : Int32} (hd : decode cc pc = .ok (.ldc_w i, 3)) (hw : Cond.constant own i v ∈ lw_good) (K : AW X cc nL own R Qm k n adr h (pc + 3) L (.int v :: st)) : AW X cc nL own R Qm k n adr h pc L st := by
  obtain ⟨p, l, e, s, m, args, below, meth, c, G⟩ := X
  intro F hk ls H locs hl hR hS
  exact lv_ldcw F.1 F.2.1 F.2.2.2.1 (F.2.2.2.2.1 _ hw) hd (K F hk ls H locs hl hR hS)

theorem aw_ldc2 {i : Nat} {v : Int64} (hd : decode cc pc = .ok (.ldc2_w i, 3)) (hw : Cond.constantLong own i v ∈ lw_good) (K : AW X cc nL own R Qm k n adr h (pc + 3) L (.long v :: st)) : AW X cc nL own R Qm k n adr h pc L st := by
  obtain ⟨p, l, e, s, m, args, below, meth, c, G⟩ := X
  intro F hk ls H locs hl hR hS
  exact lv_ldc2 F.1 F.2.1 F.2.2.2.1 (F.2.2.2.2.1 _ hw) hd (K F hk ls H locs hl hR hS)

theorem aw_dup {v : Value} (hd : decode cc pc = .ok (.dup, 1)) (hv : v.category = 1) (K : AW X cc nL own R Qm k n adr h (pc + 1) L (v :: v :: st)) : AW X cc nL own R Qm k n adr h pc L (v :: st) := by
  obtain ⟨p, l, e, s, m, args, below, meth, c, G⟩ := X
  intro F hk ls H locs hl hR hS
  exact lv_dup F.1 F.2.1 hd (by rw [tv_cat]; exact hv) (K F hk ls H locs hl hR hS)

theorem aw_pop {v : Value} (hd : decode cc pc = .ok (.pop, 1)) (hv : v.category = 1) (K : AW X cc nL own R Qm k n adr h (pc + 1) L st) : AW X cc nL own R Qm k n adr h pc L (v :: st) := by
  obtain ⟨p, l, e, s, m, args, below, meth, c, G⟩ := X
  intro F hk ls H locs hl hR hS
  exact lv_pop F.1 F.2.1 hd (by rw [tv_cat]; exact hv) (K F hk ls H locs hl hR hS)

theorem aw_dup2 {v w : Value} (hd : decode cc pc = .ok (.dup2, 1)) (hv : v.category = 1) (hw : w.category = 1) (K : AW X cc nL own R Qm k n adr h (pc + 1) L (v :: w :: v :: w :: st)) : AW X cc nL own R Qm k n adr h pc L (v :: w :: st) := by
  obtain ⟨p, l, e, s, m, args, below, meth, c, G⟩ := X
  intro F hk ls H locs hl hR hS
  exact lv_dup2_11 F.1 F.2.1 hd (by rw [tv_cat]; exact hv) (by rw [tv_cat]; exact hw) (K F hk ls H locs hl hR hS)

theorem aw_iload_n {z : Fin 4} {i : Nat} {x : Int32} (j : Nat) (hd : decode cc pc = .ok (.iload_n z, 1)) (hi : (z : Nat) = i) (hj : L[j]? = some (i, .int x)) (K : AW X cc nL own R Qm k n adr h (pc + 1) L (.int x :: st)) : AW X cc nL own R Qm k n adr h pc L st := by
  obtain ⟨p, l, e, s, m, args, below, meth, c, G⟩ := X
  intro F hk ls H locs hl hR hS
  exact lv_iload_n F.1 F.2.1 hd hi (lv_at hl j (tL_at hj)) (K F hk ls H locs hl hR hS)

theorem aw_iload {i : Nat} {x : Int32} (j : Nat) (hd : decode cc pc = .ok (.iload i, 2)) (hj : L[j]? = some (i, .int x)) (K : AW X cc nL own R Qm k n adr h (pc + 2) L (.int x :: st)) : AW X cc nL own R Qm k n adr h pc L st := by
  obtain ⟨p, l, e, s, m, args, below, meth, c, G⟩ := X
  intro F hk ls H locs hl hR hS
  exact lv_iload F.1 F.2.1 hd (lv_at hl j (tL_at hj)) (K F hk ls H locs hl hR hS)

theorem aw_lload_n {z : Fin 4} {i : Nat} {x : Int64} (j : Nat) (hd : decode cc pc = .ok (.lload_n z, 1)) (hi : (z : Nat) = i) (hj : L[j]? = some (i, .long x)) (K : AW X cc nL own R Qm k n adr h (pc + 1) L (.long x :: st)) : AW X cc nL own R Qm k n adr h pc L st := by
  obtain ⟨p, l, e, s, m, args, below, meth, c, G⟩ := X
  intro F hk ls H locs hl hR hS
  exact lv_lload_n F.1 F.2.1 hd hi (lv_at hl j (tL_at hj)) (K F hk ls H locs hl hR hS)

theorem aw_lload {i : Nat} {x : Int64} (j : Nat) (hd : decode cc pc = .ok (.lload i, 2)) (hj : L[j]? = some (i, .long x)) (K : AW X cc nL own R Qm k n adr h (pc + 2) L (.long x :: st)) : AW X cc nL own R Qm k n adr h pc L st := by
  obtain ⟨p, l, e, s, m, args, below, meth, c, G⟩ := X
  intro F hk ls H locs hl hR hS
  exact lv_lload F.1 F.2.1 hd (lv_at hl j (tL_at hj)) (K F hk ls H locs hl hR hS)

theorem aw_aload_n {z : Fin 4} {i : Nat} {x : Nat} (j : Nat) (hd : decode cc pc = .ok (.aload_n z, 1)) (hi : (z : Nat) = i) (hj : L[j]? = some (i, .ref x)) (K : AW X cc nL own R Qm k n adr h (pc + 1) L (.ref x :: st)) : AW X cc nL own R Qm k n adr h pc L st := by
  obtain ⟨p, l, e, s, m, args, below, meth, c, G⟩ := X
  intro F hk ls H locs hl hR hS
  exact lv_aload_n F.1 F.2.1 hd hi (lv_at hl j (tL_at hj)) (K F hk ls H locs hl hR hS)

theorem aw_aload {i : Nat} {x : Nat} (j : Nat) (hd : decode cc pc = .ok (.aload i, 2)) (hj : L[j]? = some (i, .ref x)) (K : AW X cc nL own R Qm k n adr h (pc + 2) L (.ref x :: st)) : AW X cc nL own R Qm k n adr h pc L st := by
  obtain ⟨p, l, e, s, m, args, below, meth, c, G⟩ := X
  intro F hk ls H locs hl hR hS
  exact lv_aload F.1 F.2.1 hd (lv_at hl j (tL_at hj)) (K F hk ls H locs hl hR hS)

theorem aw_aload_nN {z : Fin 4} {i : Nat} (j : Nat) (hd : decode cc pc = .ok (.aload_n z, 1)) (hi : (z : Nat) = i) (hj : L[j]? = some (i, .null)) (K : AW X cc nL own R Qm k n adr h (pc + 1) L (.null :: st)) : AW X cc nL own R Qm k n adr h pc L st := by
  obtain ⟨p, l, e, s, m, args, below, meth, c, G⟩ := X
  intro F hk ls H locs hl hR hS
  exact lv_aload_nN F.1 F.2.1 hd hi (lv_at hl j (tL_at hj)) (K F hk ls H locs hl hR hS)

theorem aw_istore_n {i : Nat} {z : Fin 4} {x : Int32} {L' : List (Nat × Value)} (hd : decode cc pc = .ok (.istore_n z, 1)) (hi : (z : Nat) = i) (hn : i < nL) (hs : (i, Value.int x) :: L.filter (fun q => !(q.1 == i) && !(q.1 + 1 == i && q.2.category == 2)) = L') (K : AW X cc nL own R Qm k n adr h (pc + 1) L' st) : AW X cc nL own R Qm k n adr h pc L (.int x :: st) := by
  obtain ⟨p, l, e, s, m, args, below, meth, c, G⟩ := X
  intro F hk ls H locs hl hR hS
  exact lv_istore_n F.1 F.2.1 hd hi hl hn (tL_st1 hs) (fun ls' hl' => K F hk ls' H locs hl' hR hS)

theorem aw_istore {i : Nat} {x : Int32} {L' : List (Nat × Value)} (hd : decode cc pc = .ok (.istore i, 2)) (hn : i < nL) (hs : (i, Value.int x) :: L.filter (fun q => !(q.1 == i) && !(q.1 + 1 == i && q.2.category == 2)) = L') (K : AW X cc nL own R Qm k n adr h (pc + 2) L' st) : AW X cc nL own R Qm k n adr h pc L (.int x :: st) := by
  obtain ⟨p, l, e, s, m, args, below, meth, c, G⟩ := X
  intro F hk ls H locs hl hR hS
  exact lv_istore F.1 F.2.1 hd hl hn (tL_st1 hs) (fun ls' hl' => K F hk ls' H locs hl' hR hS)

theorem aw_astore_n {i : Nat} {z : Fin 4} {x : Nat} {L' : List (Nat × Value)} (hd : decode cc pc = .ok (.astore_n z, 1)) (hi : (z : Nat) = i) (hn : i < nL) (hs : (i, Value.ref x) :: L.filter (fun q => !(q.1 == i) && !(q.1 + 1 == i && q.2.category == 2)) = L') (K : AW X cc nL own R Qm k n adr h (pc + 1) L' st) : AW X cc nL own R Qm k n adr h pc L (.ref x :: st) := by
  obtain ⟨p, l, e, s, m, args, below, meth, c, G⟩ := X
  intro F hk ls H locs hl hR hS
  exact lv_astore_n F.1 F.2.1 hd hi hl hn (tL_st1 hs) (fun ls' hl' => K F hk ls' H locs hl' hR hS)

theorem aw_astore {i : Nat} {x : Nat} {L' : List (Nat × Value)} (hd : decode cc pc = .ok (.astore i, 2)) (hn : i < nL) (hs : (i, Value.ref x) :: L.filter (fun q => !(q.1 == i) && !(q.1 + 1 == i && q.2.category == 2)) = L') (K : AW X cc nL own R Qm k n adr h (pc + 2) L' st) : AW X cc nL own R Qm k n adr h pc L (.ref x :: st) := by
  obtain ⟨p, l, e, s, m, args, below, meth, c, G⟩ := X
  intro F hk ls H locs hl hR hS
  exact lv_astore F.1 F.2.1 hd hl hn (tL_st1 hs) (fun ls' hl' => K F hk ls' H locs hl' hR hS)

theorem aw_lstore_n {i : Nat} {z : Fin 4} {x : Int64} {L' : List (Nat × Value)} (hd : decode cc pc = .ok (.lstore_n z, 1)) (hi : (z : Nat) = i) (hn : i + 1 < nL) (hs : (i, Value.long x) :: L.filter (fun q => !(q.1 == i) && (!(q.1 == i + 1) && !(q.1 + 1 == i && q.2.category == 2))) = L') (K : AW X cc nL own R Qm k n adr h (pc + 1) L' st) : AW X cc nL own R Qm k n adr h pc L (.long x :: st) := by
  obtain ⟨p, l, e, s, m, args, below, meth, c, G⟩ := X
  intro F hk ls H locs hl hR hS
  exact lv_lstore_n F.1 F.2.1 hd hi hl hn (tL_st2 hs) (fun ls' hl' => K F hk ls' H locs hl' hR hS)

theorem aw_iinc {i : Nat} {z : Int} {x v : Int32} {L' : List (Nat × Value)} (j : Nat) (hd : decode cc pc = .ok (.iinc i z, 3)) (hj : L[j]? = some (i, .int x)) (hv : x + Int32.ofInt z = v) (hn : i < nL) (hs : (i, Value.int v) :: L.filter (fun q => !(q.1 == i) && !(q.1 + 1 == i && q.2.category == 2)) = L') (K : AW X cc nL own R Qm k n adr h (pc + 3) L' st) : AW X cc nL own R Qm k n adr h pc L st := by
  obtain ⟨p, l, e, s, m, args, below, meth, c, G⟩ := X
  intro F hk ls H locs hl hR hS
  exact lv_iinc F.1 F.2.1 hd hl (k := j) (tL_at hj) hv hn (tL_st1 hs) (fun ls' hl' => K F hk ls' H locs hl' hR hS)

theorem aw_if_eq {x : Int32} {off : Int} {tgt : Nat} (hd : decode cc pc = .ok (.ifCond .eq off, 3)) (ht : (pc : Int) + off = (tgt : Int)) (Kt : x = 0 → AW X cc nL own R Qm k n adr h tgt L st) (Kf : ¬ x = 0 → AW X cc nL own R Qm k n adr h (pc + 3) L st) : AW X cc nL own R Qm k n adr h pc L (.int x :: st) := by
  obtain ⟨p, l, e, s, m, args, below, meth, c, G⟩ := X
  intro F hk ls H locs hl hR hS
  exact lv_if_eq F.1 F.2.1 hd ht (fun q => Kt q F hk ls H locs hl hR hS) (fun q => Kf q F hk ls H locs hl hR hS)

theorem aw_if_ne {x : Int32} {off : Int} {tgt : Nat} (hd : decode cc pc = .ok (.ifCond .ne off, 3)) (ht : (pc : Int) + off = (tgt : Int)) (Kt : ¬ x = 0 → AW X cc nL own R Qm k n adr h tgt L st) (Kf : x = 0 → AW X cc nL own R Qm k n adr h (pc + 3) L st) : AW X cc nL own R Qm k n adr h pc L (.int x :: st) := by
  obtain ⟨p, l, e, s, m, args, below, meth, c, G⟩ := X
  intro F hk ls H locs hl hR hS
  exact lv_if_ne F.1 F.2.1 hd ht (fun q => Kt q F hk ls H locs hl hR hS) (fun q => Kf q F hk ls H locs hl hR hS)

theorem aw_if_lt {x : Int32} {off : Int} {tgt : Nat} (hd : decode cc pc = .ok (.ifCond .lt off, 3)) (ht : (pc : Int) + off = (tgt : Int)) (Kt : x < 0 → AW X cc nL own R Qm k n adr h tgt L st) (Kf : ¬ x < 0 → AW X cc nL own R Qm k n adr h (pc + 3) L st) : AW X cc nL own R Qm k n adr h pc L (.int x :: st) := by
  obtain ⟨p, l, e, s, m, args, below, meth, c, G⟩ := X
  intro F hk ls H locs hl hR hS
  exact lv_if_lt F.1 F.2.1 hd ht (fun q => Kt q F hk ls H locs hl hR hS) (fun q => Kf q F hk ls H locs hl hR hS)

theorem aw_if_ge {x : Int32} {off : Int} {tgt : Nat} (hd : decode cc pc = .ok (.ifCond .ge off, 3)) (ht : (pc : Int) + off = (tgt : Int)) (Kt : 0 ≤ x → AW X cc nL own R Qm k n adr h tgt L st) (Kf : ¬ 0 ≤ x → AW X cc nL own R Qm k n adr h (pc + 3) L st) : AW X cc nL own R Qm k n adr h pc L (.int x :: st) := by
  obtain ⟨p, l, e, s, m, args, below, meth, c, G⟩ := X
  intro F hk ls H locs hl hR hS
  exact lv_if_ge F.1 F.2.1 hd ht (fun q => Kt q F hk ls H locs hl hR hS) (fun q => Kf q F hk ls H locs hl hR hS)

theorem aw_if_gt {x : Int32} {off : Int} {tgt : Nat} (hd : decode cc pc = .ok (.ifCond .gt off, 3)) (ht : (pc : Int) + off = (tgt : Int)) (Kt : 0 < x → AW X cc nL own R Qm k n adr h tgt L st) (Kf : ¬ 0 < x → AW X cc nL own R Qm k n adr h (pc + 3) L st) : AW X cc nL own R Qm k n adr h pc L (.int x :: st) := by
  obtain ⟨p, l, e, s, m, args, below, meth, c, G⟩ := X
  intro F hk ls H locs hl hR hS
  exact lv_if_gt F.1 F.2.1 hd ht (fun q => Kt q F hk ls H locs hl hR hS) (fun q => Kf q F hk ls H locs hl hR hS)

theorem aw_if_le {x : Int32} {off : Int} {tgt : Nat} (hd : decode cc pc = .ok (.ifCond .le off, 3)) (ht : (pc : Int) + off = (tgt : Int)) (Kt : x ≤ 0 → AW X cc nL own R Qm k n adr h tgt L st) (Kf : ¬ x ≤ 0 → AW X cc nL own R Qm k n adr h (pc + 3) L st) : AW X cc nL own R Qm k n adr h pc L (.int x :: st) := by
  obtain ⟨p, l, e, s, m, args, below, meth, c, G⟩ := X
  intro F hk ls H locs hl hR hS
  exact lv_if_le F.1 F.2.1 hd ht (fun q => Kt q F hk ls H locs hl hR hS) (fun q => Kf q F hk ls H locs hl hR hS)

theorem aw_icmp_eq {x y : Int32} {off : Int} {tgt : Nat} (hd : decode cc pc = .ok (.if_icmp .eq off, 3)) (ht : (pc : Int) + off = (tgt : Int)) (Kt : x = y → AW X cc nL own R Qm k n adr h tgt L st) (Kf : ¬ x = y → AW X cc nL own R Qm k n adr h (pc + 3) L st) : AW X cc nL own R Qm k n adr h pc L (.int y :: .int x :: st) := by
  obtain ⟨p, l, e, s, m, args, below, meth, c, G⟩ := X
  intro F hk ls H locs hl hR hS
  exact lv_icmp_eq F.1 F.2.1 hd ht (fun q => Kt q F hk ls H locs hl hR hS) (fun q => Kf q F hk ls H locs hl hR hS)

theorem aw_icmp_ne {x y : Int32} {off : Int} {tgt : Nat} (hd : decode cc pc = .ok (.if_icmp .ne off, 3)) (ht : (pc : Int) + off = (tgt : Int)) (Kt : ¬ x = y → AW X cc nL own R Qm k n adr h tgt L st) (Kf : x = y → AW X cc nL own R Qm k n adr h (pc + 3) L st) : AW X cc nL own R Qm k n adr h pc L (.int y :: .int x :: st) := by
  obtain ⟨p, l, e, s, m, args, below, meth, c, G⟩ := X
  intro F hk ls H locs hl hR hS
  exact lv_icmp_ne F.1 F.2.1 hd ht (fun q => Kt q F hk ls H locs hl hR hS) (fun q => Kf q F hk ls H locs hl hR hS)

theorem aw_icmp_lt {x y : Int32} {off : Int} {tgt : Nat} (hd : decode cc pc = .ok (.if_icmp .lt off, 3)) (ht : (pc : Int) + off = (tgt : Int)) (Kt : x < y → AW X cc nL own R Qm k n adr h tgt L st) (Kf : ¬ x < y → AW X cc nL own R Qm k n adr h (pc + 3) L st) : AW X cc nL own R Qm k n adr h pc L (.int y :: .int x :: st) := by
  obtain ⟨p, l, e, s, m, args, below, meth, c, G⟩ := X
  intro F hk ls H locs hl hR hS
  exact lv_icmp_lt F.1 F.2.1 hd ht (fun q => Kt q F hk ls H locs hl hR hS) (fun q => Kf q F hk ls H locs hl hR hS)

theorem aw_icmp_ge {x y : Int32} {off : Int} {tgt : Nat} (hd : decode cc pc = .ok (.if_icmp .ge off, 3)) (ht : (pc : Int) + off = (tgt : Int)) (Kt : y ≤ x → AW X cc nL own R Qm k n adr h tgt L st) (Kf : ¬ y ≤ x → AW X cc nL own R Qm k n adr h (pc + 3) L st) : AW X cc nL own R Qm k n adr h pc L (.int y :: .int x :: st) := by
  obtain ⟨p, l, e, s, m, args, below, meth, c, G⟩ := X
  intro F hk ls H locs hl hR hS
  exact lv_icmp_ge F.1 F.2.1 hd ht (fun q => Kt q F hk ls H locs hl hR hS) (fun q => Kf q F hk ls H locs hl hR hS)

theorem aw_icmp_gt {x y : Int32} {off : Int} {tgt : Nat} (hd : decode cc pc = .ok (.if_icmp .gt off, 3)) (ht : (pc : Int) + off = (tgt : Int)) (Kt : y < x → AW X cc nL own R Qm k n adr h tgt L st) (Kf : ¬ y < x → AW X cc nL own R Qm k n adr h (pc + 3) L st) : AW X cc nL own R Qm k n adr h pc L (.int y :: .int x :: st) := by
  obtain ⟨p, l, e, s, m, args, below, meth, c, G⟩ := X
  intro F hk ls H locs hl hR hS
  exact lv_icmp_gt F.1 F.2.1 hd ht (fun q => Kt q F hk ls H locs hl hR hS) (fun q => Kf q F hk ls H locs hl hR hS)

theorem aw_icmp_le {x y : Int32} {off : Int} {tgt : Nat} (hd : decode cc pc = .ok (.if_icmp .le off, 3)) (ht : (pc : Int) + off = (tgt : Int)) (Kt : x ≤ y → AW X cc nL own R Qm k n adr h tgt L st) (Kf : ¬ x ≤ y → AW X cc nL own R Qm k n adr h (pc + 3) L st) : AW X cc nL own R Qm k n adr h pc L (.int y :: .int x :: st) := by
  obtain ⟨p, l, e, s, m, args, below, meth, c, G⟩ := X
  intro F hk ls H locs hl hR hS
  exact lv_icmp_le F.1 F.2.1 hd ht (fun q => Kt q F hk ls H locs hl hR hS) (fun q => Kf q F hk ls H locs hl hR hS)

theorem aw_tabOut {x : Int32} {dflt lo hi : Int} {offs : Array Int} {len tgt : Nat} (hd : decode cc pc = .ok (.tableswitch dflt lo hi offs, len)) (hx : x.toInt < lo ∨ hi < x.toInt) (ht : (pc : Int) + dflt = (tgt : Int)) (K : AW X cc nL own R Qm k n adr h tgt L st) : AW X cc nL own R Qm k n adr h pc L (.int x :: st) := by
  obtain ⟨p, l, e, s, m, args, below, meth, c, G⟩ := X
  intro F hk ls H locs hl hR hS
  exact lv_tableOut F.1 F.2.1 hd hx ht (K F hk ls H locs hl hR hS)

theorem aw_tabIn {x : Int32} {dflt lo hi off : Int} {offs : Array Int} {len tgt : Nat} (hd : decode cc pc = .ok (.tableswitch dflt lo hi offs, len)) (h1 : ¬ x.toInt < lo) (h2 : ¬ hi < x.toInt) (ho : offs[(x.toInt - lo).toNat]? = some off) (ht : (pc : Int) + off = (tgt : Int)) (K : AW X cc nL own R Qm k n adr h tgt L st) : AW X cc nL own R Qm k n adr h pc L (.int x :: st) := by
  obtain ⟨p, l, e, s, m, args, below, meth, c, G⟩ := X
  intro F hk ls H locs hl hR hS
  exact lv_tableIn F.1 F.2.1 hd h1 h2 ho ht (K F hk ls H locs hl hR hS)

theorem aw_sub {L' : List (Nat × Value)} (ks : List Nat) (hs : ks.map (fun i => L[i]?) = L'.map some) (K : AW X cc nL own R Qm k n adr h pc L' st) : AW X cc nL own R Qm k n adr h pc L st := by
  obtain ⟨p, l, e, s, m, args, below, meth, c, G⟩ := X
  intro F hk ls H locs hl hR hS
  exact K F hk ls H locs (tL_sub hl ks hs) hR hS

theorem aw_ldcS {i x : Nat} {tx : String} (hd : decode cc pc = .ok (.ldc i, 2)) (hw : (own, i, tx, x) ∈ strR) (K : AW X cc nL own R Qm k n adr h (pc + 2) L (.ref (1010 + x) :: st)) : AW X cc nL own R Qm k n adr h pc L st := by
  obtain ⟨p, l, e, s, m, args, below, meth, c, G⟩ := X
  intro F hk ls H locs hl hR hS
  exact va_ldcS F.1 F.2.1 F.2.2.2.1 (hk.2.2.2.2.2.1 _ hw) hd (K F hk ls H locs hl hR hS)

theorem aw_ldcSW {i x : Nat} {tx : String} (hd : decode cc pc = .ok (.ldc_w i, 3)) (hw : (own, i, tx, x) ∈ strR) (K : AW X cc nL own R Qm k n adr h (pc + 3) L (.ref (1010 + x) :: st)) : AW X cc nL own R Qm k n adr h pc L st := by
  obtain ⟨p, l, e, s, m, args, below, meth, c, G⟩ := X
  intro F hk ls H locs hl hR hS
  intro T hT Xs
  obtain ⟨t, a1, b1⟩ := K F hk ls H locs hl hR hS T hT Xs
  exact ⟨t, Xs.ldcStringW F.1 F.2.2.2.1 (text := tx) (a := adr (1010 + x)) (hk.2.2.2.2.2.1 _ hw).1 (hk.2.2.2.2.2.1 _ hw).2 (g := F0 m pc ls (st.map (tv adr))) rfl (by rw [F.2.1]; exact hd) t a1, b1⟩

theorem aw_gets {i q : Nat} {nm host : String} {xs : List Int32} (hd : decode cc pc = .ok (.getstatic i, 3)) (hw : (own, i, "StillInIt", nm, "[I", host) ∈ nestF) (hq : statT[q]? = some (nm, xs)) (K : AW X cc nL own R Qm k n adr h (pc + 3) L (.ref (1000 + q) :: st)) : AW X cc nL own R Qm k n adr h pc L st := by
  obtain ⟨p, l, e, s, m, args, below, meth, c, G⟩ := X
  intro F hk ls H locs hl hR hS
  exact va_getsN F.1 F.2.1 (hk.2.2.2.2.1 q _ hq).1 hS F.2.2.2.1 (va_Nw.use rfl (hk.2.2.2.1 _ hw)) (fun _ z => z) hd (K F hk ls H locs hl hR hS)

theorem aw_sald {q : Nat} {nm : String} {xs : List Int32} {i x : Int32} (hd : decode cc pc = .ok (.iaload, 1)) (hq : statT[q]? = some (nm, xs)) (hx : sT q i = some x) (K : AW X cc nL own R Qm k n adr h (pc + 1) L (.int x :: st)) : AW X cc nL own R Qm k n adr h pc L (.int i :: .ref (1000 + q) :: st) := by
  obtain ⟨p, l, e, s, m, args, below, meth, c, G⟩ := X
  intro F hk ls H locs hl hR hS
  obtain ⟨hi, hv⟩ := sT_some hq hx
  exact va_ti F.1 F.2.1 (hk.2.2.2.2.1 q _ hq).2 hS hi hv hd (K F hk ls H locs hl hR hS)

theorem aw_get {i r ci fk : Nat} {v : Value} (hd : decode cc pc = .ok (.getfield i, 3)) (hw : GFok own i ci fk) (hx : gF h r ci fk = some v) (K : AW X cc nL own R Qm k n adr h (pc + 3) L (v :: st)) : AW X cc nL own R Qm k n adr h pc L (.ref r :: st) := by
  obtain ⟨p, l, e, s, m, args, below, meth, c, G⟩ := X
  intro F hk ls H locs hl hR hS
  obtain ⟨C, T, N, hc, hN, hin, hlk, hT, -⟩ := hw
  obtain ⟨fs, he, hv⟩ := gF_some hx
  exact va_get (ci := ci) F.1 F.2.1 F.2.2.2.2.1 hin F.2.2.2.1 hk.2.1 hR.1 r (cW_at he) hc fk hN (F.2.2.2.2.1 _ hlk) (fun _ z => by rw [← hT]; exact z) (by simp [hv]) hd (K F hk ls H locs hl hR hS)

theorem aw_put {i r ci fk : Nat} {v : Value} {ty : FieldType} {h' : Hp} (hd : decode cc pc = .ok (.putfield i, 3)) (hw : PFok own i ci fk ty) (hn : ∀ a, narrow ty (tv a v) = tv a v ∧ fits ty (tv a v) = true) (hx : pF h r ci fk v = some h') (K : AW X cc nL own R Qm k n adr h' (pc + 3) L st) : AW X cc nL own R Qm k n adr h pc L (v :: .ref r :: st) := by
  obtain ⟨p, l, e, s, m, args, below, meth, c, G⟩ := X
  intro F hk ls H locs hl hR hS
  obtain ⟨⟨C, T, N, hc, hN, hin, hlk, hT, ty0, hty, hnm⟩, hp⟩ := hw
  obtain ⟨fs, he, hlt, rfl⟩ := pF_some hx
  obtain ⟨hfin, hd0⟩ := hp C T N hc
  refine va_put (ci := ci) (ty := ty) F.1 F.2.1 F.2.2.2.2.1 hin ty0 hty hnm F.2.2.2.1 hk.2.1 hR.1 hR.2 hS r (cW_at he) hc fk hN (F.2.2.2.2.1 _ hlk) (fun _ z => by rw [← hT]; exact z) hfin hd0 (hn adr).1 (hn adr).2 (by simpa using hlt) hd (fun H1 locs1 hP hD hS1 => K F hk ls H1 locs1 hl ?_ hS1)
  rw [show (List.map (tv adr) fs).set fk (tv adr v) = List.map (tv adr) (fs.set fk v) from List.map_set.symm] at hP hD
  exact ⟨by rw [← cW_set]; exact hP, by rw [← cW_set]; exact hD⟩

theorem aw_iald {r : Nat} {i x : Int32} (hd : decode cc pc = .ok (.iaload, 1)) (hx : aL h r i = some x) (K : AW X cc nL own R Qm k n adr h (pc + 1) L (.int x :: st)) : AW X cc nL own R Qm k n adr h pc L (.int i :: .ref r :: st) := by
  obtain ⟨p, l, e, s, m, args, below, meth, c, G⟩ := X
  intro F hk ls H locs hl hR hS
  obtain ⟨N, f, he, hi, rfl⟩ := aL_some hx
  exact va_iald F.1 F.2.1 hk.2.1 hR.1 r 0 (cW_at he) rfl hi hd (K F hk ls H locs hl hR hS)

theorem aw_iast {r : Nat} {i x : Int32} {h' : Hp} (hd : decode cc pc = .ok (.iastore, 1)) (hx : aS h r i x = some h') (K : AW X cc nL own R Qm k n adr h' (pc + 1) L st) : AW X cc nL own R Qm k n adr h pc L (.int x :: .int i :: .ref r :: st) := by
  obtain ⟨p, l, e, s, m, args, below, meth, c, G⟩ := X
  intro F hk ls H locs hl hR hS
  obtain ⟨N, f, he, hi, rfl⟩ := aS_some hx
  refine va_iast F.1 F.2.1 hk.2.1 hR.1 hR.2 hS r 0 (cW_at he) rfl hi hd (fun H1 locs1 hP hD hS1 => K F hk ls H1 locs1 hl ?_ hS1)
  exact ⟨by rw [← cW_set]; exact hP, by rw [← cW_set]; exact hD⟩

theorem aw_lald {r : Nat} {i : Int32} {x : Int64} (hd : decode cc pc = .ok (.laload, 1)) (hx : lL h r i = some x) (K : AW X cc nL own R Qm k n adr h (pc + 1) L (.long x :: st)) : AW X cc nL own R Qm k n adr h pc L (.int i :: .ref r :: st) := by
  obtain ⟨p, l, e, s, m, args, below, meth, c, G⟩ := X
  intro F hk ls H locs hl hR hS
  obtain ⟨N, f, he, hi, rfl⟩ := lL_some hx
  exact va_lald F.1 F.2.1 hk.2.1 hR.1 r 1 (cW_at he) rfl hi hd (K F hk ls H locs hl hR hS)

theorem aw_last {r : Nat} {i : Int32} {x : Int64} {h' : Hp} (hd : decode cc pc = .ok (.lastore, 1)) (hx : lS h r i x = some h') (K : AW X cc nL own R Qm k n adr h' (pc + 1) L st) : AW X cc nL own R Qm k n adr h pc L (.long x :: .int i :: .ref r :: st) := by
  obtain ⟨p, l, e, s, m, args, below, meth, c, G⟩ := X
  intro F hk ls H locs hl hR hS
  obtain ⟨N, f, he, hi, rfl⟩ := lS_some hx
  refine va_last F.1 F.2.1 hk.2.1 hR.1 hR.2 hS r 1 (cW_at he) rfl hi hd (fun H1 locs1 hP hD hS1 => K F hk ls H1 locs1 hl ?_ hS1)
  exact ⟨by rw [← cW_set]; exact hP, by rw [← cW_set]; exact hD⟩

theorem aw_aald {r x : Nat} {i : Int32} (hd : decode cc pc = .ok (.aaload, 1)) (hx : qL h r i = some x) (K : AW X cc nL own R Qm k n adr h (pc + 1) L (.ref x :: st)) : AW X cc nL own R Qm k n adr h pc L (.int i :: .ref r :: st) := by
  obtain ⟨p, l, e, s, m, args, below, meth, c, G⟩ := X
  intro F hk ls H locs hl hR hS
  obtain ⟨N, f, he, hi, hf⟩ := qL_some hx
  have hK := K F hk ls H locs hl hR hS
  have hlt : i.toNatClampNeg < N := Nat.not_le.mp fun q => hi (Or.inr q)
  refine va_aldq F.1 F.2.1 hk.2.1 hR.1 r 2 (cW_at he) rfl hi hd ?_
  simp only [hf, hlt, if_true]
  exact hK

theorem aw_aast {r x : Nat} {i : Int32} {h' : Hp} (hd : decode cc pc = .ok (.aastore, 1)) (hx : qS h r i x = some h') (K : AW X cc nL own R Qm k n adr h' (pc + 1) L st) : AW X cc nL own R Qm k n adr h pc L (.ref x :: .int i :: .ref r :: st) := by
  obtain ⟨p, l, e, s, m, args, below, meth, c, G⟩ := X
  intro F hk ls H locs hl hR hS
  obtain ⟨N, f, vs, he, hv, hi, rfl⟩ := qS_some hx
  refine va_astq F.1 F.2.1 hk.2.1 hR.1 hR.2 hS r 2 x 2 (cW_at he) rfl (cW_at hv) rfl hi hd (fun H1 locs1 hP hD hS1 => K F hk ls H1 locs1 hl ?_ hS1)
  have hlt : i.toNatClampNeg < N := Nat.not_le.mp fun q => hi (Or.inr q)
  have e : (fun j => if j < N then (va_up f i.toNatClampNeg (some x) j).map adr else none) = va_up (fun j => if j < N then (f j).map adr else none) i.toNatClampNeg (some (adr x)) := by
    funext j
    unfold va_up
    by_cases hj : j = i.toNatClampNeg
    · simp [hj, hlt]
    · simp [hj]
  have e2 : tE G adr (.inl (2, N, .inr (.inr (.inr (.inr (va_up f i.toNatClampNeg (some x))))))) = .inl (G.2.1 2, N, .inr (.inr (.inr (.inr (va_up (fun j => if j < N then (f j).map adr else none) i.toNatClampNeg (some (adr x))))))) := by
    show Sum.inl _ = _
    unfold tA
    simp only [e]
  exact ⟨by rw [← cW_set, e2]; exact hP, by rw [← cW_set, e2]; exact hD⟩

theorem aw_alen {r : Nat} {x : Int32} (hd : decode cc pc = .ok (.arraylength, 1)) (hx : aN h r = some x) (K : AW X cc nL own R Qm k n adr h (pc + 1) L (.int x :: st)) : AW X cc nL own R Qm k n adr h pc L (.ref r :: st) := by
  obtain ⟨p, l, e, s, m, args, below, meth, c, G⟩ := X
  intro F hk ls H locs hl hR hS
  obtain ⟨N, f, he, rfl⟩ := aN_some hx
  exact va_alen F.1 F.2.1 hk.2.1 hR.1 r 0 (cW_at he) rfl rfl hd (K F hk ls H locs hl hR hS)

theorem aw_copy {i r q : Nat} {sp dp z : Int32} {h' : Hp} (hd : decode cc pc = .ok (.invokestatic i, 3)) (hw : Cond.methodLink own i arraycopyName ∈ lw_good) (hf : 1 ≤ R.frames) (hlo : (st.map fun v => v.category).sum + 40 ≤ R.locals) (hx : aC h r sp q dp z = some h') (K : AW X cc nL own R Qm k n adr h' (pc + 3) L st) : AW X cc nL own R Qm k n adr h pc L (.int z :: .int dp :: .ref q :: .int sp :: .ref r :: st) := by
  obtain ⟨p, l, e, s, m, args, below, meth, c, G⟩ := X
  intro F hk ls H locs hl hR hS
  obtain ⟨n0, n1, f, g, he, hg, h1, h2, h3, h4, h5, rfl⟩ := aC_some hx
  have hml : c.maxLocals = ls.size := by rw [F.2.2.1]; exact hl.1.symm
  refine va_copyi F.1 F.2.1 hml F.2.2.2.1 (F.2.2.2.2.1 _ hw) (F.2.2.2.2.1 _ wd_native) (F.2.2.2.2.1 _ wd_copystat) (F.2.2.2.2.1 _ wd_sysinit) hk.2.1 hR.1 hR.2 hS r q 0 0 (cW_at he) (cW_at hg) rfl rfl rfl h1 h2 h3 h4 h5 (fun _ _ => rfl) hf ?_ hd (fun H1 locs1 hP hD hS1 => K F hk ls H1 locs1 hl ?_ hS1)
  · have e : (List.map (fun v => v.category) (List.map (tv adr) st)).sum = (st.map fun v => v.category).sum := by
      rw [List.map_map]; congr 1; apply List.map_congr_left; intro v _; exact tv_cat adr v
    rw [e]
    exact Nat.le_trans (Nat.add_le_add_left (by decide +kernel) _) hlo
  · exact ⟨by rw [← cW_set]; exact hP, by rw [← cW_set]; exact hD⟩

end AWR
