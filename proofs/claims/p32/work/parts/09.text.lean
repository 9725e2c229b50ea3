set_option maxRecDepth 100000 in
theorem neJ0 : RJ0 ≠ "java/lang/invoke/MethodHandle" ∧ RJ0 ≠ "java/lang/invoke/VarHandle" := by decide +kernel
set_option maxRecDepth 100000 in
theorem wnJ0 : Cond.initialized RJ0 ∈ lw_good := lw_m1 9 rfl rfl
set_option maxRecDepth 100000 in
theorem ds_s_length : (parseMethodDescriptor "()I").map (fun d => d.parameters.length) = some 0 := by decide +kernel
set_option maxRecDepth 100000 in
theorem moJ0_length_8abf5 : MOk yJ0_length_8abf5 cJ0_length_8abf5 1 (some .int) 0 := ⟨lw_m2 36 rfl rfl, wnJ0, neJ0.1, neJ0.2, ds_s_length⟩
set_option maxRecDepth 100000 in
theorem ds_s_coder : (parseMethodDescriptor "()B").map (fun d => d.parameters.length) = some 0 := by decide +kernel
set_option maxRecDepth 100000 in
theorem moJ0_coder_7d493 : MOk yJ0_coder_7d493 cJ0_coder_7d493 1 (some .byte) 0 := ⟨lw_m2 40 rfl rfl, wnJ0, neJ0.1, neJ0.2, ds_s_coder⟩
set_option maxRecDepth 100000 in
theorem ds_s_charAt : (parseMethodDescriptor "(I)C").map (fun d => d.parameters.length) = some 1 := by decide +kernel
set_option maxRecDepth 100000 in
theorem moJ0_charAt_5068e : MOk yJ0_charAt_5068e cJ0_charAt_5068e 2 (some .char) 1 := ⟨lw_m2 46 rfl rfl, wnJ0, neJ0.1, neJ0.2, ds_s_charAt⟩
set_option maxRecDepth 100000 in
theorem ds_s_isLatin1 : (parseMethodDescriptor "()Z").map (fun d => d.parameters.length) = some 0 := by decide +kernel
set_option maxRecDepth 100000 in
theorem moJ0_isLatin1_aae02 : MOk yJ0_isLatin1_aae02 cJ0_isLatin1_aae02 1 (some .boolean) 0 := ⟨lw_m2 50 rfl rfl, wnJ0, neJ0.1, neJ0.2, ds_s_isLatin1⟩
set_option maxRecDepth 100000 in
theorem ds_s_ci0 : (parseMethodDescriptor "(II)V").map (fun d => d.parameters.length) = some 2 := by decide +kernel
set_option maxRecDepth 100000 in
theorem moJ0_checkIndex_df160 : MOk yJ0_checkIndex_df160 cJ0_checkIndex_df160 2 none 2 := ⟨lw_m2 56 rfl rfl, wnJ0, neJ0.1, neJ0.2, ds_s_ci0⟩
set_option maxRecDepth 100000 in
theorem neJ1 : RJ1 ≠ "java/lang/invoke/MethodHandle" ∧ RJ1 ≠ "java/lang/invoke/VarHandle" := by decide +kernel
set_option maxRecDepth 100000 in
theorem wnJ1 : Cond.initialized RJ1 ∈ lw_good := lw_m1 10 rfl rfl
set_option maxRecDepth 100000 in
theorem ds_s_ch1 : (parseMethodDescriptor "([BI)C").map (fun d => d.parameters.length) = some 2 := by decide +kernel
set_option maxRecDepth 100000 in
theorem moJ1_charAt_3b067 : MOk yJ1_charAt_3b067 cJ1_charAt_3b067 2 (some .char) 2 := ⟨lw_m2 53 rfl rfl, wnJ1, neJ1.1, neJ1.2, ds_s_ch1⟩
set_option maxRecDepth 100000 in
theorem neJ3 : RJ3 ≠ "java/lang/invoke/MethodHandle" ∧ RJ3 ≠ "java/lang/invoke/VarHandle" := by decide +kernel
set_option maxRecDepth 100000 in
theorem wnJ3 : Cond.initialized RJ3 ∈ lw_good := lw_m1 11 rfl rfl
set_option maxRecDepth 100000 in
theorem ds_s_ci3 : (parseMethodDescriptor "(IILjava/util/function/BiFunction;)I").map (fun d => d.parameters.length) = some 3 := by decide +kernel
set_option maxRecDepth 100000 in
theorem moJ3_checkIndex_8e157 : MOk yJ3_checkIndex_8e157 cJ3_checkIndex_8e157 3 (some .int) 3 := ⟨lw_m2 61 rfl rfl, wnJ3, neJ3.1, neJ3.2, ds_s_ci3⟩
set_option maxRecDepth 100000 in
theorem voJ0_length_8abf5 : VOk yJ0_length_8abf5 := ⟨lw_m2 34 rfl rfl, lw_m2 35 rfl rfl⟩
set_option maxRecDepth 100000 in
theorem voJ0_coder_7d493 : VOk yJ0_coder_7d493 := ⟨lw_m2 38 rfl rfl, lw_m2 39 rfl rfl⟩
set_option maxRecDepth 100000 in
theorem voJ0_charAt_5068e : VOk yJ0_charAt_5068e := ⟨lw_m2 44 rfl rfl, lw_m2 45 rfl rfl⟩
set_option maxRecDepth 100000 in
theorem voJ0_isLatin1_aae02 : VOk yJ0_isLatin1_aae02 := ⟨lw_m2 48 rfl rfl, lw_m2 49 rfl rfl⟩
set_option maxRecDepth 100000 in
theorem soJ0_checkIndex_df160 : Cond.static yJ0_checkIndex_df160 ∈ lw_good := lw_m2 55 rfl rfl
set_option maxRecDepth 100000 in
theorem soJ1_charAt_3b067 : Cond.static yJ1_charAt_3b067 ∈ lw_good := lw_m2 52 rfl rfl
set_option maxRecDepth 100000 in
theorem soJ3_checkIndex_8e157 : Cond.static yJ3_checkIndex_8e157 ∈ lw_good := lw_m2 60 rfl rfl
set_option maxRecDepth 100000 in
theorem lsJ0_38 : Cond.fieldLink RJ0 38 "java/lang/String" "COMPACT_STRINGS" "Z" ∈ lw_good := lw_m2 41 rfl rfl
set_option maxRecDepth 100000 in
theorem lsJ0_1053 : Cond.fieldLink RJ0 1053 "jdk/internal/util/Preconditions" "SIOOBE_FORMATTER" "Ljava/util/function/BiFunction;" ∈ lw_good := lw_m2 57 rfl rfl
set_option maxRecDepth 100000 in
theorem lsJ0_9 : Cond.fieldLink RJ0 9 "java/lang/String" "value" "[B" ∈ lw_good := lw_m5 193 rfl rfl
set_option maxRecDepth 100000 in
theorem lsJ0_15 : Cond.fieldLink RJ0 15 "java/lang/String" "coder" "B" ∈ lw_good := lw_m5 194 rfl rfl
set_option maxRecDepth 100000 in
theorem mlJ0_335 : Cond.methodLink RJ0 335 yJ0_coder_7d493 ∈ lw_good := lw_m2 37 rfl rfl
set_option maxRecDepth 100000 in
theorem mlJ0_492 : Cond.methodLink RJ0 492 yJ0_isLatin1_aae02 ∈ lw_good := lw_m2 47 rfl rfl
set_option maxRecDepth 100000 in
theorem mlJ0_495 : Cond.methodLink RJ0 495 yJ1_charAt_3b067 ∈ lw_good := lw_m2 51 rfl rfl
set_option maxRecDepth 100000 in
theorem mlJ1_9 : Cond.methodLink RJ1 9 yJ0_checkIndex_df160 ∈ lw_good := lw_m2 54 rfl rfl
set_option maxRecDepth 100000 in
theorem mlJ0_1059 : Cond.methodLink RJ0 1059 yJ3_checkIndex_8e157 ∈ lw_good := lw_m2 59 rfl rfl
/-! the JDK's own length() and charAt() over the five constants -/
def lenK (x : Nat) : Nat := ([4, 5, 4, 3, 4] : List Nat).getD x 0
def chK (x i : Nat) : Int32 := (strB.getD x []).getD i 0
theorem chK_ok : ∀ x, x < 5 → ∀ i, i < 5 → (((chK x i) &&& 255).toUInt32 % 65536).toInt32 = chK x i ∧ narrow .char (.int (chK x i)) = .int (chK x i) := by decide +kernel
theorem lenK_ok : ∀ x, x < 5 → (Int32.ofNat (lenK x)) >>> ((0 : Int32) &&& 31) = Int32.ofNat (lenK x) ∧ lenK x ≤ 5 := by decide +kernel
def fS_length (r : Nat) (h : Hp) : Option (Int32 × Hp) := if 1010 ≤ r ∧ r < 1015 then some (Int32.ofNat (lenK (r - 1010)), h) else none
def fS_charAt (r : Nat) (i : Int32) (h : Hp) : Option (Int32 × Hp) := if (1010 ≤ r ∧ r < 1015) ∧ ¬ i < 0 ∧ i.toNatClampNeg < lenK (r - 1010) then some (chK (r - 1010) i.toNatClampNeg, h) else none
section AWS
variable {X : Cx} {cc : ByteArray} {nL : Nat} {own : String} {R : Room} {Qm : State → Prop} {k n : Nat} {adr : Nat → Nat} {h : Hp} {pc : Nat} {L : List (Nat × Value)} {st : List Value}
theorem aw_cs {i : Nat} (hd : decode cc pc = .ok (.getstatic i, 3)) (hw : Cond.fieldLink own i "java/lang/String" "COMPACT_STRINGS" "Z" ∈ lw_good) (K : AW X cc nL own R Qm k n adr h (pc + 3) L (.int 1 :: st)) : AW X cc nL own R Qm k n adr h pc L st := by
  obtain ⟨p, l, e, s, m, args, below, meth, c, G⟩ := X
  intro F hk ls H locs hl hR hS
  exact va_gets F.1 F.2.1 hk.2.2.2.2.2.2.2.2.1 hS F.2.2.2.1 (F.2.2.2.2.1 _ hw) (fun _ z => z) hd (K F hk ls H locs hl hR hS)
theorem aw_cf {i : Nat} (hd : decode cc pc = .ok (.getstatic i, 3)) (hw : Cond.fieldLink own i "jdk/internal/util/Preconditions" "SIOOBE_FORMATTER" "Ljava/util/function/BiFunction;" ∈ lw_good) (K : ∀ v : Value, v = .null ∨ v = .ref 1031 → AW X cc nL own R Qm k n adr h (pc + 3) L (v :: st)) : AW X cc nL own R Qm k n adr h pc L st := by
  obtain ⟨p, l, e, s, m, args, below, meth, c, G⟩ := X
  intro F hk ls H locs hl hR hS
  rcases hk.2.2.2.2.2.2.2.2.2 with z | z
  · exact va_gets F.1 F.2.1 z hS F.2.2.2.1 (F.2.2.2.2.1 _ hw) (fun _ z => z) hd (K .null (Or.inl rfl) F hk ls H locs hl hR hS)
  · exact va_gets F.1 F.2.1 z hS F.2.2.2.1 (F.2.2.2.2.1 _ hw) (fun _ z => z) hd (K (.ref 1031) (Or.inr rfl) F hk ls H locs hl hR hS)
theorem aw_kco {i x : Nat} (hx : x < 5) (hd : decode cc pc = .ok (.getfield i, 3)) (hw : Cond.fieldLink own i "java/lang/String" "coder" "B" ∈ lw_good) (K : AW X cc nL own R Qm k n adr h (pc + 3) L (.int 0 :: st)) : AW X cc nL own R Qm k n adr h pc L (.ref (1010 + x) :: st) := by
  obtain ⟨p, l, e, s, m, args, below, meth, c, G⟩ := X
  intro F hk ls H locs hl hR hS
  exact vk_getf F.1 F.2.1 (hk.2.2.2.2.2.2.1.1 x hx).2.1 hS F.2.2.2.1 (F.2.2.2.2.1 _ hw) (fun _ z => z) hd (K F hk ls H locs hl hR hS)
theorem aw_kva {i x : Nat} (hx : x < 5) (hd : decode cc pc = .ok (.getfield i, 3)) (hw : Cond.fieldLink own i "java/lang/String" "value" "[B" ∈ lw_good) (K : AW X cc nL own R Qm k n adr h (pc + 3) L (.ref (1020 + x) :: st)) : AW X cc nL own R Qm k n adr h pc L (.ref (1010 + x) :: st) := by
  obtain ⟨p, l, e, s, m, args, below, meth, c, G⟩ := X
  intro F hk ls H locs hl hR hS
  exact vk_getf F.1 F.2.1 (hk.2.2.2.2.2.2.1.1 x hx).2.2.1 hS F.2.2.2.1 (F.2.2.2.2.1 _ hw) (fun _ z => z) hd (K F hk ls H locs hl hR hS)
theorem aw_kle {x : Nat} (hx : x < 5) (hd : decode cc pc = .ok (.arraylength, 1)) (K : AW X cc nL own R Qm k n adr h (pc + 1) L (.int (Int32.ofNat (lenK x)) :: st)) : AW X cc nL own R Qm k n adr h pc L (.ref (1020 + x) :: st) := by
  obtain ⟨p, l, e, s, m, args, below, meth, c, G⟩ := X
  intro F hk ls H locs hl hR hS
  exact va_tlen F.1 F.2.1 (hk.2.2.2.2.2.2.1.1 x hx).2.2.2 hS rfl hd (K F hk ls H locs hl hR hS)
theorem aw_kba {x : Nat} {i : Int32} (hx : x < 5) (hd : decode cc pc = .ok (.baload, 1)) (hi : vp_in i (lenK x)) (K : AW X cc nL own R Qm k n adr h (pc + 1) L (.int (chK x i.toNatClampNeg) :: st)) : AW X cc nL own R Qm k n adr h pc L (.int i :: .ref (1020 + x) :: st) := by
  obtain ⟨p, l, e, s, m, args, below, meth, c, G⟩ := X
  intro F hk ls H locs hl hR hS
  exact va_tb F.1 F.2.1 (hk.2.2.2.2.2.2.1.1 x hx).2.2.2 hS hi rfl hd (K F hk ls H locs hl hR hS)
theorem aw_i2c {x v : Int32} (hd : decode cc pc = .ok (.i2c, 1)) (hv : (x.toUInt32 % 65536).toInt32 = v) (K : AW X cc nL own R Qm k n adr h (pc + 1) L (.int v :: st)) : AW X cc nL own R Qm k n adr h pc L (.int x :: st) := by
  obtain ⟨p, l, e, s, m, args, below, meth, c, G⟩ := X
  intro F hk ls H locs hl hR hS
  exact lv_i2c F.1 F.2.1 hd hv (K F hk ls H locs hl hR hS)
variable {i d nL' : Nat} {y : MethodName} {cc' : ByteArray} {ret : Option FieldType} {as stk : List Value} {v : Value} {h' : Hp}
theorem aw_cK {b : Nat} (hx : 1010 ≤ b ∧ b < 1015) (hd : decode cc pc = .ok (.invokevirtual i, 3)) (hm : MOk y cc' nL' ret as.length) (hv : VOk y) (hyc : y.cls = "java/lang/String") (hw : Cond.methodLink own i y ∈ lw_good) (hr : d + 1 ≤ R.frames ∧ 8 + (nL' + 11) + 64 * d ≤ R.locals) (hkn : k ≤ R.cells ∧ n ≤ R.slots) (hcat : (st.map fun v => v.category).sum ≤ 8) (hst : stk = as.reverse ++ .ref b :: st) (M : Mt d y cc' nL' ret (.ref b :: as) h (some v) h')
    (K : AW X cc nL own R Qm k n adr h' (pc + 3) L (v :: st)) : AW X cc nL own R Qm k n adr h pc L stk := by
  obtain ⟨p, l, e, s, m, args, below, meth, c, G⟩ := X
  intro F hk ls H locs hl hR hS
  subst hst
  obtain ⟨x, rfl, hx5⟩ : ∃ x, b = 1010 + x ∧ x < 5 := ⟨b - 1010, by omega, by omega⟩
  have hcb : CallB R s args own i y cc' nL' ret (.code y cc' nL' ret :: lw_good) (rmd d 0 0) 0 0 as.length := callB_of as.length F.2.2.2.2.1 (code_goodIn hm.1) rfl rfl rfl (F.2.2.2.2.1 _ hm.2.1) (F.2.2.2.2.1 _ hw) ⟨hm.2.2.1, hm.2.2.2.1, hm.2.2.2.2⟩ hr
  have hrc := vk_recv hk.2.2.2.2.2.2.1 hx5 hS
  rw [← hyc] at hrc
  refine aw_of_run (rest := st.map (tv adr)) (va_runV (As := as.map (tv adr)) (b := adr (1010 + x)) ⟨F.1, F.2.1, F.2.2.1, F.2.2.2.1, F.2.2.2.2.1⟩ (M l G adr) ⟨hcb, F.2.2.2.2.1 _ hv.1, F.2.2.2.2.1 _ hv.2⟩ ⟨pc_blind, hrc, fun U hU hW => ⟨rfl, hk.go hS hW hU, by rw [hU]; exact hR⟩⟩ rfl (by simp) hl.1 (by simp [tv]) (lv_room (by rw [tv_cats]; exact hcat)) hd hkn) hS (fun a r0 h0 hq H1 locs1 hR1 hS1 => ?_)
  obtain ⟨rfl, rfl, rfl⟩ := hq
  exact K F hk ls H1 locs1 hl hR1 hS1
end AWS
theorem dJ0_length_8abf5_0 : decode cJ0_length_8abf5 0 = .ok (.aload_n 0, 1) := by decide +kernel
theorem dJ0_length_8abf5_1 : decode cJ0_length_8abf5 1 = .ok (.getfield 9, 3) := by decide +kernel
theorem dJ0_length_8abf5_4 : decode cJ0_length_8abf5 4 = .ok (.arraylength, 1) := by decide +kernel
theorem dJ0_length_8abf5_5 : decode cJ0_length_8abf5 5 = .ok (.aload_n 0, 1) := by decide +kernel
theorem dJ0_length_8abf5_6 : decode cJ0_length_8abf5 6 = .ok (.invokevirtual 335, 3) := by decide +kernel
theorem dJ0_length_8abf5_9 : decode cJ0_length_8abf5 9 = .ok (.ishr, 1) := by decide +kernel
theorem dJ0_length_8abf5_10 : decode cJ0_length_8abf5 10 = .ok (.ireturn, 1) := by decide +kernel
theorem dJ0_coder_7d493_0 : decode cJ0_coder_7d493 0 = .ok (.getstatic 38, 3) := by decide +kernel
theorem dJ0_coder_7d493_3 : decode cJ0_coder_7d493 3 = .ok (.ifCond .eq 10, 3) := by decide +kernel
theorem dJ0_coder_7d493_6 : decode cJ0_coder_7d493 6 = .ok (.aload_n 0, 1) := by decide +kernel
theorem dJ0_coder_7d493_7 : decode cJ0_coder_7d493 7 = .ok (.getfield 15, 3) := by decide +kernel
theorem dJ0_coder_7d493_10 : decode cJ0_coder_7d493 10 = .ok (.goto 4, 3) := by decide +kernel
theorem dJ0_coder_7d493_13 : decode cJ0_coder_7d493 13 = .ok (.iconst 1, 1) := by decide +kernel
theorem dJ0_coder_7d493_14 : decode cJ0_coder_7d493 14 = .ok (.ireturn, 1) := by decide +kernel
theorem dJ0_charAt_5068e_0 : decode cJ0_charAt_5068e 0 = .ok (.aload_n 0, 1) := by decide +kernel
theorem dJ0_charAt_5068e_1 : decode cJ0_charAt_5068e 1 = .ok (.invokevirtual 492, 3) := by decide +kernel
theorem dJ0_charAt_5068e_4 : decode cJ0_charAt_5068e 4 = .ok (.ifCond .eq 12, 3) := by decide +kernel
theorem dJ0_charAt_5068e_7 : decode cJ0_charAt_5068e 7 = .ok (.aload_n 0, 1) := by decide +kernel
theorem dJ0_charAt_5068e_8 : decode cJ0_charAt_5068e 8 = .ok (.getfield 9, 3) := by decide +kernel
theorem dJ0_charAt_5068e_11 : decode cJ0_charAt_5068e 11 = .ok (.iload_n 1, 1) := by decide +kernel
theorem dJ0_charAt_5068e_12 : decode cJ0_charAt_5068e 12 = .ok (.invokestatic 495, 3) := by decide +kernel
theorem dJ0_charAt_5068e_15 : decode cJ0_charAt_5068e 15 = .ok (.ireturn, 1) := by decide +kernel
theorem dJ0_charAt_5068e_16 : decode cJ0_charAt_5068e 16 = .ok (.aload_n 0, 1) := by decide +kernel
theorem dJ0_charAt_5068e_17 : decode cJ0_charAt_5068e 17 = .ok (.getfield 9, 3) := by decide +kernel
theorem dJ0_charAt_5068e_20 : decode cJ0_charAt_5068e 20 = .ok (.iload_n 1, 1) := by decide +kernel
theorem dJ0_charAt_5068e_21 : decode cJ0_charAt_5068e 21 = .ok (.invokestatic 498, 3) := by decide +kernel
theorem dJ0_charAt_5068e_24 : decode cJ0_charAt_5068e 24 = .ok (.ireturn, 1) := by decide +kernel
theorem dJ0_isLatin1_aae02_0 : decode cJ0_isLatin1_aae02 0 = .ok (.getstatic 38, 3) := by decide +kernel
theorem dJ0_isLatin1_aae02_3 : decode cJ0_isLatin1_aae02 3 = .ok (.ifCond .eq 14, 3) := by decide +kernel
theorem dJ0_isLatin1_aae02_6 : decode cJ0_isLatin1_aae02 6 = .ok (.aload_n 0, 1) := by decide +kernel
theorem dJ0_isLatin1_aae02_7 : decode cJ0_isLatin1_aae02 7 = .ok (.getfield 15, 3) := by decide +kernel
theorem dJ0_isLatin1_aae02_10 : decode cJ0_isLatin1_aae02 10 = .ok (.ifCond .ne 7, 3) := by decide +kernel
theorem dJ0_isLatin1_aae02_13 : decode cJ0_isLatin1_aae02 13 = .ok (.iconst 1, 1) := by decide +kernel
theorem dJ0_isLatin1_aae02_14 : decode cJ0_isLatin1_aae02 14 = .ok (.goto 4, 3) := by decide +kernel
theorem dJ0_isLatin1_aae02_17 : decode cJ0_isLatin1_aae02 17 = .ok (.iconst 0, 1) := by decide +kernel
theorem dJ0_isLatin1_aae02_18 : decode cJ0_isLatin1_aae02 18 = .ok (.ireturn, 1) := by decide +kernel
theorem dJ0_checkIndex_df160_0 : decode cJ0_checkIndex_df160 0 = .ok (.iload_n 0, 1) := by decide +kernel
theorem dJ0_checkIndex_df160_1 : decode cJ0_checkIndex_df160 1 = .ok (.iload_n 1, 1) := by decide +kernel
theorem dJ0_checkIndex_df160_2 : decode cJ0_checkIndex_df160 2 = .ok (.getstatic 1053, 3) := by decide +kernel
theorem dJ0_checkIndex_df160_5 : decode cJ0_checkIndex_df160 5 = .ok (.invokestatic 1059, 3) := by decide +kernel
theorem dJ0_checkIndex_df160_8 : decode cJ0_checkIndex_df160 8 = .ok (.pop, 1) := by decide +kernel
theorem dJ0_checkIndex_df160_9 : decode cJ0_checkIndex_df160 9 = .ok (.return_, 1) := by decide +kernel
theorem dJ1_charAt_3b067_0 : decode cJ1_charAt_3b067 0 = .ok (.iload_n 1, 1) := by decide +kernel
theorem dJ1_charAt_3b067_1 : decode cJ1_charAt_3b067 1 = .ok (.aload_n 0, 1) := by decide +kernel
theorem dJ1_charAt_3b067_2 : decode cJ1_charAt_3b067 2 = .ok (.arraylength, 1) := by decide +kernel
theorem dJ1_charAt_3b067_3 : decode cJ1_charAt_3b067 3 = .ok (.invokestatic 9, 3) := by decide +kernel
theorem dJ1_charAt_3b067_6 : decode cJ1_charAt_3b067 6 = .ok (.aload_n 0, 1) := by decide +kernel
theorem dJ1_charAt_3b067_7 : decode cJ1_charAt_3b067 7 = .ok (.iload_n 1, 1) := by decide +kernel
theorem dJ1_charAt_3b067_8 : decode cJ1_charAt_3b067 8 = .ok (.baload, 1) := by decide +kernel
theorem dJ1_charAt_3b067_9 : decode cJ1_charAt_3b067 9 = .ok (.sipush 255, 3) := by decide +kernel
theorem dJ1_charAt_3b067_12 : decode cJ1_charAt_3b067 12 = .ok (.iand, 1) := by decide +kernel
theorem dJ1_charAt_3b067_13 : decode cJ1_charAt_3b067 13 = .ok (.i2c, 1) := by decide +kernel
theorem dJ1_charAt_3b067_14 : decode cJ1_charAt_3b067 14 = .ok (.ireturn, 1) := by decide +kernel
theorem dJ3_checkIndex_8e157_0 : decode cJ3_checkIndex_8e157 0 = .ok (.iload_n 0, 1) := by decide +kernel
theorem dJ3_checkIndex_8e157_1 : decode cJ3_checkIndex_8e157 1 = .ok (.ifCond .lt 8, 3) := by decide +kernel
theorem dJ3_checkIndex_8e157_4 : decode cJ3_checkIndex_8e157 4 = .ok (.iload_n 0, 1) := by decide +kernel
theorem dJ3_checkIndex_8e157_5 : decode cJ3_checkIndex_8e157 5 = .ok (.iload_n 1, 1) := by decide +kernel
theorem dJ3_checkIndex_8e157_6 : decode cJ3_checkIndex_8e157 6 = .ok (.if_icmp .lt 10, 3) := by decide +kernel
theorem dJ3_checkIndex_8e157_9 : decode cJ3_checkIndex_8e157 9 = .ok (.aload_n 2, 1) := by decide +kernel
theorem dJ3_checkIndex_8e157_10 : decode cJ3_checkIndex_8e157 10 = .ok (.iload_n 0, 1) := by decide +kernel
theorem dJ3_checkIndex_8e157_11 : decode cJ3_checkIndex_8e157 11 = .ok (.iload_n 1, 1) := by decide +kernel
theorem dJ3_checkIndex_8e157_12 : decode cJ3_checkIndex_8e157 12 = .ok (.invokestatic 95, 3) := by decide +kernel
theorem dJ3_checkIndex_8e157_16 : decode cJ3_checkIndex_8e157 16 = .ok (.iload_n 0, 1) := by decide +kernel
theorem dJ3_checkIndex_8e157_17 : decode cJ3_checkIndex_8e157 17 = .ok (.ireturn, 1) := by decide +kernel
set_option maxRecDepth 100000 in
set_option maxHeartbeats 4000000 in
theorem cS_coder {x : Nat} (hx : x < 5) {h0 : Hp} : Mt 1 yJ0_coder_7d493 cJ0_coder_7d493 1 (some .byte) [.ref (1010 + x)] h0 (some (.int 0)) h0 := by
  refine MtQ.of (by decide) (Nat.le_of_ble_eq_true rfl) (fun X adr hr hn => ?_)
  show AW X cJ0_coder_7d493 1 RJ0 (rmd 1 0 0) (Qmet X 0 0 (Qe (some (.int 0)) h0 adr)) 0 0 adr h0 0 [(0, .ref (1010 + x))] []
  refine aw_cs dJ0_coder_7d493_0 lsJ0_38 ?_
  refine aw_if_eq (tgt := 13) dJ0_coder_7d493_3 (by decide) (fun c => absurd c (by decide)) (fun _ => ?_)
  refine aw_aload_n 0 dJ0_coder_7d493_6 rfl rfl ?_
  refine aw_kco hx dJ0_coder_7d493_7 lsJ0_15 ?_
  refine aw_goto (tgt := 14) dJ0_coder_7d493_10 (by decide) ?_
  exact aw_zret hr (by decide) dJ0_coder_7d493_14 ⟨rfl, rfl, rfl⟩
set_option maxRecDepth 100000 in
set_option maxHeartbeats 4000000 in
theorem cS_isLatin1 {x : Nat} (hx : x < 5) {h0 : Hp} : Mt 1 yJ0_isLatin1_aae02 cJ0_isLatin1_aae02 1 (some .boolean) [.ref (1010 + x)] h0 (some (.int 1)) h0 := by
  refine MtQ.of (by decide) (Nat.le_of_ble_eq_true rfl) (fun X adr hr hn => ?_)
  show AW X cJ0_isLatin1_aae02 1 RJ0 (rmd 1 0 0) (Qmet X 0 0 (Qe (some (.int 1)) h0 adr)) 0 0 adr h0 0 [(0, .ref (1010 + x))] []
  refine aw_cs dJ0_isLatin1_aae02_0 lsJ0_38 ?_
  refine aw_if_eq (tgt := 17) dJ0_isLatin1_aae02_3 (by decide) (fun c => absurd c (by decide)) (fun _ => ?_)
  refine aw_aload_n 0 dJ0_isLatin1_aae02_6 rfl rfl ?_
  refine aw_kco hx dJ0_isLatin1_aae02_7 lsJ0_15 ?_
  refine aw_if_ne (tgt := 17) dJ0_isLatin1_aae02_10 (by decide) (fun c => absurd rfl c) (fun _ => ?_)
  refine aw_iconst (v := 1) dJ0_isLatin1_aae02_13 (by decide) ?_
  refine aw_goto (tgt := 18) dJ0_isLatin1_aae02_14 (by decide) ?_
  exact aw_zret hr (by decide) dJ0_isLatin1_aae02_18 ⟨rfl, rfl, rfl⟩
set_option maxRecDepth 100000 in
set_option maxHeartbeats 4000000 in
theorem cS_length0 {x : Nat} (hx : x < 5) {h0 : Hp} : Mt 2 yJ0_length_8abf5 cJ0_length_8abf5 1 (some .int) [.ref (1010 + x)] h0 (some (.int (Int32.ofNat (lenK x)))) h0 := by
  refine MtQ.of (by decide) (Nat.le_of_ble_eq_true rfl) (fun X adr hr hn => ?_)
  show AW X cJ0_length_8abf5 1 RJ0 (rmd 2 0 0) (Qmet X 0 0 (Qe (some (.int (Int32.ofNat (lenK x)))) h0 adr)) 0 0 adr h0 0 [(0, .ref (1010 + x))] []
  refine aw_aload_n 0 dJ0_length_8abf5_0 rfl rfl ?_
  refine aw_kva hx dJ0_length_8abf5_1 lsJ0_9 ?_
  refine aw_kle hx dJ0_length_8abf5_4 ?_
  refine aw_aload_n 0 dJ0_length_8abf5_5 rfl rfl ?_
  refine aw_cK (as := []) ⟨by omega, by omega⟩ dJ0_length_8abf5_6 moJ0_coder_7d493 voJ0_coder_7d493 rfl mlJ0_335 (rm_ok (by omega) (by decide)) ⟨Nat.le_refl _, Nat.le_refl _⟩ (Nat.le_of_ble_eq_true rfl) rfl (cS_coder hx) ?_
  refine aw_ishr dJ0_length_8abf5_9 ?_
  rw [(lenK_ok x hx).1]
  exact aw_iret hr dJ0_length_8abf5_10 ⟨rfl, rfl, rfl⟩
set_option maxRecDepth 100000 in
set_option maxHeartbeats 4000000 in
theorem cS_ci3r {i n : Int32} (h1 : ¬ i < 0) (h2 : i < n) {h0 : Hp} : Mt 1 yJ3_checkIndex_8e157 cJ3_checkIndex_8e157 3 (some .int) [.int i, .int n, .ref 1031] h0 (some (.int i)) h0 := by
  refine MtQ.of (by decide) (Nat.le_of_ble_eq_true rfl) (fun X adr hr hn => ?_)
  show AW X cJ3_checkIndex_8e157 3 RJ3 (rmd 1 0 0) (Qmet X 0 0 (Qe (some (.int i)) h0 adr)) 0 0 adr h0 0 [(0, .int i), (1, .int n), (2, .ref 1031)] []
  refine aw_iload_n 0 dJ3_checkIndex_8e157_0 rfl rfl ?_
  refine aw_if_lt (tgt := 9) dJ3_checkIndex_8e157_1 (by decide) (fun c => absurd c h1) (fun _ => ?_)
  refine aw_iload_n 0 dJ3_checkIndex_8e157_4 rfl rfl ?_
  refine aw_iload_n 1 dJ3_checkIndex_8e157_5 rfl rfl ?_
  refine aw_icmp_lt (tgt := 16) dJ3_checkIndex_8e157_6 (by decide) (fun _ => ?_) (fun c => absurd h2 c)
  refine aw_iload_n 0 dJ3_checkIndex_8e157_16 rfl rfl ?_
  exact aw_iret hr dJ3_checkIndex_8e157_17 ⟨rfl, rfl, rfl⟩
set_option maxRecDepth 100000 in
set_option maxHeartbeats 4000000 in
theorem cS_ci3n {i n : Int32} (h1 : ¬ i < 0) (h2 : i < n) {h0 : Hp} : Mt 1 yJ3_checkIndex_8e157 cJ3_checkIndex_8e157 3 (some .int) [.int i, .int n, .null] h0 (some (.int i)) h0 := by
  refine MtQ.of (by decide) (Nat.le_of_ble_eq_true rfl) (fun X adr hr hn => ?_)
  show AW X cJ3_checkIndex_8e157 3 RJ3 (rmd 1 0 0) (Qmet X 0 0 (Qe (some (.int i)) h0 adr)) 0 0 adr h0 0 [(0, .int i), (1, .int n), (2, .null)] []
  refine aw_iload_n 0 dJ3_checkIndex_8e157_0 rfl rfl ?_
  refine aw_if_lt (tgt := 9) dJ3_checkIndex_8e157_1 (by decide) (fun c => absurd c h1) (fun _ => ?_)
  refine aw_iload_n 0 dJ3_checkIndex_8e157_4 rfl rfl ?_
  refine aw_iload_n 1 dJ3_checkIndex_8e157_5 rfl rfl ?_
  refine aw_icmp_lt (tgt := 16) dJ3_checkIndex_8e157_6 (by decide) (fun _ => ?_) (fun c => absurd h2 c)
  refine aw_iload_n 0 dJ3_checkIndex_8e157_16 rfl rfl ?_
  exact aw_iret hr dJ3_checkIndex_8e157_17 ⟨rfl, rfl, rfl⟩
set_option maxRecDepth 100000 in
set_option maxHeartbeats 4000000 in
theorem cS_ci0 {i n : Int32} (h1 : ¬ i < 0) (h2 : i < n) {h0 : Hp} : Mt 2 yJ0_checkIndex_df160 cJ0_checkIndex_df160 2 none [.int i, .int n] h0 none h0 := by
  refine MtQ.of (by decide) (Nat.le_of_ble_eq_true rfl) (fun X adr hr hn => ?_)
  show AW X cJ0_checkIndex_df160 2 RJ0 (rmd 2 0 0) (Qmet X 0 0 (Qe none h0 adr)) 0 0 adr h0 0 [(0, .int i), (1, .int n)] []
  refine aw_iload_n 0 dJ0_checkIndex_df160_0 rfl rfl ?_
  refine aw_iload_n 1 dJ0_checkIndex_df160_1 rfl rfl ?_
  refine aw_cf dJ0_checkIndex_df160_2 lsJ0_1053 (fun v hv => ?_)
  rcases hv with rfl | rfl
  · refine aw_cS (as := [.int i, .int n, .null]) dJ0_checkIndex_df160_5 moJ3_checkIndex_8e157 soJ3_checkIndex_8e157 mlJ0_1059 (rm_ok (by omega) (by decide)) ⟨Nat.le_refl _, Nat.le_refl _⟩ (Nat.le_of_ble_eq_true rfl) rfl (cS_ci3n h1 h2) ?_
    refine aw_pop dJ0_checkIndex_df160_8 rfl ?_
    exact aw_vret hr dJ0_checkIndex_df160_9 ⟨rfl, rfl, rfl⟩
  · refine aw_cS (as := [.int i, .int n, .ref 1031]) dJ0_checkIndex_df160_5 moJ3_checkIndex_8e157 soJ3_checkIndex_8e157 mlJ0_1059 (rm_ok (by omega) (by decide)) ⟨Nat.le_refl _, Nat.le_refl _⟩ (Nat.le_of_ble_eq_true rfl) rfl (cS_ci3r h1 h2) ?_
    refine aw_pop dJ0_checkIndex_df160_8 rfl ?_
    exact aw_vret hr dJ0_checkIndex_df160_9 ⟨rfl, rfl, rfl⟩
set_option maxRecDepth 100000 in
set_option maxHeartbeats 4000000 in
theorem cS_ch1 {x : Nat} {i : Int32} (hx : x < 5) (h1 : ¬ i < 0) (h2 : i.toNatClampNeg < lenK x) {h0 : Hp} : Mt 3 yJ1_charAt_3b067 cJ1_charAt_3b067 2 (some .char) [.ref (1020 + x), .int i] h0 (some (.int (chK x i.toNatClampNeg))) h0 := by
  refine MtQ.of (by decide) (Nat.le_of_ble_eq_true rfl) (fun X adr hr hn => ?_)
  show AW X cJ1_charAt_3b067 2 RJ1 (rmd 3 0 0) (Qmet X 0 0 (Qe (some (.int (chK x i.toNatClampNeg))) h0 adr)) 0 0 adr h0 0 [(0, .ref (1020 + x)), (1, .int i)] []
  have h5 := (lenK_ok x hx).2
  have h3 : i < Int32.ofNat (lenK x) := by
    rw [Int32.lt_iff_toInt_lt, ← Int32.ofInt_eq_ofNat, Int32.toInt_ofInt_of_le (by omega) (by omega)]
    have : i.toNatClampNeg = i.toInt.toNat := rfl
    omega
  refine aw_iload_n 1 dJ1_charAt_3b067_0 rfl rfl ?_
  refine aw_aload_n 0 dJ1_charAt_3b067_1 rfl rfl ?_
  refine aw_kle hx dJ1_charAt_3b067_2 ?_
  refine aw_cS0 (as := [.int i, .int (Int32.ofNat (lenK x))]) dJ1_charAt_3b067_3 moJ0_checkIndex_df160 soJ0_checkIndex_df160 mlJ1_9 (rm_ok (by omega) (by decide)) ⟨Nat.le_refl _, Nat.le_refl _⟩ (Nat.le_of_ble_eq_true rfl) rfl (cS_ci0 h1 h3) ?_
  refine aw_aload_n 0 dJ1_charAt_3b067_6 rfl rfl ?_
  refine aw_iload_n 1 dJ1_charAt_3b067_7 rfl rfl ?_
  refine aw_kba hx dJ1_charAt_3b067_8 (fun q => q.elim h1 (fun w => by omega)) ?_
  refine aw_sipush (v := 255) dJ1_charAt_3b067_9 (by decide) ?_
  refine aw_iand dJ1_charAt_3b067_12 ?_
  refine aw_i2c dJ1_charAt_3b067_13 (chK_ok x hx _ (by omega)).1 ?_
  exact aw_zret hr (chK_ok x hx _ (by omega)).2 dJ1_charAt_3b067_14 ⟨rfl, rfl, rfl⟩
set_option maxRecDepth 100000 in
set_option maxHeartbeats 4000000 in
theorem cS_charAt0 {x : Nat} {i : Int32} (hx : x < 5) (h1 : ¬ i < 0) (h2 : i.toNatClampNeg < lenK x) {h0 : Hp} : Mt 4 yJ0_charAt_5068e cJ0_charAt_5068e 2 (some .char) [.ref (1010 + x), .int i] h0 (some (.int (chK x i.toNatClampNeg))) h0 := by
  refine MtQ.of (by decide) (Nat.le_of_ble_eq_true rfl) (fun X adr hr hn => ?_)
  show AW X cJ0_charAt_5068e 2 RJ0 (rmd 4 0 0) (Qmet X 0 0 (Qe (some (.int (chK x i.toNatClampNeg))) h0 adr)) 0 0 adr h0 0 [(0, .ref (1010 + x)), (1, .int i)] []
  have h5 := (lenK_ok x hx).2
  refine aw_aload_n 0 dJ0_charAt_5068e_0 rfl rfl ?_
  refine aw_cK (as := []) ⟨by omega, by omega⟩ dJ0_charAt_5068e_1 moJ0_isLatin1_aae02 voJ0_isLatin1_aae02 rfl mlJ0_492 (rm_ok (by omega) (by decide)) ⟨Nat.le_refl _, Nat.le_refl _⟩ (Nat.le_of_ble_eq_true rfl) rfl (cS_isLatin1 hx) ?_
  refine aw_if_eq (tgt := 16) dJ0_charAt_5068e_4 (by decide) (fun c => absurd c (by decide)) (fun _ => ?_)
  refine aw_aload_n 0 dJ0_charAt_5068e_7 rfl rfl ?_
  refine aw_kva hx dJ0_charAt_5068e_8 lsJ0_9 ?_
  refine aw_iload_n 1 dJ0_charAt_5068e_11 rfl rfl ?_
  refine aw_cS (as := [.ref (1020 + x), .int i]) dJ0_charAt_5068e_12 moJ1_charAt_3b067 soJ1_charAt_3b067 mlJ0_495 (rm_ok (by omega) (by decide)) ⟨Nat.le_refl _, Nat.le_refl _⟩ (Nat.le_of_ble_eq_true rfl) rfl (cS_ch1 hx h1 h2) ?_
  exact aw_zret hr (chK_ok x hx _ (by omega)).2 dJ0_charAt_5068e_15 ⟨rfl, rfl, rfl⟩
theorem kS_length {r : Nat} {h : Hp} {q : Int32 × Hp} (hf : fS_length r h = some q) : 1010 ≤ r ∧ r < 1015 := by
  unfold fS_length at hf
  split at hf
  · assumption
  · cases hf
theorem kS_charAt {r : Nat} {i : Int32} {h : Hp} {q : Int32 × Hp} (hf : fS_charAt r i h = some q) : 1010 ≤ r ∧ r < 1015 := by
  unfold fS_charAt at hf
  split at hf
  · rename_i c
    exact c.1
  · cases hf
set_option maxRecDepth 100000 in
theorem cS_length {r : Nat} {h : Hp} {q : Int32 × Hp} (hf : fS_length r h = some q) : Mt 2 yJ0_length_8abf5 cJ0_length_8abf5 1 (some .int) [.ref r] h (some (.int q.1)) q.2 := by
  have hx := kS_length hf
  unfold fS_length at hf
  rw [if_pos hx] at hf
  have hf := Option.some.inj hf
  subst hf
  have := cS_length0 (x := r - 1010) (by omega) (h0 := h)
  rw [show 1010 + (r - 1010) = r from by omega] at this
  exact this
set_option maxRecDepth 100000 in
theorem cS_charAt {r : Nat} {i : Int32} {h : Hp} {q : Int32 × Hp} (hf : fS_charAt r i h = some q) : Mt 4 yJ0_charAt_5068e cJ0_charAt_5068e 2 (some .char) [.ref r, .int i] h (some (.int q.1)) q.2 := by
  unfold fS_charAt at hf
  split at hf
  · rename_i c
    have hf := Option.some.inj hf
    subst hf
    have := cS_charAt0 (x := r - 1010) (i := i) (by omega) c.2.1 c.2.2 (h0 := h)
    rw [show 1010 + (r - 1010) = r from by omega] at this
    exact this
  · exact absurd hf (by simp)
