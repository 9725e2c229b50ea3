theorem dJ6_bitCount_0f7a4_0 : decode cJ6_bitCount_0f7a4 0 = .ok (.iload_n 0, 1) := by decide +kernel
theorem dJ6_bitCount_0f7a4_1 : decode cJ6_bitCount_0f7a4 1 = .ok (.iload_n 0, 1) := by decide +kernel
theorem dJ6_bitCount_0f7a4_2 : decode cJ6_bitCount_0f7a4 2 = .ok (.iconst 1, 1) := by decide +kernel
theorem dJ6_bitCount_0f7a4_3 : decode cJ6_bitCount_0f7a4 3 = .ok (.iushr, 1) := by decide +kernel
theorem dJ6_bitCount_0f7a4_4 : decode cJ6_bitCount_0f7a4 4 = .ok (.ldc_w 265, 3) := by decide +kernel
theorem dJ6_bitCount_0f7a4_7 : decode cJ6_bitCount_0f7a4 7 = .ok (.iand, 1) := by decide +kernel
theorem dJ6_bitCount_0f7a4_8 : decode cJ6_bitCount_0f7a4 8 = .ok (.isub, 1) := by decide +kernel
theorem dJ6_bitCount_0f7a4_9 : decode cJ6_bitCount_0f7a4 9 = .ok (.istore_n 0, 1) := by decide +kernel
theorem dJ6_bitCount_0f7a4_10 : decode cJ6_bitCount_0f7a4 10 = .ok (.iload_n 0, 1) := by decide +kernel
theorem dJ6_bitCount_0f7a4_11 : decode cJ6_bitCount_0f7a4 11 = .ok (.ldc_w 266, 3) := by decide +kernel
theorem dJ6_bitCount_0f7a4_14 : decode cJ6_bitCount_0f7a4 14 = .ok (.iand, 1) := by decide +kernel
theorem dJ6_bitCount_0f7a4_15 : decode cJ6_bitCount_0f7a4 15 = .ok (.iload_n 0, 1) := by decide +kernel
theorem dJ6_bitCount_0f7a4_16 : decode cJ6_bitCount_0f7a4 16 = .ok (.iconst 2, 1) := by decide +kernel
theorem dJ6_bitCount_0f7a4_17 : decode cJ6_bitCount_0f7a4 17 = .ok (.iushr, 1) := by decide +kernel
theorem dJ6_bitCount_0f7a4_18 : decode cJ6_bitCount_0f7a4 18 = .ok (.ldc_w 266, 3) := by decide +kernel
theorem dJ6_bitCount_0f7a4_21 : decode cJ6_bitCount_0f7a4 21 = .ok (.iand, 1) := by decide +kernel
theorem dJ6_bitCount_0f7a4_22 : decode cJ6_bitCount_0f7a4 22 = .ok (.iadd, 1) := by decide +kernel
theorem dJ6_bitCount_0f7a4_23 : decode cJ6_bitCount_0f7a4 23 = .ok (.istore_n 0, 1) := by decide +kernel
theorem dJ6_bitCount_0f7a4_24 : decode cJ6_bitCount_0f7a4 24 = .ok (.iload_n 0, 1) := by decide +kernel
theorem dJ6_bitCount_0f7a4_25 : decode cJ6_bitCount_0f7a4 25 = .ok (.iload_n 0, 1) := by decide +kernel
theorem dJ6_bitCount_0f7a4_26 : decode cJ6_bitCount_0f7a4 26 = .ok (.iconst 4, 1) := by decide +kernel
theorem dJ6_bitCount_0f7a4_27 : decode cJ6_bitCount_0f7a4 27 = .ok (.iushr, 1) := by decide +kernel
theorem dJ6_bitCount_0f7a4_28 : decode cJ6_bitCount_0f7a4 28 = .ok (.iadd, 1) := by decide +kernel
theorem dJ6_bitCount_0f7a4_29 : decode cJ6_bitCount_0f7a4 29 = .ok (.ldc_w 267, 3) := by decide +kernel
theorem dJ6_bitCount_0f7a4_32 : decode cJ6_bitCount_0f7a4 32 = .ok (.iand, 1) := by decide +kernel
theorem dJ6_bitCount_0f7a4_33 : decode cJ6_bitCount_0f7a4 33 = .ok (.istore_n 0, 1) := by decide +kernel
theorem dJ6_bitCount_0f7a4_34 : decode cJ6_bitCount_0f7a4 34 = .ok (.iload_n 0, 1) := by decide +kernel
theorem dJ6_bitCount_0f7a4_35 : decode cJ6_bitCount_0f7a4 35 = .ok (.iload_n 0, 1) := by decide +kernel
theorem dJ6_bitCount_0f7a4_36 : decode cJ6_bitCount_0f7a4 36 = .ok (.bipush 8, 2) := by decide +kernel
theorem dJ6_bitCount_0f7a4_38 : decode cJ6_bitCount_0f7a4 38 = .ok (.iushr, 1) := by decide +kernel
theorem dJ6_bitCount_0f7a4_39 : decode cJ6_bitCount_0f7a4 39 = .ok (.iadd, 1) := by decide +kernel
theorem dJ6_bitCount_0f7a4_40 : decode cJ6_bitCount_0f7a4 40 = .ok (.istore_n 0, 1) := by decide +kernel
theorem dJ6_bitCount_0f7a4_41 : decode cJ6_bitCount_0f7a4 41 = .ok (.iload_n 0, 1) := by decide +kernel
theorem dJ6_bitCount_0f7a4_42 : decode cJ6_bitCount_0f7a4 42 = .ok (.iload_n 0, 1) := by decide +kernel
theorem dJ6_bitCount_0f7a4_43 : decode cJ6_bitCount_0f7a4 43 = .ok (.bipush 16, 2) := by decide +kernel
theorem dJ6_bitCount_0f7a4_45 : decode cJ6_bitCount_0f7a4 45 = .ok (.iushr, 1) := by decide +kernel
theorem dJ6_bitCount_0f7a4_46 : decode cJ6_bitCount_0f7a4 46 = .ok (.iadd, 1) := by decide +kernel
theorem dJ6_bitCount_0f7a4_47 : decode cJ6_bitCount_0f7a4 47 = .ok (.istore_n 0, 1) := by decide +kernel
theorem dJ6_bitCount_0f7a4_48 : decode cJ6_bitCount_0f7a4 48 = .ok (.iload_n 0, 1) := by decide +kernel
theorem dJ6_bitCount_0f7a4_49 : decode cJ6_bitCount_0f7a4 49 = .ok (.bipush 63, 2) := by decide +kernel
theorem dJ6_bitCount_0f7a4_51 : decode cJ6_bitCount_0f7a4 51 = .ok (.iand, 1) := by decide +kernel
theorem dJ6_bitCount_0f7a4_52 : decode cJ6_bitCount_0f7a4 52 = .ok (.ireturn, 1) := by decide +kernel
def f_J6_bitCount_0f7a4 (l0 : Int32) (h0 : Hp) : Option (Int32 × Hp) :=
  (some (l0 - ((ushr l0 (1 : Int32)) &&& (1431655765 : Int32)))).bind fun x1 => (some ((x1 &&& (858993459 : Int32)) + ((ushr x1 (2 : Int32)) &&& (858993459 : Int32)))).bind fun x2 => (some ((x2 + (ushr x2 (4 : Int32))) &&& (252645135 : Int32))).bind fun x3 => (some (x3 + (ushr x3 (8 : Int32)))).bind fun x4 => (some (x4 + (ushr x4 (16 : Int32)))).bind fun x5 => some ((x5 &&& (63 : Int32)), h0)
set_option maxRecDepth 100000 in
set_option maxHeartbeats 4000000 in
theorem c_J6_bitCount_0f7a4 {l0 : Int32} {h0 : Hp} {q : Int32 × Hp} (hf : f_J6_bitCount_0f7a4 l0 h0 = some q) : Mt 1 yJ6_bitCount_0f7a4 cJ6_bitCount_0f7a4 1 (some .int) [.int l0] h0 (some (.int q.1)) q.2 := by
  refine MtQ.of (by decide) (Nat.le_of_ble_eq_true rfl) (fun X adr hr hn => ?_)
  unfold f_J6_bitCount_0f7a4 at hf
  show AW X cJ6_bitCount_0f7a4 1 RJ6 (rmd 1 0 0) (Qmet X 0 0 (Qe (some (.int q.1)) q.2 adr)) 0 0 adr h0 0 [(0, .int l0)] []
  refine aw_iload_n 0 dJ6_bitCount_0f7a4_0 rfl rfl ?_
  refine aw_iload_n 0 dJ6_bitCount_0f7a4_1 rfl rfl ?_
  refine aw_iconst (v := 1) dJ6_bitCount_0f7a4_2 (by decide) ?_
  refine aw_iushr dJ6_bitCount_0f7a4_3 ?_
  refine aw_ldcw dJ6_bitCount_0f7a4_4 kcJ6_265 ?_
  refine aw_iand dJ6_bitCount_0f7a4_7 ?_
  refine aw_isub dJ6_bitCount_0f7a4_8 ?_
  obtain ⟨x1, ex1, hf⟩ := b_some hf
  refine aw_nm ex1 ?_
  refine aw_istore_n (L' := [(0, .int x1)]) dJ6_bitCount_0f7a4_9 rfl (by decide) rfl ?_
  refine aw_iload_n 0 dJ6_bitCount_0f7a4_10 rfl rfl ?_
  refine aw_ldcw dJ6_bitCount_0f7a4_11 kcJ6_266 ?_
  refine aw_iand dJ6_bitCount_0f7a4_14 ?_
  refine aw_iload_n 0 dJ6_bitCount_0f7a4_15 rfl rfl ?_
  refine aw_iconst (v := 2) dJ6_bitCount_0f7a4_16 (by decide) ?_
  refine aw_iushr dJ6_bitCount_0f7a4_17 ?_
  refine aw_ldcw dJ6_bitCount_0f7a4_18 kcJ6_266 ?_
  refine aw_iand dJ6_bitCount_0f7a4_21 ?_
  refine aw_iadd dJ6_bitCount_0f7a4_22 ?_
  obtain ⟨x2, ex2, hf⟩ := b_some hf
  refine aw_nm ex2 ?_
  refine aw_istore_n (L' := [(0, .int x2)]) dJ6_bitCount_0f7a4_23 rfl (by decide) rfl ?_
  refine aw_iload_n 0 dJ6_bitCount_0f7a4_24 rfl rfl ?_
  refine aw_iload_n 0 dJ6_bitCount_0f7a4_25 rfl rfl ?_
  refine aw_iconst (v := 4) dJ6_bitCount_0f7a4_26 (by decide) ?_
  refine aw_iushr dJ6_bitCount_0f7a4_27 ?_
  refine aw_iadd dJ6_bitCount_0f7a4_28 ?_
  refine aw_ldcw dJ6_bitCount_0f7a4_29 kcJ6_267 ?_
  refine aw_iand dJ6_bitCount_0f7a4_32 ?_
  obtain ⟨x3, ex3, hf⟩ := b_some hf
  refine aw_nm ex3 ?_
  refine aw_istore_n (L' := [(0, .int x3)]) dJ6_bitCount_0f7a4_33 rfl (by decide) rfl ?_
  refine aw_iload_n 0 dJ6_bitCount_0f7a4_34 rfl rfl ?_
  refine aw_iload_n 0 dJ6_bitCount_0f7a4_35 rfl rfl ?_
  refine aw_bipush (v := 8) dJ6_bitCount_0f7a4_36 (by decide) ?_
  refine aw_iushr dJ6_bitCount_0f7a4_38 ?_
  refine aw_iadd dJ6_bitCount_0f7a4_39 ?_
  obtain ⟨x4, ex4, hf⟩ := b_some hf
  refine aw_nm ex4 ?_
  refine aw_istore_n (L' := [(0, .int x4)]) dJ6_bitCount_0f7a4_40 rfl (by decide) rfl ?_
  refine aw_iload_n 0 dJ6_bitCount_0f7a4_41 rfl rfl ?_
  refine aw_iload_n 0 dJ6_bitCount_0f7a4_42 rfl rfl ?_
  refine aw_bipush (v := 16) dJ6_bitCount_0f7a4_43 (by decide) ?_
  refine aw_iushr dJ6_bitCount_0f7a4_45 ?_
  refine aw_iadd dJ6_bitCount_0f7a4_46 ?_
  obtain ⟨x5, ex5, hf⟩ := b_some hf
  refine aw_nm ex5 ?_
  refine aw_istore_n (L' := [(0, .int x5)]) dJ6_bitCount_0f7a4_47 rfl (by decide) rfl ?_
  refine aw_iload_n 0 dJ6_bitCount_0f7a4_48 rfl rfl ?_
  refine aw_bipush (v := 63) dJ6_bitCount_0f7a4_49 (by decide) ?_
  refine aw_iand dJ6_bitCount_0f7a4_51 ?_
  have hq := Option.some.inj hf
  subst hq
  exact aw_iret hr dJ6_bitCount_0f7a4_52 ⟨rfl, rfl, rfl⟩
theorem dX1_open_0 : decode cX1_open 0 = .ok (.aload_n 0, 1) := by decide +kernel
theorem dX1_open_1 : decode cX1_open 1 = .ok (.aload_n 1, 1) := by decide +kernel
theorem dX1_open_2 : decode cX1_open 2 = .ok (.invokevirtual 27, 3) := by decide +kernel
theorem dX1_open_5 : decode cX1_open 5 = .ok (.putfield 33, 3) := by decide +kernel
theorem dX1_open_8 : decode cX1_open 8 = .ok (.aload_n 0, 1) := by decide +kernel
theorem dX1_open_9 : decode cX1_open 9 = .ok (.aload_n 1, 1) := by decide +kernel
theorem dX1_open_10 : decode cX1_open 10 = .ok (.invokevirtual 37, 3) := by decide +kernel
theorem dX1_open_13 : decode cX1_open 13 = .ok (.putfield 40, 3) := by decide +kernel
theorem dX1_open_16 : decode cX1_open 16 = .ok (.aload_n 0, 1) := by decide +kernel
theorem dX1_open_17 : decode cX1_open 17 = .ok (.aload_n 1, 1) := by decide +kernel
theorem dX1_open_18 : decode cX1_open 18 = .ok (.invokevirtual 43, 3) := by decide +kernel
theorem dX1_open_21 : decode cX1_open 21 = .ok (.ifCond .ne 7, 3) := by decide +kernel
theorem dX1_open_24 : decode cX1_open 24 = .ok (.iconst 1, 1) := by decide +kernel
theorem dX1_open_25 : decode cX1_open 25 = .ok (.goto 4, 3) := by decide +kernel
theorem dX1_open_28 : decode cX1_open 28 = .ok (.iconst 0, 1) := by decide +kernel
theorem dX1_open_29 : decode cX1_open 29 = .ok (.putfield 46, 3) := by decide +kernel
theorem dX1_open_32 : decode cX1_open 32 = .ok (.aload_n 1, 1) := by decide +kernel
theorem dX1_open_33 : decode cX1_open 33 = .ok (.aload_n 0, 1) := by decide +kernel
theorem dX1_open_34 : decode cX1_open 34 = .ok (.getfield 9, 3) := by decide +kernel
theorem dX1_open_37 : decode cX1_open 37 = .ok (.invokevirtual 50, 3) := by decide +kernel
theorem dX1_open_40 : decode cX1_open 40 = .ok (.aload_n 0, 1) := by decide +kernel
theorem dX1_open_41 : decode cX1_open 41 = .ok (.getfield 9, 3) := by decide +kernel
theorem dX1_open_44 : decode cX1_open 44 = .ok (.iload_n 2, 1) := by decide +kernel
theorem dX1_open_45 : decode cX1_open 45 = .ok (.iaload, 1) := by decide +kernel
theorem dX1_open_46 : decode cX1_open 46 = .ok (.aload_n 0, 1) := by decide +kernel
theorem dX1_open_47 : decode cX1_open 47 = .ok (.getfield 33, 3) := by decide +kernel
theorem dX1_open_50 : decode cX1_open 50 = .ok (.iload_n 3, 1) := by decide +kernel
theorem dX1_open_51 : decode cX1_open 51 = .ok (.invokestatic 54, 3) := by decide +kernel
theorem dX1_open_54 : decode cX1_open 54 = .ok (.imul, 1) := by decide +kernel
theorem dX1_open_55 : decode cX1_open 55 = .ok (.iadd, 1) := by decide +kernel
theorem dX1_open_56 : decode cX1_open 56 = .ok (.istore 4, 2) := by decide +kernel
theorem dX1_open_58 : decode cX1_open 58 = .ok (.iconst 0, 1) := by decide +kernel
theorem dX1_open_59 : decode cX1_open 59 = .ok (.istore 5, 2) := by decide +kernel
theorem dX1_open_61 : decode cX1_open 61 = .ok (.iload 5, 2) := by decide +kernel
theorem dX1_open_63 : decode cX1_open 63 = .ok (.bipush 6, 2) := by decide +kernel
theorem dX1_open_65 : decode cX1_open 65 = .ok (.if_icmp .ge 26, 3) := by decide +kernel
theorem dX1_open_68 : decode cX1_open 68 = .ok (.aload_n 0, 1) := by decide +kernel
theorem dX1_open_69 : decode cX1_open 69 = .ok (.getfield 9, 3) := by decide +kernel
theorem dX1_open_72 : decode cX1_open 72 = .ok (.iload 5, 2) := by decide +kernel
theorem dX1_open_74 : decode cX1_open 74 = .ok (.iload 4, 2) := by decide +kernel
theorem dX1_open_76 : decode cX1_open 76 = .ok (.aload_n 0, 1) := by decide +kernel
theorem dX1_open_77 : decode cX1_open 77 = .ok (.getfield 9, 3) := by decide +kernel
theorem dX1_open_80 : decode cX1_open 80 = .ok (.iload 5, 2) := by decide +kernel
theorem dX1_open_82 : decode cX1_open 82 = .ok (.iaload, 1) := by decide +kernel
theorem dX1_open_83 : decode cX1_open 83 = .ok (.isub, 1) := by decide +kernel
theorem dX1_open_84 : decode cX1_open 84 = .ok (.iastore, 1) := by decide +kernel
theorem dX1_open_85 : decode cX1_open 85 = .ok (.iinc 5 1, 3) := by decide +kernel
theorem dX1_open_88 : decode cX1_open 88 = .ok (.goto (-27), 3) := by decide +kernel
theorem dX1_open_91 : decode cX1_open 91 = .ok (.aload_n 0, 1) := by decide +kernel
theorem dX1_open_92 : decode cX1_open 92 = .ok (.iconst 0, 1) := by decide +kernel
theorem dX1_open_93 : decode cX1_open 93 = .ok (.putfield 60, 3) := by decide +kernel
theorem dX1_open_96 : decode cX1_open 96 = .ok (.iconst 0, 1) := by decide +kernel
theorem dX1_open_97 : decode cX1_open 97 = .ok (.istore 5, 2) := by decide +kernel
theorem dX1_open_99 : decode cX1_open 99 = .ok (.iload 5, 2) := by decide +kernel
theorem dX1_open_101 : decode cX1_open 101 = .ok (.aload_n 1, 1) := by decide +kernel
theorem dX1_open_102 : decode cX1_open 102 = .ok (.getfield 63, 3) := by decide +kernel
theorem dX1_open_105 : decode cX1_open 105 = .ok (.if_icmp .ge 82, 3) := by decide +kernel
theorem dX1_open_108 : decode cX1_open 108 = .ok (.aload_n 1, 1) := by decide +kernel
theorem dX1_open_109 : decode cX1_open 109 = .ok (.iload 5, 2) := by decide +kernel
theorem dX1_open_111 : decode cX1_open 111 = .ok (.invokevirtual 66, 3) := by decide +kernel
theorem dX1_open_114 : decode cX1_open 114 = .ok (.ifCond .ne 6, 3) := by decide +kernel
theorem dX1_open_117 : decode cX1_open 117 = .ok (.goto 64, 3) := by decide +kernel
theorem dX1_open_120 : decode cX1_open 120 = .ok (.aload_n 1, 1) := by decide +kernel
theorem dX1_open_121 : decode cX1_open 121 = .ok (.iload 5, 2) := by decide +kernel
theorem dX1_open_123 : decode cX1_open 123 = .ok (.iload_n 2, 1) := by decide +kernel
theorem dX1_open_124 : decode cX1_open 124 = .ok (.invokevirtual 70, 3) := by decide +kernel
theorem dX1_open_127 : decode cX1_open 127 = .ok (.istore 6, 2) := by decide +kernel
theorem dX1_open_129 : decode cX1_open 129 = .ok (.iload 6, 2) := by decide +kernel
theorem dX1_open_131 : decode cX1_open 131 = .ok (.iconst (-1), 1) := by decide +kernel
theorem dX1_open_132 : decode cX1_open 132 = .ok (.if_icmp .ne 26, 3) := by decide +kernel
theorem dX1_open_135 : decode cX1_open 135 = .ok (.aload_n 0, 1) := by decide +kernel
theorem dX1_open_136 : decode cX1_open 136 = .ok (.iload 5, 2) := by decide +kernel
theorem dX1_open_138 : decode cX1_open 138 = .ok (.aload_n 1, 1) := by decide +kernel
theorem dX1_open_139 : decode cX1_open 139 = .ok (.getfield 74, 3) := by decide +kernel
theorem dX1_open_142 : decode cX1_open 142 = .ok (.iload 5, 2) := by decide +kernel
theorem dX1_open_144 : decode cX1_open 144 = .ok (.iaload, 1) := by decide +kernel
theorem dX1_open_145 : decode cX1_open 145 = .ok (.aload_n 1, 1) := by decide +kernel
theorem dX1_open_146 : decode cX1_open 146 = .ok (.getfield 75, 3) := by decide +kernel
theorem dX1_open_149 : decode cX1_open 149 = .ok (.iload 5, 2) := by decide +kernel
theorem dX1_open_151 : decode cX1_open 151 = .ok (.iaload, 1) := by decide +kernel
theorem dX1_open_152 : decode cX1_open 152 = .ok (.invokevirtual 76, 3) := by decide +kernel
theorem dX1_open_155 : decode cX1_open 155 = .ok (.goto 26, 3) := by decide +kernel
theorem dX1_open_158 : decode cX1_open 158 = .ok (.iload_n 3, 1) := by decide +kernel
theorem dX1_open_159 : decode cX1_open 159 = .ok (.iload 5, 2) := by decide +kernel
theorem dX1_open_161 : decode cX1_open 161 = .ok (.invokestatic 80, 3) := by decide +kernel
theorem dX1_open_164 : decode cX1_open 164 = .ok (.ifCond .ne 17, 3) := by decide +kernel
theorem dX1_open_167 : decode cX1_open 167 = .ok (.aload_n 0, 1) := by decide +kernel
theorem dX1_open_168 : decode cX1_open 168 = .ok (.getfield 9, 3) := by decide +kernel
theorem dX1_open_171 : decode cX1_open 171 = .ok (.iload 6, 2) := by decide +kernel
theorem dX1_open_173 : decode cX1_open 173 = .ok (.dup2, 1) := by decide +kernel
theorem dX1_open_174 : decode cX1_open 174 = .ok (.iaload, 1) := by decide +kernel
theorem dX1_open_175 : decode cX1_open 175 = .ok (.aload_n 0, 1) := by decide +kernel
theorem dX1_open_176 : decode cX1_open 176 = .ok (.getfield 33, 3) := by decide +kernel
theorem dX1_open_179 : decode cX1_open 179 = .ok (.isub, 1) := by decide +kernel
theorem dX1_open_180 : decode cX1_open 180 = .ok (.iastore, 1) := by decide +kernel
theorem dX1_open_181 : decode cX1_open 181 = .ok (.iinc 5 1, 3) := by decide +kernel
theorem dX1_open_184 : decode cX1_open 184 = .ok (.goto (-85), 3) := by decide +kernel
theorem dX1_open_187 : decode cX1_open 187 = .ok (.return_, 1) := by decide +kernel
def f_X1_open_99 (k99 : Nat × Nat × Int32 × Int32 × Int32 → Hp → Option (Unit × Hp)) (v : Nat × Nat × Int32 × Int32 × Int32) (h0 : Hp) : Option (Unit × Hp) :=
  match v with
  | (l0, l1, l2, l3, l5) => (gI h0 l1 0 1).bind fun x1 => if x1 ≤ l5 then (some ((), h0)) else ((f_X0_isLeft l1 l5 h0).bind fun q3 => if q3.1 = 0 then ((some (l5 + 1)).bind fun x21 => k99 (l0, l1, l2, l3, x21) q3.2) else ((f_X0_foe l1 l5 l2 q3.2).bind fun q5 => if q5.1 = (-1 : Int32) then ((gR q5.2 l1 0 6).bind fun r15 => (aL q5.2 r15 l5).bind fun x16 => (gR q5.2 l1 0 7).bind fun r17 => (aL q5.2 r17 l5).bind fun x18 => (f_X1_enter l0 l5 x16 x18 q5.2).bind fun q19 => (some (l5 + 1)).bind fun x20 => k99 (l0, l1, l2, l3, x20) q19.2) else ((f_X6_has l3 l5 q5.2).bind fun q7 => if q7.1 = 0 then ((gR q7.2 l0 1 0).bind fun r10 => (aL q7.2 r10 q5.1).bind fun x11 => (gI q7.2 l0 1 6).bind fun x12 => (aS q7.2 r10 q5.1 (x11 - x12)).bind fun h13 => (some (l5 + 1)).bind fun x14 => k99 (l0, l1, l2, l3, x14) h13) else ((some (l5 + 1)).bind fun x9 => k99 (l0, l1, l2, l3, x9) q7.2))))
set_option maxRecDepth 100000 in
set_option maxHeartbeats 4000000 in
theorem c_X1_open_99 {X : Cx} {adr : Nat → Nat} {q : Unit × Hp} (hr : (mth X).sig.returnType = none) (n : Nat) : ∀ v h0, lp (f_X1_open_99) n v h0 = some q → AW X cX1_open 7 RX1 (rmd 3 0 0) (Qmet X 0 0 (Qe none q.2 adr)) 0 0 adr h0 99 [(0, .ref v.1), (1, .ref v.2.1), (2, .int v.2.2.1), (3, .int v.2.2.2.1), (5, .int v.2.2.2.2)] [] := by
  refine aw_lp (fun k99 hk99 v h0 hf => ?_) n
  obtain ⟨l0, l1, l2, l3, l5⟩ := v
  unfold f_X1_open_99 at hf
  dsimp only at hf
  show AW X cX1_open 7 RX1 (rmd 3 0 0) (Qmet X 0 0 (Qe none q.2 adr)) 0 0 adr h0 99 [(0, .ref l0), (1, .ref l1), (2, .int l2), (3, .int l3), (5, .int l5)] []
  refine aw_iload 4 dX1_open_99 rfl ?_
  refine aw_aload_n 1 dX1_open_101 rfl rfl ?_
  obtain ⟨x1, ex1, hf⟩ := b_some hf
  refine aw_getI dX1_open_102 gfX1_63 ex1 ?_
  refine aw_icmp_ge (tgt := 187) dX1_open_105 (by decide) (fun c2 => ?_) (fun c2 => ?_)
  · have hf := i_pos c2 hf
    have hq := Option.some.inj hf
    subst hq
    exact aw_vret hr dX1_open_187 ⟨rfl, rfl, rfl⟩
  · have hf := i_neg c2 hf
    refine aw_aload_n 1 dX1_open_108 rfl rfl ?_
    refine aw_iload 4 dX1_open_109 rfl ?_
    obtain ⟨q3, eq3, hf⟩ := b_some hf
    refine aw_cV (as := [.int l5]) dX1_open_111 moX0_isLeft voX0_isLeft mlX1_66 (k_X0_isLeft eq3) rfl (rm_ok (by omega) (by decide)) ⟨Nat.le_refl _, Nat.le_refl _⟩ (Nat.le_of_ble_eq_true rfl) rfl (c_X0_isLeft eq3) ?_
    refine aw_if_ne (tgt := 120) dX1_open_114 (by decide) (fun c4 => ?_) (fun c4 => ?_)
    · have hf := i_neg c4 hf
      refine aw_aload_n 1 dX1_open_120 rfl rfl ?_
      refine aw_iload 4 dX1_open_121 rfl ?_
      refine aw_iload_n 2 dX1_open_123 rfl rfl ?_
      obtain ⟨q5, eq5, hf⟩ := b_some hf
      refine aw_cV (as := [.int l5, .int l2]) dX1_open_124 moX0_foe voX0_foe mlX1_70 (k_X0_foe eq5) rfl (rm_ok (by omega) (by decide)) ⟨Nat.le_refl _, Nat.le_refl _⟩ (Nat.le_of_ble_eq_true rfl) rfl (c_X0_foe eq5) ?_
      refine aw_istore (L' := [(6, .int q5.1), (0, .ref l0), (1, .ref l1), (2, .int l2), (3, .int l3), (5, .int l5)]) dX1_open_127 (by decide) rfl ?_
      refine aw_iload 0 dX1_open_129 rfl ?_
      refine aw_iconst (v := -1) dX1_open_131 (by decide) ?_
      refine aw_icmp_ne (tgt := 158) dX1_open_132 (by decide) (fun c6 => ?_) (fun c6 => ?_)
      · have hf := i_neg c6 hf
        refine aw_iload_n 4 dX1_open_158 rfl rfl ?_
        refine aw_iload 5 dX1_open_159 rfl ?_
        obtain ⟨q7, eq7, hf⟩ := b_some hf
        refine aw_cSN (as := [.int l3, .int l5]) dX1_open_161 moX6_has soX6_has mnX1_80 (rm_ok (by omega) (by decide)) ⟨Nat.le_refl _, Nat.le_refl _⟩ (Nat.le_of_ble_eq_true rfl) rfl (c_X6_has eq7) ?_
        refine aw_if_ne (tgt := 181) dX1_open_164 (by decide) (fun c8 => ?_) (fun c8 => ?_)
        · have hf := i_neg c8 hf
          obtain ⟨x9, ex9, hf⟩ := b_some hf
          refine aw_iinc (v := x9) (L' := [(5, .int x9), (6, .int q5.1), (0, .ref l0), (1, .ref l1), (2, .int l2), (3, .int l3)]) 5 dX1_open_181 rfl (Option.some.inj ex9) (by decide) rfl ?_
          refine aw_goto (tgt := 99) dX1_open_184 (by decide) ?_
          exact aw_sub [2, 3, 4, 5, 0] rfl (hk99 _ _ hf)
        · have hf := i_pos c8 hf
          refine aw_aload_n 1 dX1_open_167 rfl rfl ?_
          obtain ⟨r10, er10, hf⟩ := b_some hf
          refine aw_getR dX1_open_168 gfX1_9 er10 ?_
          refine aw_iload 0 dX1_open_171 rfl ?_
          refine aw_dup2 dX1_open_173 rfl rfl ?_
          obtain ⟨x11, ex11, hf⟩ := b_some hf
          refine aw_iald dX1_open_174 ex11 ?_
          refine aw_aload_n 1 dX1_open_175 rfl rfl ?_
          obtain ⟨x12, ex12, hf⟩ := b_some hf
          refine aw_getI dX1_open_176 gfX1_33 ex12 ?_
          refine aw_isub dX1_open_179 ?_
          obtain ⟨h13, eh13, hf⟩ := b_some hf
          refine aw_iast dX1_open_180 eh13 ?_
          obtain ⟨x14, ex14, hf⟩ := b_some hf
          refine aw_iinc (v := x14) (L' := [(5, .int x14), (6, .int q5.1), (0, .ref l0), (1, .ref l1), (2, .int l2), (3, .int l3)]) 5 dX1_open_181 rfl (Option.some.inj ex14) (by decide) rfl ?_
          refine aw_goto (tgt := 99) dX1_open_184 (by decide) ?_
          exact aw_sub [2, 3, 4, 5, 0] rfl (hk99 _ _ hf)
      · have hf := i_pos c6 hf
        refine aw_aload_n 1 dX1_open_135 rfl rfl ?_
        refine aw_iload 5 dX1_open_136 rfl ?_
        refine aw_aload_n 2 dX1_open_138 rfl rfl ?_
        obtain ⟨r15, er15, hf⟩ := b_some hf
        refine aw_getR dX1_open_139 gfX1_74 er15 ?_
        refine aw_iload 5 dX1_open_142 rfl ?_
        obtain ⟨x16, ex16, hf⟩ := b_some hf
        refine aw_iald dX1_open_144 ex16 ?_
        refine aw_aload_n 2 dX1_open_145 rfl rfl ?_
        obtain ⟨r17, er17, hf⟩ := b_some hf
        refine aw_getR dX1_open_146 gfX1_75 er17 ?_
        refine aw_iload 5 dX1_open_149 rfl ?_
        obtain ⟨x18, ex18, hf⟩ := b_some hf
        refine aw_iald dX1_open_151 ex18 ?_
        obtain ⟨q19, eq19, hf⟩ := b_some hf
        refine aw_cV0 (as := [.int l5, .int x16, .int x18]) dX1_open_152 moX1_enter voX1_enter mlX1_76 (k_X1_enter eq19) rfl (rm_ok (by omega) (by decide)) ⟨Nat.le_refl _, Nat.le_refl _⟩ (Nat.le_of_ble_eq_true rfl) rfl (c_X1_enter eq19) ?_
        refine aw_goto (tgt := 181) dX1_open_155 (by decide) ?_
        obtain ⟨x20, ex20, hf⟩ := b_some hf
        refine aw_iinc (v := x20) (L' := [(5, .int x20), (6, .int q5.1), (0, .ref l0), (1, .ref l1), (2, .int l2), (3, .int l3)]) 5 dX1_open_181 rfl (Option.some.inj ex20) (by decide) rfl ?_
        refine aw_goto (tgt := 99) dX1_open_184 (by decide) ?_
        exact aw_sub [2, 3, 4, 5, 0] rfl (hk99 _ _ hf)
    · have hf := i_pos c4 hf
      refine aw_goto (tgt := 181) dX1_open_117 (by decide) ?_
      obtain ⟨x21, ex21, hf⟩ := b_some hf
      refine aw_iinc (v := x21) (L' := [(5, .int x21), (0, .ref l0), (1, .ref l1), (2, .int l2), (3, .int l3)]) 4 dX1_open_181 rfl (Option.some.inj ex21) (by decide) rfl ?_
      refine aw_goto (tgt := 99) dX1_open_184 (by decide) ?_
      exact aw_sub [1, 2, 3, 4, 0] rfl (hk99 _ _ hf)
def f_X1_open_61 (k61 : Nat × Nat × Int32 × Int32 × Int32 × Int32 → Hp → Option (Unit × Hp)) (v : Nat × Nat × Int32 × Int32 × Int32 × Int32) (h0 : Hp) : Option (Unit × Hp) :=
  match v with
  | (l0, l1, l2, l3, l4, l5) => if (6 : Int32) ≤ l5 then ((pI h0 l0 1 5 (0 : Int32)).bind fun h2 => lp (f_X1_open_99) 600 (l0, l1, l2, l3, (0 : Int32)) h2) else ((gR h0 l0 1 0).bind fun r3 => (gR h0 l0 1 0).bind fun r4 => (aL h0 r4 l5).bind fun x5 => (aS h0 r3 l5 (l4 - x5)).bind fun h6 => (some (l5 + 1)).bind fun x7 => k61 (l0, l1, l2, l3, l4, x7) h6)
set_option maxRecDepth 100000 in
set_option maxHeartbeats 4000000 in
theorem c_X1_open_61 {X : Cx} {adr : Nat → Nat} {q : Unit × Hp} (hr : (mth X).sig.returnType = none) (n : Nat) : ∀ v h0, lp (f_X1_open_61) n v h0 = some q → AW X cX1_open 7 RX1 (rmd 3 0 0) (Qmet X 0 0 (Qe none q.2 adr)) 0 0 adr h0 61 [(0, .ref v.1), (1, .ref v.2.1), (2, .int v.2.2.1), (3, .int v.2.2.2.1), (4, .int v.2.2.2.2.1), (5, .int v.2.2.2.2.2)] [] := by
  refine aw_lp (fun k61 hk61 v h0 hf => ?_) n
  obtain ⟨l0, l1, l2, l3, l4, l5⟩ := v
  unfold f_X1_open_61 at hf
  dsimp only at hf
  show AW X cX1_open 7 RX1 (rmd 3 0 0) (Qmet X 0 0 (Qe none q.2 adr)) 0 0 adr h0 61 [(0, .ref l0), (1, .ref l1), (2, .int l2), (3, .int l3), (4, .int l4), (5, .int l5)] []
  refine aw_iload 5 dX1_open_61 rfl ?_
  refine aw_bipush (v := 6) dX1_open_63 (by decide) ?_
  refine aw_icmp_ge (tgt := 91) dX1_open_65 (by decide) (fun c1 => ?_) (fun c1 => ?_)
  · have hf := i_pos c1 hf
    refine aw_aload_n 0 dX1_open_91 rfl rfl ?_
    refine aw_iconst (v := 0) dX1_open_92 (by decide) ?_
    obtain ⟨h2, eh2, hf⟩ := b_some hf
    refine aw_putI dX1_open_93 pfX1_60 eh2 ?_
    refine aw_iconst (v := 0) dX1_open_96 (by decide) ?_
    refine aw_istore (L' := [(5, .int (0 : Int32)), (0, .ref l0), (1, .ref l1), (2, .int l2), (3, .int l3), (4, .int l4)]) dX1_open_97 (by decide) rfl ?_
    exact aw_sub [1, 2, 3, 4, 0] rfl (c_X1_open_99 hr 600 _ _ hf)
  · have hf := i_neg c1 hf
    refine aw_aload_n 0 dX1_open_68 rfl rfl ?_
    obtain ⟨r3, er3, hf⟩ := b_some hf
    refine aw_getR dX1_open_69 gfX1_9 er3 ?_
    refine aw_iload 5 dX1_open_72 rfl ?_
    refine aw_iload 4 dX1_open_74 rfl ?_
    refine aw_aload_n 0 dX1_open_76 rfl rfl ?_
    obtain ⟨r4, er4, hf⟩ := b_some hf
    refine aw_getR dX1_open_77 gfX1_9 er4 ?_
    refine aw_iload 5 dX1_open_80 rfl ?_
    obtain ⟨x5, ex5, hf⟩ := b_some hf
    refine aw_iald dX1_open_82 ex5 ?_
    refine aw_isub dX1_open_83 ?_
    obtain ⟨h6, eh6, hf⟩ := b_some hf
    refine aw_iast dX1_open_84 eh6 ?_
    obtain ⟨x7, ex7, hf⟩ := b_some hf
    refine aw_iinc (v := x7) (L' := [(5, .int x7), (0, .ref l0), (1, .ref l1), (2, .int l2), (3, .int l3), (4, .int l4)]) 5 dX1_open_85 rfl (Option.some.inj ex7) (by decide) rfl ?_
    refine aw_goto (tgt := 61) dX1_open_88 (by decide) ?_
    exact aw_sub [1, 2, 3, 4, 5, 0] rfl (hk61 _ _ hf)
def f_X1_open_29 (l0 : Nat) (l1 : Nat) (l2 : Int32) (l3 : Int32) (s0 : Int32) (s1 : Nat) (h0 : Hp) : Option (Unit × Hp) :=
  (pZ h0 s1 1 8 s0).bind fun h1 => (gR h1 l0 1 0).bind fun r2 => (f_X0_pointsInto l1 r2 h1).bind fun q3 => (gR q3.2 l0 1 0).bind fun r4 => (aL q3.2 r4 l2).bind fun x5 => (gI q3.2 l0 1 6).bind fun x6 => (f_J6_bitCount_0f7a4 l3 q3.2).bind fun q7 => (some (x5 + (x6 * q7.1))).bind fun x8 => lp (f_X1_open_61) 600 (l0, l1, l2, l3, x8, (0 : Int32)) q7.2
set_option maxRecDepth 100000 in
set_option maxHeartbeats 4000000 in
theorem c_X1_open_29 {X : Cx} {adr : Nat → Nat} {q : Unit × Hp} (hr : (mth X).sig.returnType = none) {l0 : Nat} {l1 : Nat} {l2 : Int32} {l3 : Int32} {s0 : Int32} {s1 : Nat} {h0 : Hp} (hf : f_X1_open_29 l0 l1 l2 l3 s0 s1 h0 = some q) : AW X cX1_open 7 RX1 (rmd 3 0 0) (Qmet X 0 0 (Qe none q.2 adr)) 0 0 adr h0 29 [(0, .ref l0), (1, .ref l1), (2, .int l2), (3, .int l3)] [.int s0, .ref s1] := by
  unfold f_X1_open_29 at hf
  obtain ⟨h1, eh1, hf⟩ := b_some hf
  refine aw_putZ dX1_open_29 pfX1_46 eh1 ?_
  refine aw_aload_n 1 dX1_open_32 rfl rfl ?_
  refine aw_aload_n 0 dX1_open_33 rfl rfl ?_
  obtain ⟨r2, er2, hf⟩ := b_some hf
  refine aw_getR dX1_open_34 gfX1_9 er2 ?_
  obtain ⟨q3, eq3, hf⟩ := b_some hf
  refine aw_cV0 (as := [.ref r2]) dX1_open_37 moX0_pointsInto voX0_pointsInto mlX1_50 (k_X0_pointsInto eq3) rfl (rm_ok (by omega) (by decide)) ⟨Nat.le_refl _, Nat.le_refl _⟩ (Nat.le_of_ble_eq_true rfl) rfl (c_X0_pointsInto eq3) ?_
  refine aw_aload_n 0 dX1_open_40 rfl rfl ?_
  obtain ⟨r4, er4, hf⟩ := b_some hf
  refine aw_getR dX1_open_41 gfX1_9 er4 ?_
  refine aw_iload_n 2 dX1_open_44 rfl rfl ?_
  obtain ⟨x5, ex5, hf⟩ := b_some hf
  refine aw_iald dX1_open_45 ex5 ?_
  refine aw_aload_n 0 dX1_open_46 rfl rfl ?_
  obtain ⟨x6, ex6, hf⟩ := b_some hf
  refine aw_getI dX1_open_47 gfX1_33 ex6 ?_
  refine aw_iload_n 3 dX1_open_50 rfl rfl ?_
  obtain ⟨q7, eq7, hf⟩ := b_some hf
  refine aw_cS (as := [.int l3]) dX1_open_51 moJ6_bitCount_0f7a4 soJ6_bitCount_0f7a4 mlX1_54 (rm_ok (by omega) (by decide)) ⟨Nat.le_refl _, Nat.le_refl _⟩ (Nat.le_of_ble_eq_true rfl) rfl (c_J6_bitCount_0f7a4 eq7) ?_
  refine aw_imul dX1_open_54 ?_
  refine aw_iadd dX1_open_55 ?_
  obtain ⟨x8, ex8, hf⟩ := b_some hf
  refine aw_nm ex8 ?_
  refine aw_istore (L' := [(4, .int x8), (0, .ref l0), (1, .ref l1), (2, .int l2), (3, .int l3)]) dX1_open_56 (by decide) rfl ?_
  refine aw_iconst (v := 0) dX1_open_58 (by decide) ?_
  refine aw_istore (L' := [(5, .int (0 : Int32)), (4, .int x8), (0, .ref l0), (1, .ref l1), (2, .int l2), (3, .int l3)]) dX1_open_59 (by decide) rfl ?_
  exact aw_sub [2, 3, 4, 5, 1, 0] rfl (c_X1_open_61 hr 600 _ _ hf)
def f_X1_open (l0 : Nat) (l1 : Nat) (l2 : Int32) (l3 : Int32) (h0 : Hp) : Option (Unit × Hp) :=
  (ck h0 l0 1).bind fun _ => (f_X0_winBrings l1 h0).bind fun q1 => (pI q1.2 l0 1 6 q1.1).bind fun h2 => (f_X0_drawBrings l1 h2).bind fun q3 => (pI q3.2 l0 1 7 q3.1).bind fun h4 => (f_X0_firstResult l1 h4).bind fun q5 => if q5.1 = 0 then (f_X1_open_29 l0 l1 l2 l3 (1 : Int32) l0 q5.2) else (f_X1_open_29 l0 l1 l2 l3 (0 : Int32) l0 q5.2)
set_option maxRecDepth 100000 in
set_option maxHeartbeats 4000000 in
theorem c_X1_open {l0 : Nat} {l1 : Nat} {l2 : Int32} {l3 : Int32} {h0 : Hp} {q : Unit × Hp} (hf : f_X1_open l0 l1 l2 l3 h0 = some q) : Mt 3 yX1_open cX1_open 7 none [.ref l0, .ref l1, .int l2, .int l3] h0 none q.2 := by
  refine MtQ.of (by decide) (Nat.le_of_ble_eq_true rfl) (fun X adr hr hn => ?_)
  unfold f_X1_open at hf
  show AW X cX1_open 7 RX1 (rmd 3 0 0) (Qmet X 0 0 (Qe none q.2 adr)) 0 0 adr h0 0 [(0, .ref l0), (1, .ref l1), (2, .int l2), (3, .int l3)] []
  obtain ⟨u0, e0, hf⟩ := b_some hf
  refine aw_aload_n 0 dX1_open_0 rfl rfl ?_
  refine aw_aload_n 1 dX1_open_1 rfl rfl ?_
  obtain ⟨q1, eq1, hf⟩ := b_some hf
  refine aw_cV (as := []) dX1_open_2 moX0_winBrings voX0_winBrings mlX1_27 (k_X0_winBrings eq1) rfl (rm_ok (by omega) (by decide)) ⟨Nat.le_refl _, Nat.le_refl _⟩ (Nat.le_of_ble_eq_true rfl) rfl (c_X0_winBrings eq1) ?_
  obtain ⟨h2, eh2, hf⟩ := b_some hf
  refine aw_putI dX1_open_5 pfX1_33 eh2 ?_
  refine aw_aload_n 0 dX1_open_8 rfl rfl ?_
  refine aw_aload_n 1 dX1_open_9 rfl rfl ?_
  obtain ⟨q3, eq3, hf⟩ := b_some hf
  refine aw_cV (as := []) dX1_open_10 moX0_drawBrings voX0_drawBrings mlX1_37 (k_X0_drawBrings eq3) rfl (rm_ok (by omega) (by decide)) ⟨Nat.le_refl _, Nat.le_refl _⟩ (Nat.le_of_ble_eq_true rfl) rfl (c_X0_drawBrings eq3) ?_
  obtain ⟨h4, eh4, hf⟩ := b_some hf
  refine aw_putI dX1_open_13 pfX1_40 eh4 ?_
  refine aw_aload_n 0 dX1_open_16 rfl rfl ?_
  refine aw_aload_n 1 dX1_open_17 rfl rfl ?_
  obtain ⟨q5, eq5, hf⟩ := b_some hf
  refine aw_cV (as := []) dX1_open_18 moX0_firstResult voX0_firstResult mlX1_43 (k_X0_firstResult eq5) rfl (rm_ok (by omega) (by decide)) ⟨Nat.le_refl _, Nat.le_refl _⟩ (Nat.le_of_ble_eq_true rfl) rfl (c_X0_firstResult eq5) ?_
  refine aw_if_ne (tgt := 28) dX1_open_21 (by decide) (fun c6 => ?_) (fun c6 => ?_)
  · have hf := i_neg c6 hf
    refine aw_iconst (v := 0) dX1_open_28 (by decide) ?_
    exact aw_sub [0, 1, 2, 3] rfl (c_X1_open_29 hr hf)
  · have hf := i_pos c6 hf
    refine aw_iconst (v := 1) dX1_open_24 (by decide) ?_
    refine aw_goto (tgt := 29) dX1_open_25 (by decide) ?_
    exact aw_sub [0, 1, 2, 3] rfl (c_X1_open_29 hr hf)
theorem k_X1_open {l0 : Nat} {l1 : Nat} {l2 : Int32} {l3 : Int32} {h0 : Hp} {q : Unit × Hp} (hf : f_X1_open l0 l1 l2 l3 h0 = some q) : ck h0 l0 1 = some () := by
  unfold f_X1_open at hf
  obtain ⟨u0, e0, hf⟩ := b_some hf
  exact e0
theorem dX1_pickOf_0 : decode cX1_pickOf 0 = .ok (.iconst 0, 1) := by decide +kernel
theorem dX1_pickOf_1 : decode cX1_pickOf 1 = .ok (.istore_n 2, 1) := by decide +kernel
theorem dX1_pickOf_2 : decode cX1_pickOf 2 = .ok (.iload_n 2, 1) := by decide +kernel
theorem dX1_pickOf_3 : decode cX1_pickOf 3 = .ok (.aload_n 0, 1) := by decide +kernel
theorem dX1_pickOf_4 : decode cX1_pickOf 4 = .ok (.getfield 60, 3) := by decide +kernel
theorem dX1_pickOf_7 : decode cX1_pickOf 7 = .ok (.if_icmp .ge 26, 3) := by decide +kernel
theorem dX1_pickOf_10 : decode cX1_pickOf 10 = .ok (.aload_n 0, 1) := by decide +kernel
theorem dX1_pickOf_11 : decode cX1_pickOf 11 = .ok (.getfield 21, 3) := by decide +kernel
theorem dX1_pickOf_14 : decode cX1_pickOf 14 = .ok (.iload_n 2, 1) := by decide +kernel
theorem dX1_pickOf_15 : decode cX1_pickOf 15 = .ok (.iaload, 1) := by decide +kernel
theorem dX1_pickOf_16 : decode cX1_pickOf 16 = .ok (.iload_n 1, 1) := by decide +kernel
theorem dX1_pickOf_17 : decode cX1_pickOf 17 = .ok (.if_icmp .ne 10, 3) := by decide +kernel
theorem dX1_pickOf_20 : decode cX1_pickOf 20 = .ok (.aload_n 0, 1) := by decide +kernel
theorem dX1_pickOf_21 : decode cX1_pickOf 21 = .ok (.getfield 24, 3) := by decide +kernel
theorem dX1_pickOf_24 : decode cX1_pickOf 24 = .ok (.iload_n 2, 1) := by decide +kernel
theorem dX1_pickOf_25 : decode cX1_pickOf 25 = .ok (.iaload, 1) := by decide +kernel
theorem dX1_pickOf_26 : decode cX1_pickOf 26 = .ok (.ireturn, 1) := by decide +kernel
theorem dX1_pickOf_27 : decode cX1_pickOf 27 = .ok (.iinc 2 1, 3) := by decide +kernel
theorem dX1_pickOf_30 : decode cX1_pickOf 30 = .ok (.goto (-28), 3) := by decide +kernel
theorem dX1_pickOf_33 : decode cX1_pickOf 33 = .ok (.iconst (-1), 1) := by decide +kernel
theorem dX1_pickOf_34 : decode cX1_pickOf 34 = .ok (.ireturn, 1) := by decide +kernel
def f_X1_pickOf_2 (k2 : Nat × Int32 × Int32 → Hp → Option (Int32 × Hp)) (v : Nat × Int32 × Int32) (h0 : Hp) : Option (Int32 × Hp) :=
  match v with
  | (l0, l1, l2) => (gI h0 l0 1 5).bind fun x1 => if x1 ≤ l2 then (some ((-1 : Int32), h0)) else ((gR h0 l0 1 3).bind fun r3 => (aL h0 r3 l2).bind fun x4 => if x4 = l1 then ((gR h0 l0 1 4).bind fun r7 => (aL h0 r7 l2).bind fun x8 => some (x8, h0)) else ((some (l2 + 1)).bind fun x6 => k2 (l0, l1, x6) h0))
set_option maxRecDepth 100000 in
set_option maxHeartbeats 4000000 in
theorem c_X1_pickOf_2 {X : Cx} {adr : Nat → Nat} {q : Int32 × Hp} (hr : (mth X).sig.returnType = (some .int)) (n : Nat) : ∀ v h0, lp (f_X1_pickOf_2) n v h0 = some q → AW X cX1_pickOf 3 RX1 (rmd 1 0 0) (Qmet X 0 0 (Qe (some (.int q.1)) q.2 adr)) 0 0 adr h0 2 [(0, .ref v.1), (1, .int v.2.1), (2, .int v.2.2)] [] := by
  refine aw_lp (fun k2 hk2 v h0 hf => ?_) n
  obtain ⟨l0, l1, l2⟩ := v
  unfold f_X1_pickOf_2 at hf
  dsimp only at hf
  show AW X cX1_pickOf 3 RX1 (rmd 1 0 0) (Qmet X 0 0 (Qe (some (.int q.1)) q.2 adr)) 0 0 adr h0 2 [(0, .ref l0), (1, .int l1), (2, .int l2)] []
  refine aw_iload_n 2 dX1_pickOf_2 rfl rfl ?_
  refine aw_aload_n 0 dX1_pickOf_3 rfl rfl ?_
  obtain ⟨x1, ex1, hf⟩ := b_some hf
  refine aw_getI dX1_pickOf_4 gfX1_60 ex1 ?_
  refine aw_icmp_ge (tgt := 33) dX1_pickOf_7 (by decide) (fun c2 => ?_) (fun c2 => ?_)
  · have hf := i_pos c2 hf
    refine aw_iconst (v := -1) dX1_pickOf_33 (by decide) ?_
    have hq := Option.some.inj hf
    subst hq
    exact aw_iret hr dX1_pickOf_34 ⟨rfl, rfl, rfl⟩
  · have hf := i_neg c2 hf
    refine aw_aload_n 0 dX1_pickOf_10 rfl rfl ?_
    obtain ⟨r3, er3, hf⟩ := b_some hf
    refine aw_getR dX1_pickOf_11 gfX1_21 er3 ?_
    refine aw_iload_n 2 dX1_pickOf_14 rfl rfl ?_
    obtain ⟨x4, ex4, hf⟩ := b_some hf
    refine aw_iald dX1_pickOf_15 ex4 ?_
    refine aw_iload_n 1 dX1_pickOf_16 rfl rfl ?_
    refine aw_icmp_ne (tgt := 27) dX1_pickOf_17 (by decide) (fun c5 => ?_) (fun c5 => ?_)
    · have hf := i_neg c5 hf
      obtain ⟨x6, ex6, hf⟩ := b_some hf
      refine aw_iinc (v := x6) (L' := [(2, .int x6), (0, .ref l0), (1, .int l1)]) 2 dX1_pickOf_27 rfl (Option.some.inj ex6) (by decide) rfl ?_
      refine aw_goto (tgt := 2) dX1_pickOf_30 (by decide) ?_
      exact aw_sub [1, 2, 0] rfl (hk2 _ _ hf)
    · have hf := i_pos c5 hf
      refine aw_aload_n 0 dX1_pickOf_20 rfl rfl ?_
      obtain ⟨r7, er7, hf⟩ := b_some hf
      refine aw_getR dX1_pickOf_21 gfX1_24 er7 ?_
      refine aw_iload_n 2 dX1_pickOf_24 rfl rfl ?_
      obtain ⟨x8, ex8, hf⟩ := b_some hf
      refine aw_iald dX1_pickOf_25 ex8 ?_
      have hq := Option.some.inj hf
      subst hq
      exact aw_iret hr dX1_pickOf_26 ⟨rfl, rfl, rfl⟩
def f_X1_pickOf (l0 : Nat) (l1 : Int32) (h0 : Hp) : Option (Int32 × Hp) :=
  (ck h0 l0 1).bind fun _ => lp (f_X1_pickOf_2) 600 (l0, l1, (0 : Int32)) h0
set_option maxRecDepth 100000 in
set_option maxHeartbeats 4000000 in
theorem c_X1_pickOf {l0 : Nat} {l1 : Int32} {h0 : Hp} {q : Int32 × Hp} (hf : f_X1_pickOf l0 l1 h0 = some q) : Mt 1 yX1_pickOf cX1_pickOf 3 (some .int) [.ref l0, .int l1] h0 (some (.int q.1)) q.2 := by
  refine MtQ.of (by decide) (Nat.le_of_ble_eq_true rfl) (fun X adr hr hn => ?_)
  unfold f_X1_pickOf at hf
  show AW X cX1_pickOf 3 RX1 (rmd 1 0 0) (Qmet X 0 0 (Qe (some (.int q.1)) q.2 adr)) 0 0 adr h0 0 [(0, .ref l0), (1, .int l1)] []
  obtain ⟨u0, e0, hf⟩ := b_some hf
  refine aw_iconst (v := 0) dX1_pickOf_0 (by decide) ?_
  refine aw_istore_n (L' := [(2, .int (0 : Int32)), (0, .ref l0), (1, .int l1)]) dX1_pickOf_1 rfl (by decide) rfl ?_
  exact aw_sub [1, 2, 0] rfl (c_X1_pickOf_2 hr 600 _ _ hf)
theorem k_X1_pickOf {l0 : Nat} {l1 : Int32} {h0 : Hp} {q : Int32 × Hp} (hf : f_X1_pickOf l0 l1 h0 = some q) : ck h0 l0 1 = some () := by
  unfold f_X1_pickOf at hf
  obtain ⟨u0, e0, hf⟩ := b_some hf
  exact e0
theorem dX2_become_0 : decode cX2_become 0 = .ok (.aload_n 0, 1) := by decide +kernel
theorem dX2_become_1 : decode cX2_become 1 = .ok (.iload_n 1, 1) := by decide +kernel
theorem dX2_become_2 : decode cX2_become 2 = .ok (.putfield 15, 3) := by decide +kernel
theorem dX2_become_5 : decode cX2_become 5 = .ok (.aload_n 0, 1) := by decide +kernel
theorem dX2_become_6 : decode cX2_become 6 = .ok (.iload_n 2, 1) := by decide +kernel
theorem dX2_become_7 : decode cX2_become 7 = .ok (.putfield 19, 3) := by decide +kernel
theorem dX2_become_10 : decode cX2_become 10 = .ok (.iconst 0, 1) := by decide +kernel
theorem dX2_become_11 : decode cX2_become 11 = .ok (.istore_n 3, 1) := by decide +kernel
theorem dX2_become_12 : decode cX2_become 12 = .ok (.iload_n 3, 1) := by decide +kernel
theorem dX2_become_13 : decode cX2_become 13 = .ok (.bipush 40, 2) := by decide +kernel
theorem dX2_become_15 : decode cX2_become 15 = .ok (.if_icmp .ge 16, 3) := by decide +kernel
theorem dX2_become_18 : decode cX2_become 18 = .ok (.aload_n 0, 1) := by decide +kernel
theorem dX2_become_19 : decode cX2_become 19 = .ok (.getfield 9, 3) := by decide +kernel
theorem dX2_become_22 : decode cX2_become 22 = .ok (.iload_n 3, 1) := by decide +kernel
theorem dX2_become_23 : decode cX2_become 23 = .ok (.iconst 0, 1) := by decide +kernel
theorem dX2_become_24 : decode cX2_become 24 = .ok (.iastore, 1) := by decide +kernel
theorem dX2_become_25 : decode cX2_become 25 = .ok (.iinc 3 1, 3) := by decide +kernel
theorem dX2_become_28 : decode cX2_become 28 = .ok (.goto (-16), 3) := by decide +kernel
theorem dX2_become_31 : decode cX2_become 31 = .ok (.return_, 1) := by decide +kernel
def f_X2_become_12 (k12 : Nat × Int32 → Hp → Option (Unit × Hp)) (v : Nat × Int32) (h0 : Hp) : Option (Unit × Hp) :=
  match v with
  | (l0, l3) => if (40 : Int32) ≤ l3 then (some ((), h0)) else ((gR h0 l0 2 0).bind fun r2 => (aS h0 r2 l3 (0 : Int32)).bind fun h3 => (some (l3 + 1)).bind fun x4 => k12 (l0, x4) h3)
set_option maxRecDepth 100000 in
set_option maxHeartbeats 4000000 in
theorem c_X2_become_12 {X : Cx} {adr : Nat → Nat} {q : Unit × Hp} (hr : (mth X).sig.returnType = none) (n : Nat) : ∀ v h0, lp (f_X2_become_12) n v h0 = some q → AW X cX2_become 4 RX2 (rmd 1 0 0) (Qmet X 0 0 (Qe none q.2 adr)) 0 0 adr h0 12 [(0, .ref v.1), (3, .int v.2)] [] := by
  refine aw_lp (fun k12 hk12 v h0 hf => ?_) n
  obtain ⟨l0, l3⟩ := v
  unfold f_X2_become_12 at hf
  dsimp only at hf
  show AW X cX2_become 4 RX2 (rmd 1 0 0) (Qmet X 0 0 (Qe none q.2 adr)) 0 0 adr h0 12 [(0, .ref l0), (3, .int l3)] []
  refine aw_iload_n 1 dX2_become_12 rfl rfl ?_
  refine aw_bipush (v := 40) dX2_become_13 (by decide) ?_
  refine aw_icmp_ge (tgt := 31) dX2_become_15 (by decide) (fun c1 => ?_) (fun c1 => ?_)
  · have hf := i_pos c1 hf
    have hq := Option.some.inj hf
    subst hq
    exact aw_vret hr dX2_become_31 ⟨rfl, rfl, rfl⟩
  · have hf := i_neg c1 hf
    refine aw_aload_n 0 dX2_become_18 rfl rfl ?_
    obtain ⟨r2, er2, hf⟩ := b_some hf
    refine aw_getR dX2_become_19 gfX2_9 er2 ?_
    refine aw_iload_n 1 dX2_become_22 rfl rfl ?_
    refine aw_iconst (v := 0) dX2_become_23 (by decide) ?_
    obtain ⟨h3, eh3, hf⟩ := b_some hf
    refine aw_iast dX2_become_24 eh3 ?_
    obtain ⟨x4, ex4, hf⟩ := b_some hf
    refine aw_iinc (v := x4) (L' := [(3, .int x4), (0, .ref l0)]) 1 dX2_become_25 rfl (Option.some.inj ex4) (by decide) rfl ?_
    refine aw_goto (tgt := 12) dX2_become_28 (by decide) ?_
    exact aw_sub [1, 0] rfl (hk12 _ _ hf)
def f_X2_become (l0 : Nat) (l1 : Int32) (l2 : Int32) (h0 : Hp) : Option (Unit × Hp) :=
  (ck h0 l0 2).bind fun _ => (pI h0 l0 2 1 l1).bind fun h1 => (pI h1 l0 2 2 l2).bind fun h2 => lp (f_X2_become_12) 600 (l0, (0 : Int32)) h2
set_option maxRecDepth 100000 in
set_option maxHeartbeats 4000000 in
theorem c_X2_become {l0 : Nat} {l1 : Int32} {l2 : Int32} {h0 : Hp} {q : Unit × Hp} (hf : f_X2_become l0 l1 l2 h0 = some q) : Mt 1 yX2_become cX2_become 4 none [.ref l0, .int l1, .int l2] h0 none q.2 := by
  refine MtQ.of (by decide) (Nat.le_of_ble_eq_true rfl) (fun X adr hr hn => ?_)
  unfold f_X2_become at hf
  show AW X cX2_become 4 RX2 (rmd 1 0 0) (Qmet X 0 0 (Qe none q.2 adr)) 0 0 adr h0 0 [(0, .ref l0), (1, .int l1), (2, .int l2)] []
  obtain ⟨u0, e0, hf⟩ := b_some hf
  refine aw_aload_n 0 dX2_become_0 rfl rfl ?_
  refine aw_iload_n 1 dX2_become_1 rfl rfl ?_
  obtain ⟨h1, eh1, hf⟩ := b_some hf
  refine aw_putI dX2_become_2 pfX2_15 eh1 ?_
  refine aw_aload_n 0 dX2_become_5 rfl rfl ?_
  refine aw_iload_n 2 dX2_become_6 rfl rfl ?_
  obtain ⟨h2, eh2, hf⟩ := b_some hf
  refine aw_putI dX2_become_7 pfX2_19 eh2 ?_
  refine aw_iconst (v := 0) dX2_become_10 (by decide) ?_
  refine aw_istore_n (L' := [(3, .int (0 : Int32)), (0, .ref l0), (1, .int l1), (2, .int l2)]) dX2_become_11 rfl (by decide) rfl ?_
  exact aw_sub [1, 0] rfl (c_X2_become_12 hr 600 _ _ hf)
theorem k_X2_become {l0 : Nat} {l1 : Int32} {l2 : Int32} {h0 : Hp} {q : Unit × Hp} (hf : f_X2_become l0 l1 l2 h0 = some q) : ck h0 l0 2 = some () := by
  unfold f_X2_become at hf
  obtain ⟨u0, e0, hf⟩ := b_some hf
  exact e0
theorem dX2_holds_0 : decode cX2_holds 0 = .ok (.iload_n 1, 1) := by decide +kernel
theorem dX2_holds_1 : decode cX2_holds 1 = .ok (.ifCond .lt 21, 3) := by decide +kernel
theorem dX2_holds_4 : decode cX2_holds 4 = .ok (.iload_n 2, 1) := by decide +kernel
theorem dX2_holds_5 : decode cX2_holds 5 = .ok (.ifCond .lt 17, 3) := by decide +kernel
theorem dX2_holds_8 : decode cX2_holds 8 = .ok (.iload_n 1, 1) := by decide +kernel
theorem dX2_holds_9 : decode cX2_holds 9 = .ok (.aload_n 0, 1) := by decide +kernel
theorem dX2_holds_10 : decode cX2_holds 10 = .ok (.getfield 19, 3) := by decide +kernel
theorem dX2_holds_13 : decode cX2_holds 13 = .ok (.iload_n 2, 1) := by decide +kernel
theorem dX2_holds_14 : decode cX2_holds 14 = .ok (.isub, 1) := by decide +kernel
theorem dX2_holds_15 : decode cX2_holds 15 = .ok (.if_icmp .gt 7, 3) := by decide +kernel
theorem dX2_holds_18 : decode cX2_holds 18 = .ok (.iconst 1, 1) := by decide +kernel
theorem dX2_holds_19 : decode cX2_holds 19 = .ok (.goto 4, 3) := by decide +kernel
theorem dX2_holds_22 : decode cX2_holds 22 = .ok (.iconst 0, 1) := by decide +kernel
theorem dX2_holds_23 : decode cX2_holds 23 = .ok (.ireturn, 1) := by decide +kernel
def f_X2_holds (l0 : Nat) (l1 : Int32) (l2 : Int32) (h0 : Hp) : Option (Int32 × Hp) :=
  (ck h0 l0 2).bind fun _ => if l1 < 0 then (some ((0 : Int32), h0)) else (if l2 < 0 then (some ((0 : Int32), h0)) else ((gI h0 l0 2 2).bind fun x3 => if (x3 - l2) < l1 then (some ((0 : Int32), h0)) else (some ((1 : Int32), h0))))
set_option maxRecDepth 100000 in
set_option maxHeartbeats 4000000 in
theorem c_X2_holds {l0 : Nat} {l1 : Int32} {l2 : Int32} {h0 : Hp} {q : Int32 × Hp} (hf : f_X2_holds l0 l1 l2 h0 = some q) : Mt 1 yX2_holds cX2_holds 3 (some .boolean) [.ref l0, .int l1, .int l2] h0 (some (.int q.1)) q.2 := by
  refine MtQ.of (by decide) (Nat.le_of_ble_eq_true rfl) (fun X adr hr hn => ?_)
  unfold f_X2_holds at hf
  show AW X cX2_holds 3 RX2 (rmd 1 0 0) (Qmet X 0 0 (Qe (some (.int q.1)) q.2 adr)) 0 0 adr h0 0 [(0, .ref l0), (1, .int l1), (2, .int l2)] []
  obtain ⟨u0, e0, hf⟩ := b_some hf
  refine aw_iload_n 1 dX2_holds_0 rfl rfl ?_
  refine aw_if_lt (tgt := 22) dX2_holds_1 (by decide) (fun c1 => ?_) (fun c1 => ?_)
  · have hf := i_pos c1 hf
    refine aw_iconst (v := 0) dX2_holds_22 (by decide) ?_
    have hq := Option.some.inj hf
    subst hq
    exact aw_zret hr (by decide) dX2_holds_23 ⟨rfl, rfl, rfl⟩
  · have hf := i_neg c1 hf
    refine aw_iload_n 2 dX2_holds_4 rfl rfl ?_
    refine aw_if_lt (tgt := 22) dX2_holds_5 (by decide) (fun c2 => ?_) (fun c2 => ?_)
    · have hf := i_pos c2 hf
      refine aw_iconst (v := 0) dX2_holds_22 (by decide) ?_
      have hq := Option.some.inj hf
      subst hq
      exact aw_zret hr (by decide) dX2_holds_23 ⟨rfl, rfl, rfl⟩
    · have hf := i_neg c2 hf
      refine aw_iload_n 1 dX2_holds_8 rfl rfl ?_
      refine aw_aload_n 0 dX2_holds_9 rfl rfl ?_
      obtain ⟨x3, ex3, hf⟩ := b_some hf
      refine aw_getI dX2_holds_10 gfX2_19 ex3 ?_
      refine aw_iload_n 2 dX2_holds_13 rfl rfl ?_
      refine aw_isub dX2_holds_14 ?_
      refine aw_icmp_gt (tgt := 22) dX2_holds_15 (by decide) (fun c4 => ?_) (fun c4 => ?_)
      · have hf := i_pos c4 hf
        refine aw_iconst (v := 0) dX2_holds_22 (by decide) ?_
        have hq := Option.some.inj hf
        subst hq
        exact aw_zret hr (by decide) dX2_holds_23 ⟨rfl, rfl, rfl⟩
      · have hf := i_neg c4 hf
        refine aw_iconst (v := 1) dX2_holds_18 (by decide) ?_
        refine aw_goto (tgt := 23) dX2_holds_19 (by decide) ?_
        have hq := Option.some.inj hf
        subst hq
        exact aw_zret hr (by decide) dX2_holds_23 ⟨rfl, rfl, rfl⟩
theorem k_X2_holds {l0 : Nat} {l1 : Int32} {l2 : Int32} {h0 : Hp} {q : Int32 × Hp} (hf : f_X2_holds l0 l1 l2 h0 = some q) : ck h0 l0 2 = some () := by
  unfold f_X2_holds at hf
  obtain ⟨u0, e0, hf⟩ := b_some hf
  exact e0
theorem dX2_isMissing_0 : decode cX2_isMissing 0 = .ok (.aload_n 0, 1) := by decide +kernel
theorem dX2_isMissing_1 : decode cX2_isMissing 1 = .ok (.getfield 15, 3) := by decide +kernel
theorem dX2_isMissing_4 : decode cX2_isMissing 4 = .ok (.iconst (-1), 1) := by decide +kernel
theorem dX2_isMissing_5 : decode cX2_isMissing 5 = .ok (.if_icmp .ne 7, 3) := by decide +kernel
theorem dX2_isMissing_8 : decode cX2_isMissing 8 = .ok (.iconst 1, 1) := by decide +kernel
theorem dX2_isMissing_9 : decode cX2_isMissing 9 = .ok (.goto 4, 3) := by decide +kernel
theorem dX2_isMissing_12 : decode cX2_isMissing 12 = .ok (.iconst 0, 1) := by decide +kernel
theorem dX2_isMissing_13 : decode cX2_isMissing 13 = .ok (.ireturn, 1) := by decide +kernel
def f_X2_isMissing (l0 : Nat) (h0 : Hp) : Option (Int32 × Hp) :=
  (ck h0 l0 2).bind fun _ => (gI h0 l0 2 1).bind fun x1 => if x1 = (-1 : Int32) then (some ((1 : Int32), h0)) else (some ((0 : Int32), h0))
set_option maxRecDepth 100000 in
set_option maxHeartbeats 4000000 in
theorem c_X2_isMissing {l0 : Nat} {h0 : Hp} {q : Int32 × Hp} (hf : f_X2_isMissing l0 h0 = some q) : Mt 1 yX2_isMissing cX2_isMissing 1 (some .boolean) [.ref l0] h0 (some (.int q.1)) q.2 := by
  refine MtQ.of (by decide) (Nat.le_of_ble_eq_true rfl) (fun X adr hr hn => ?_)
  unfold f_X2_isMissing at hf
  show AW X cX2_isMissing 1 RX2 (rmd 1 0 0) (Qmet X 0 0 (Qe (some (.int q.1)) q.2 adr)) 0 0 adr h0 0 [(0, .ref l0)] []
  obtain ⟨u0, e0, hf⟩ := b_some hf
  refine aw_aload_n 0 dX2_isMissing_0 rfl rfl ?_
  obtain ⟨x1, ex1, hf⟩ := b_some hf
  refine aw_getI dX2_isMissing_1 gfX2_15 ex1 ?_
  refine aw_iconst (v := -1) dX2_isMissing_4 (by decide) ?_
  refine aw_icmp_ne (tgt := 12) dX2_isMissing_5 (by decide) (fun c2 => ?_) (fun c2 => ?_)
  · have hf := i_neg c2 hf
    refine aw_iconst (v := 0) dX2_isMissing_12 (by decide) ?_
    have hq := Option.some.inj hf
    subst hq
    exact aw_zret hr (by decide) dX2_isMissing_13 ⟨rfl, rfl, rfl⟩
  · have hf := i_pos c2 hf
    refine aw_iconst (v := 1) dX2_isMissing_8 (by decide) ?_
    refine aw_goto (tgt := 13) dX2_isMissing_9 (by decide) ?_
    have hq := Option.some.inj hf
    subst hq
    exact aw_zret hr (by decide) dX2_isMissing_13 ⟨rfl, rfl, rfl⟩
theorem k_X2_isMissing {l0 : Nat} {h0 : Hp} {q : Int32 × Hp} (hf : f_X2_isMissing l0 h0 = some q) : ck h0 l0 2 = some () := by
  unfold f_X2_isMissing at hf
  obtain ⟨u0, e0, hf⟩ := b_some hf
  exact e0
theorem dX3_aboveOf_0 : decode cX3_aboveOf 0 = .ok (.iconst 0, 1) := by decide +kernel
theorem dX3_aboveOf_1 : decode cX3_aboveOf 1 = .ok (.istore_n 3, 1) := by decide +kernel
theorem dX3_aboveOf_2 : decode cX3_aboveOf 2 = .ok (.iconst 0, 1) := by decide +kernel
theorem dX3_aboveOf_3 : decode cX3_aboveOf 3 = .ok (.istore 4, 2) := by decide +kernel
theorem dX3_aboveOf_5 : decode cX3_aboveOf 5 = .ok (.iload 4, 2) := by decide +kernel
theorem dX3_aboveOf_7 : decode cX3_aboveOf 7 = .ok (.aload_n 2, 1) := by decide +kernel
theorem dX3_aboveOf_8 : decode cX3_aboveOf 8 = .ok (.getfield 29, 3) := by decide +kernel
theorem dX3_aboveOf_11 : decode cX3_aboveOf 11 = .ok (.if_icmp .ge 28, 3) := by decide +kernel
theorem dX3_aboveOf_14 : decode cX3_aboveOf 14 = .ok (.iload_n 1, 1) := by decide +kernel
theorem dX3_aboveOf_15 : decode cX3_aboveOf 15 = .ok (.iload 4, 2) := by decide +kernel
theorem dX3_aboveOf_17 : decode cX3_aboveOf 17 = .ok (.invokestatic 32, 3) := by decide +kernel
theorem dX3_aboveOf_20 : decode cX3_aboveOf 20 = .ok (.ifCond .eq 13, 3) := by decide +kernel
theorem dX3_aboveOf_23 : decode cX3_aboveOf 23 = .ok (.iload_n 3, 1) := by decide +kernel
theorem dX3_aboveOf_24 : decode cX3_aboveOf 24 = .ok (.aload_n 0, 1) := by decide +kernel
theorem dX3_aboveOf_25 : decode cX3_aboveOf 25 = .ok (.getfield 9, 3) := by decide +kernel
theorem dX3_aboveOf_28 : decode cX3_aboveOf 28 = .ok (.iload 4, 2) := by decide +kernel
theorem dX3_aboveOf_30 : decode cX3_aboveOf 30 = .ok (.iaload, 1) := by decide +kernel
theorem dX3_aboveOf_31 : decode cX3_aboveOf 31 = .ok (.iadd, 1) := by decide +kernel
theorem dX3_aboveOf_32 : decode cX3_aboveOf 32 = .ok (.istore_n 3, 1) := by decide +kernel
theorem dX3_aboveOf_33 : decode cX3_aboveOf 33 = .ok (.iinc 4 1, 3) := by decide +kernel
theorem dX3_aboveOf_36 : decode cX3_aboveOf 36 = .ok (.goto (-31), 3) := by decide +kernel
theorem dX3_aboveOf_39 : decode cX3_aboveOf 39 = .ok (.iconst 0, 1) := by decide +kernel
theorem dX3_aboveOf_40 : decode cX3_aboveOf 40 = .ok (.istore 4, 2) := by decide +kernel
theorem dX3_aboveOf_42 : decode cX3_aboveOf 42 = .ok (.iload 4, 2) := by decide +kernel
theorem dX3_aboveOf_44 : decode cX3_aboveOf 44 = .ok (.aload_n 0, 1) := by decide +kernel
theorem dX3_aboveOf_45 : decode cX3_aboveOf 45 = .ok (.getfield 57, 3) := by decide +kernel
theorem dX3_aboveOf_48 : decode cX3_aboveOf 48 = .ok (.if_icmp .ge 35, 3) := by decide +kernel
theorem dX3_aboveOf_51 : decode cX3_aboveOf 51 = .ok (.iload_n 1, 1) := by decide +kernel
theorem dX3_aboveOf_52 : decode cX3_aboveOf 52 = .ok (.aload_n 0, 1) := by decide +kernel
theorem dX3_aboveOf_53 : decode cX3_aboveOf 53 = .ok (.getfield 15, 3) := by decide +kernel
theorem dX3_aboveOf_56 : decode cX3_aboveOf 56 = .ok (.iload 4, 2) := by decide +kernel
theorem dX3_aboveOf_58 : decode cX3_aboveOf 58 = .ok (.iaload, 1) := by decide +kernel
theorem dX3_aboveOf_59 : decode cX3_aboveOf 59 = .ok (.iand, 1) := by decide +kernel
theorem dX3_aboveOf_60 : decode cX3_aboveOf 60 = .ok (.aload_n 0, 1) := by decide +kernel
theorem dX3_aboveOf_61 : decode cX3_aboveOf 61 = .ok (.getfield 15, 3) := by decide +kernel
theorem dX3_aboveOf_64 : decode cX3_aboveOf 64 = .ok (.iload 4, 2) := by decide +kernel
theorem dX3_aboveOf_66 : decode cX3_aboveOf 66 = .ok (.iaload, 1) := by decide +kernel
theorem dX3_aboveOf_67 : decode cX3_aboveOf 67 = .ok (.if_icmp .ne 10, 3) := by decide +kernel
theorem dX3_aboveOf_70 : decode cX3_aboveOf 70 = .ok (.iload_n 3, 1) := by decide +kernel
theorem dX3_aboveOf_71 : decode cX3_aboveOf 71 = .ok (.aload_n 2, 1) := by decide +kernel
theorem dX3_aboveOf_72 : decode cX3_aboveOf 72 = .ok (.invokevirtual 77, 3) := by decide +kernel
theorem dX3_aboveOf_75 : decode cX3_aboveOf 75 = .ok (.iadd, 1) := by decide +kernel
theorem dX3_aboveOf_76 : decode cX3_aboveOf 76 = .ok (.istore_n 3, 1) := by decide +kernel
theorem dX3_aboveOf_77 : decode cX3_aboveOf 77 = .ok (.iinc 4 1, 3) := by decide +kernel
theorem dX3_aboveOf_80 : decode cX3_aboveOf 80 = .ok (.goto (-38), 3) := by decide +kernel
theorem dX3_aboveOf_83 : decode cX3_aboveOf 83 = .ok (.iload_n 3, 1) := by decide +kernel
theorem dX3_aboveOf_84 : decode cX3_aboveOf 84 = .ok (.ireturn, 1) := by decide +kernel
def f_X3_aboveOf_42 (k42 : Nat × Int32 × Nat × Int32 × Int32 → Hp → Option (Int32 × Hp)) (v : Nat × Int32 × Nat × Int32 × Int32) (h0 : Hp) : Option (Int32 × Hp) :=
  match v with
  | (l0, l1, l2, l3, l4) => (gI h0 l0 3 2).bind fun x1 => if x1 ≤ l4 then (some (l3, h0)) else ((gR h0 l0 3 1).bind fun r3 => (aL h0 r3 l4).bind fun x4 => (gR h0 l0 3 1).bind fun r5 => (aL h0 r5 l4).bind fun x6 => if (l1 &&& x4) = x6 then ((f_X0_leastGiven l2 h0).bind fun q9 => (some (l3 + q9.1)).bind fun x10 => (some (l4 + 1)).bind fun x11 => k42 (l0, l1, l2, x10, x11) q9.2) else ((some (l4 + 1)).bind fun x8 => k42 (l0, l1, l2, l3, x8) h0))
set_option maxRecDepth 100000 in
set_option maxHeartbeats 4000000 in
theorem c_X3_aboveOf_42 {X : Cx} {adr : Nat → Nat} {q : Int32 × Hp} (hr : (mth X).sig.returnType = (some .int)) (n : Nat) : ∀ v h0, lp (f_X3_aboveOf_42) n v h0 = some q → AW X cX3_aboveOf 5 RX3 (rmd 2 0 0) (Qmet X 0 0 (Qe (some (.int q.1)) q.2 adr)) 0 0 adr h0 42 [(0, .ref v.1), (1, .int v.2.1), (2, .ref v.2.2.1), (3, .int v.2.2.2.1), (4, .int v.2.2.2.2)] [] := by
  refine aw_lp (fun k42 hk42 v h0 hf => ?_) n
  obtain ⟨l0, l1, l2, l3, l4⟩ := v
  unfold f_X3_aboveOf_42 at hf
  dsimp only at hf
  show AW X cX3_aboveOf 5 RX3 (rmd 2 0 0) (Qmet X 0 0 (Qe (some (.int q.1)) q.2 adr)) 0 0 adr h0 42 [(0, .ref l0), (1, .int l1), (2, .ref l2), (3, .int l3), (4, .int l4)] []
  refine aw_iload 4 dX3_aboveOf_42 rfl ?_
  refine aw_aload_n 0 dX3_aboveOf_44 rfl rfl ?_
  obtain ⟨x1, ex1, hf⟩ := b_some hf
  refine aw_getI dX3_aboveOf_45 gfX3_57 ex1 ?_
  refine aw_icmp_ge (tgt := 83) dX3_aboveOf_48 (by decide) (fun c2 => ?_) (fun c2 => ?_)
  · have hf := i_pos c2 hf
    refine aw_iload_n 3 dX3_aboveOf_83 rfl rfl ?_
    have hq := Option.some.inj hf
    subst hq
    exact aw_iret hr dX3_aboveOf_84 ⟨rfl, rfl, rfl⟩
  · have hf := i_neg c2 hf
    refine aw_iload_n 1 dX3_aboveOf_51 rfl rfl ?_
    refine aw_aload_n 0 dX3_aboveOf_52 rfl rfl ?_
    obtain ⟨r3, er3, hf⟩ := b_some hf
    refine aw_getR dX3_aboveOf_53 gfX3_15 er3 ?_
    refine aw_iload 4 dX3_aboveOf_56 rfl ?_
    obtain ⟨x4, ex4, hf⟩ := b_some hf
    refine aw_iald dX3_aboveOf_58 ex4 ?_
    refine aw_iand dX3_aboveOf_59 ?_
    refine aw_aload_n 0 dX3_aboveOf_60 rfl rfl ?_
    obtain ⟨r5, er5, hf⟩ := b_some hf
    refine aw_getR dX3_aboveOf_61 gfX3_15 er5 ?_
    refine aw_iload 4 dX3_aboveOf_64 rfl ?_
    obtain ⟨x6, ex6, hf⟩ := b_some hf
    refine aw_iald dX3_aboveOf_66 ex6 ?_
    refine aw_icmp_ne (tgt := 77) dX3_aboveOf_67 (by decide) (fun c7 => ?_) (fun c7 => ?_)
    · have hf := i_neg c7 hf
      obtain ⟨x8, ex8, hf⟩ := b_some hf
      refine aw_iinc (v := x8) (L' := [(4, .int x8), (0, .ref l0), (1, .int l1), (2, .ref l2), (3, .int l3)]) 4 dX3_aboveOf_77 rfl (Option.some.inj ex8) (by decide) rfl ?_
      refine aw_goto (tgt := 42) dX3_aboveOf_80 (by decide) ?_
      exact aw_sub [1, 2, 3, 4, 0] rfl (hk42 _ _ hf)
    · have hf := i_pos c7 hf
      refine aw_iload_n 3 dX3_aboveOf_70 rfl rfl ?_
      refine aw_aload_n 2 dX3_aboveOf_71 rfl rfl ?_
      obtain ⟨q9, eq9, hf⟩ := b_some hf
      refine aw_cV (as := []) dX3_aboveOf_72 moX0_leastGiven voX0_leastGiven mlX3_77 (k_X0_leastGiven eq9) rfl (rm_ok (by omega) (by decide)) ⟨Nat.le_refl _, Nat.le_refl _⟩ (Nat.le_of_ble_eq_true rfl) rfl (c_X0_leastGiven eq9) ?_
      refine aw_iadd dX3_aboveOf_75 ?_
      obtain ⟨x10, ex10, hf⟩ := b_some hf
      refine aw_nm ex10 ?_
      refine aw_istore_n (L' := [(3, .int x10), (0, .ref l0), (1, .int l1), (2, .ref l2), (4, .int l4)]) dX3_aboveOf_76 rfl (by decide) rfl ?_
      obtain ⟨x11, ex11, hf⟩ := b_some hf
      refine aw_iinc (v := x11) (L' := [(4, .int x11), (3, .int x10), (0, .ref l0), (1, .int l1), (2, .ref l2)]) 4 dX3_aboveOf_77 rfl (Option.some.inj ex11) (by decide) rfl ?_
      refine aw_goto (tgt := 42) dX3_aboveOf_80 (by decide) ?_
      exact aw_sub [2, 3, 4, 1, 0] rfl (hk42 _ _ hf)
def f_X3_aboveOf_5 (k5 : Nat × Int32 × Nat × Int32 × Int32 → Hp → Option (Int32 × Hp)) (v : Nat × Int32 × Nat × Int32 × Int32) (h0 : Hp) : Option (Int32 × Hp) :=
  match v with
  | (l0, l1, l2, l3, l4) => (gI h0 l2 0 0).bind fun x1 => if x1 ≤ l4 then (lp (f_X3_aboveOf_42) 600 (l0, l1, l2, l3, (0 : Int32)) h0) else ((f_X6_has l1 l4 h0).bind fun q3 => if q3.1 = 0 then ((some (l4 + 1)).bind fun x5 => k5 (l0, l1, l2, l3, x5) q3.2) else ((gR q3.2 l0 3 0).bind fun r6 => (aL q3.2 r6 l4).bind fun x7 => (some (l3 + x7)).bind fun x8 => (some (l4 + 1)).bind fun x9 => k5 (l0, l1, l2, x8, x9) q3.2))
set_option maxRecDepth 100000 in
set_option maxHeartbeats 4000000 in
theorem c_X3_aboveOf_5 {X : Cx} {adr : Nat → Nat} {q : Int32 × Hp} (hr : (mth X).sig.returnType = (some .int)) (n : Nat) : ∀ v h0, lp (f_X3_aboveOf_5) n v h0 = some q → AW X cX3_aboveOf 5 RX3 (rmd 2 0 0) (Qmet X 0 0 (Qe (some (.int q.1)) q.2 adr)) 0 0 adr h0 5 [(0, .ref v.1), (1, .int v.2.1), (2, .ref v.2.2.1), (3, .int v.2.2.2.1), (4, .int v.2.2.2.2)] [] := by
  refine aw_lp (fun k5 hk5 v h0 hf => ?_) n
  obtain ⟨l0, l1, l2, l3, l4⟩ := v
  unfold f_X3_aboveOf_5 at hf
  dsimp only at hf
  show AW X cX3_aboveOf 5 RX3 (rmd 2 0 0) (Qmet X 0 0 (Qe (some (.int q.1)) q.2 adr)) 0 0 adr h0 5 [(0, .ref l0), (1, .int l1), (2, .ref l2), (3, .int l3), (4, .int l4)] []
  refine aw_iload 4 dX3_aboveOf_5 rfl ?_
  refine aw_aload_n 2 dX3_aboveOf_7 rfl rfl ?_
  obtain ⟨x1, ex1, hf⟩ := b_some hf
  refine aw_getI dX3_aboveOf_8 gfX3_29 ex1 ?_
  refine aw_icmp_ge (tgt := 39) dX3_aboveOf_11 (by decide) (fun c2 => ?_) (fun c2 => ?_)
  · have hf := i_pos c2 hf
    refine aw_iconst (v := 0) dX3_aboveOf_39 (by decide) ?_
    refine aw_istore (L' := [(4, .int (0 : Int32)), (0, .ref l0), (1, .int l1), (2, .ref l2), (3, .int l3)]) dX3_aboveOf_40 (by decide) rfl ?_
    exact aw_sub [1, 2, 3, 4, 0] rfl (c_X3_aboveOf_42 hr 600 _ _ hf)
  · have hf := i_neg c2 hf
    refine aw_iload_n 1 dX3_aboveOf_14 rfl rfl ?_
    refine aw_iload 4 dX3_aboveOf_15 rfl ?_
    obtain ⟨q3, eq3, hf⟩ := b_some hf
    refine aw_cSN (as := [.int l1, .int l4]) dX3_aboveOf_17 moX6_has soX6_has mnX3_32 (rm_ok (by omega) (by decide)) ⟨Nat.le_refl _, Nat.le_refl _⟩ (Nat.le_of_ble_eq_true rfl) rfl (c_X6_has eq3) ?_
    refine aw_if_eq (tgt := 33) dX3_aboveOf_20 (by decide) (fun c4 => ?_) (fun c4 => ?_)
    · have hf := i_pos c4 hf
      obtain ⟨x5, ex5, hf⟩ := b_some hf
      refine aw_iinc (v := x5) (L' := [(4, .int x5), (0, .ref l0), (1, .int l1), (2, .ref l2), (3, .int l3)]) 4 dX3_aboveOf_33 rfl (Option.some.inj ex5) (by decide) rfl ?_
      refine aw_goto (tgt := 5) dX3_aboveOf_36 (by decide) ?_
      exact aw_sub [1, 2, 3, 4, 0] rfl (hk5 _ _ hf)
    · have hf := i_neg c4 hf
      refine aw_iload_n 3 dX3_aboveOf_23 rfl rfl ?_
      refine aw_aload_n 0 dX3_aboveOf_24 rfl rfl ?_
      obtain ⟨r6, er6, hf⟩ := b_some hf
      refine aw_getR dX3_aboveOf_25 gfX3_9 er6 ?_
      refine aw_iload 4 dX3_aboveOf_28 rfl ?_
      obtain ⟨x7, ex7, hf⟩ := b_some hf
      refine aw_iald dX3_aboveOf_30 ex7 ?_
      refine aw_iadd dX3_aboveOf_31 ?_
      obtain ⟨x8, ex8, hf⟩ := b_some hf
      refine aw_nm ex8 ?_
      refine aw_istore_n (L' := [(3, .int x8), (0, .ref l0), (1, .int l1), (2, .ref l2), (4, .int l4)]) dX3_aboveOf_32 rfl (by decide) rfl ?_
      obtain ⟨x9, ex9, hf⟩ := b_some hf
      refine aw_iinc (v := x9) (L' := [(4, .int x9), (3, .int x8), (0, .ref l0), (1, .int l1), (2, .ref l2)]) 4 dX3_aboveOf_33 rfl (Option.some.inj ex9) (by decide) rfl ?_
      refine aw_goto (tgt := 5) dX3_aboveOf_36 (by decide) ?_
      exact aw_sub [2, 3, 4, 1, 0] rfl (hk5 _ _ hf)
def f_X3_aboveOf (l0 : Nat) (l1 : Int32) (l2 : Nat) (h0 : Hp) : Option (Int32 × Hp) :=
  (ck h0 l0 3).bind fun _ => lp (f_X3_aboveOf_5) 600 (l0, l1, l2, (0 : Int32), (0 : Int32)) h0
set_option maxRecDepth 100000 in
set_option maxHeartbeats 4000000 in
theorem c_X3_aboveOf {l0 : Nat} {l1 : Int32} {l2 : Nat} {h0 : Hp} {q : Int32 × Hp} (hf : f_X3_aboveOf l0 l1 l2 h0 = some q) : Mt 2 yX3_aboveOf cX3_aboveOf 5 (some .int) [.ref l0, .int l1, .ref l2] h0 (some (.int q.1)) q.2 := by
  refine MtQ.of (by decide) (Nat.le_of_ble_eq_true rfl) (fun X adr hr hn => ?_)
  unfold f_X3_aboveOf at hf
  show AW X cX3_aboveOf 5 RX3 (rmd 2 0 0) (Qmet X 0 0 (Qe (some (.int q.1)) q.2 adr)) 0 0 adr h0 0 [(0, .ref l0), (1, .int l1), (2, .ref l2)] []
  obtain ⟨u0, e0, hf⟩ := b_some hf
  refine aw_iconst (v := 0) dX3_aboveOf_0 (by decide) ?_
  refine aw_istore_n (L' := [(3, .int (0 : Int32)), (0, .ref l0), (1, .int l1), (2, .ref l2)]) dX3_aboveOf_1 rfl (by decide) rfl ?_
  refine aw_iconst (v := 0) dX3_aboveOf_2 (by decide) ?_
  refine aw_istore (L' := [(4, .int (0 : Int32)), (3, .int (0 : Int32)), (0, .ref l0), (1, .int l1), (2, .ref l2)]) dX3_aboveOf_3 (by decide) rfl ?_
  exact aw_sub [2, 3, 4, 1, 0] rfl (c_X3_aboveOf_5 hr 600 _ _ hf)
theorem k_X3_aboveOf {l0 : Nat} {l1 : Int32} {l2 : Nat} {h0 : Hp} {q : Int32 × Hp} (hf : f_X3_aboveOf l0 l1 l2 h0 = some q) : ck h0 l0 3 = some () := by
  unfold f_X3_aboveOf at hf
  obtain ⟨u0, e0, hf⟩ := b_some hf
  exact e0
theorem dX3_open_0 : decode cX3_open 0 = .ok (.aload_n 1, 1) := by decide +kernel
theorem dX3_open_1 : decode cX3_open 1 = .ok (.aload_n 0, 1) := by decide +kernel
theorem dX3_open_2 : decode cX3_open 2 = .ok (.getfield 9, 3) := by decide +kernel
theorem dX3_open_5 : decode cX3_open 5 = .ok (.invokevirtual 46, 3) := by decide +kernel
theorem dX3_open_8 : decode cX3_open 8 = .ok (.aload_n 0, 1) := by decide +kernel
theorem dX3_open_9 : decode cX3_open 9 = .ok (.getfield 9, 3) := by decide +kernel
theorem dX3_open_12 : decode cX3_open 12 = .ok (.iload_n 2, 1) := by decide +kernel
theorem dX3_open_13 : decode cX3_open 13 = .ok (.iaload, 1) := by decide +kernel
theorem dX3_open_14 : decode cX3_open 14 = .ok (.aload_n 1, 1) := by decide +kernel
theorem dX3_open_15 : decode cX3_open 15 = .ok (.invokevirtual 50, 3) := by decide +kernel
theorem dX3_open_18 : decode cX3_open 18 = .ok (.aload_n 1, 1) := by decide +kernel
theorem dX3_open_19 : decode cX3_open 19 = .ok (.iload_n 2, 1) := by decide +kernel
theorem dX3_open_20 : decode cX3_open 20 = .ok (.invokevirtual 54, 3) := by decide +kernel
theorem dX3_open_23 : decode cX3_open 23 = .ok (.invokestatic 40, 3) := by decide +kernel
theorem dX3_open_26 : decode cX3_open 26 = .ok (.imul, 1) := by decide +kernel
theorem dX3_open_27 : decode cX3_open 27 = .ok (.iadd, 1) := by decide +kernel
theorem dX3_open_28 : decode cX3_open 28 = .ok (.istore_n 3, 1) := by decide +kernel
theorem dX3_open_29 : decode cX3_open 29 = .ok (.iconst 0, 1) := by decide +kernel
theorem dX3_open_30 : decode cX3_open 30 = .ok (.istore 4, 2) := by decide +kernel
theorem dX3_open_32 : decode cX3_open 32 = .ok (.iload 4, 2) := by decide +kernel
theorem dX3_open_34 : decode cX3_open 34 = .ok (.bipush 6, 2) := by decide +kernel
theorem dX3_open_36 : decode cX3_open 36 = .ok (.if_icmp .ge 20, 3) := by decide +kernel
theorem dX3_open_39 : decode cX3_open 39 = .ok (.aload_n 0, 1) := by decide +kernel
theorem dX3_open_40 : decode cX3_open 40 = .ok (.getfield 9, 3) := by decide +kernel
theorem dX3_open_43 : decode cX3_open 43 = .ok (.iload 4, 2) := by decide +kernel
theorem dX3_open_45 : decode cX3_open 45 = .ok (.dup2, 1) := by decide +kernel
theorem dX3_open_46 : decode cX3_open 46 = .ok (.iaload, 1) := by decide +kernel
theorem dX3_open_47 : decode cX3_open 47 = .ok (.iload_n 3, 1) := by decide +kernel
theorem dX3_open_48 : decode cX3_open 48 = .ok (.isub, 1) := by decide +kernel
theorem dX3_open_49 : decode cX3_open 49 = .ok (.iastore, 1) := by decide +kernel
theorem dX3_open_50 : decode cX3_open 50 = .ok (.iinc 4 1, 3) := by decide +kernel
theorem dX3_open_53 : decode cX3_open 53 = .ok (.goto (-21), 3) := by decide +kernel
theorem dX3_open_56 : decode cX3_open 56 = .ok (.aload_n 0, 1) := by decide +kernel
theorem dX3_open_57 : decode cX3_open 57 = .ok (.iconst 0, 1) := by decide +kernel
theorem dX3_open_58 : decode cX3_open 58 = .ok (.putfield 57, 3) := by decide +kernel
theorem dX3_open_61 : decode cX3_open 61 = .ok (.iconst 0, 1) := by decide +kernel
theorem dX3_open_62 : decode cX3_open 62 = .ok (.istore 4, 2) := by decide +kernel
theorem dX3_open_64 : decode cX3_open 64 = .ok (.iload 4, 2) := by decide +kernel
theorem dX3_open_66 : decode cX3_open 66 = .ok (.aload_n 1, 1) := by decide +kernel
theorem dX3_open_67 : decode cX3_open 67 = .ok (.getfield 60, 3) := by decide +kernel
theorem dX3_open_70 : decode cX3_open 70 = .ok (.if_icmp .ge 70, 3) := by decide +kernel
theorem dX3_open_73 : decode cX3_open 73 = .ok (.aload_n 1, 1) := by decide +kernel
theorem dX3_open_74 : decode cX3_open 74 = .ok (.iload 4, 2) := by decide +kernel
theorem dX3_open_76 : decode cX3_open 76 = .ok (.invokevirtual 63, 3) := by decide +kernel
theorem dX3_open_79 : decode cX3_open 79 = .ok (.ifCond .eq 55, 3) := by decide +kernel
theorem dX3_open_82 : decode cX3_open 82 = .ok (.aload_n 1, 1) := by decide +kernel
theorem dX3_open_83 : decode cX3_open 83 = .ok (.iload 4, 2) := by decide +kernel
theorem dX3_open_85 : decode cX3_open 85 = .ok (.iload_n 2, 1) := by decide +kernel
theorem dX3_open_86 : decode cX3_open 86 = .ok (.invokevirtual 67, 3) := by decide +kernel
theorem dX3_open_89 : decode cX3_open 89 = .ok (.iconst (-1), 1) := by decide +kernel
theorem dX3_open_90 : decode cX3_open 90 = .ok (.if_icmp .eq 6, 3) := by decide +kernel
theorem dX3_open_93 : decode cX3_open 93 = .ok (.goto 41, 3) := by decide +kernel
theorem dX3_open_96 : decode cX3_open 96 = .ok (.aload_n 0, 1) := by decide +kernel
theorem dX3_open_97 : decode cX3_open 97 = .ok (.getfield 15, 3) := by decide +kernel
theorem dX3_open_100 : decode cX3_open 100 = .ok (.aload_n 0, 1) := by decide +kernel
theorem dX3_open_101 : decode cX3_open 101 = .ok (.getfield 57, 3) := by decide +kernel
theorem dX3_open_104 : decode cX3_open 104 = .ok (.iconst 1, 1) := by decide +kernel
theorem dX3_open_105 : decode cX3_open 105 = .ok (.aload_n 1, 1) := by decide +kernel
theorem dX3_open_106 : decode cX3_open 106 = .ok (.getfield 71, 3) := by decide +kernel
theorem dX3_open_109 : decode cX3_open 109 = .ok (.iload 4, 2) := by decide +kernel
theorem dX3_open_111 : decode cX3_open 111 = .ok (.iaload, 1) := by decide +kernel
theorem dX3_open_112 : decode cX3_open 112 = .ok (.ishl, 1) := by decide +kernel
theorem dX3_open_113 : decode cX3_open 113 = .ok (.iconst 1, 1) := by decide +kernel
theorem dX3_open_114 : decode cX3_open 114 = .ok (.aload_n 1, 1) := by decide +kernel
theorem dX3_open_115 : decode cX3_open 115 = .ok (.getfield 74, 3) := by decide +kernel
theorem dX3_open_118 : decode cX3_open 118 = .ok (.iload 4, 2) := by decide +kernel
theorem dX3_open_120 : decode cX3_open 120 = .ok (.iaload, 1) := by decide +kernel
theorem dX3_open_121 : decode cX3_open 121 = .ok (.ishl, 1) := by decide +kernel
theorem dX3_open_122 : decode cX3_open 122 = .ok (.ior, 1) := by decide +kernel
theorem dX3_open_123 : decode cX3_open 123 = .ok (.iastore, 1) := by decide +kernel
theorem dX3_open_124 : decode cX3_open 124 = .ok (.aload_n 0, 1) := by decide +kernel
theorem dX3_open_125 : decode cX3_open 125 = .ok (.dup, 1) := by decide +kernel
theorem dX3_open_126 : decode cX3_open 126 = .ok (.getfield 57, 3) := by decide +kernel
theorem dX3_open_129 : decode cX3_open 129 = .ok (.iconst 1, 1) := by decide +kernel
theorem dX3_open_130 : decode cX3_open 130 = .ok (.iadd, 1) := by decide +kernel
theorem dX3_open_131 : decode cX3_open 131 = .ok (.putfield 57, 3) := by decide +kernel
theorem dX3_open_134 : decode cX3_open 134 = .ok (.iinc 4 1, 3) := by decide +kernel
theorem dX3_open_137 : decode cX3_open 137 = .ok (.goto (-73), 3) := by decide +kernel
theorem dX3_open_140 : decode cX3_open 140 = .ok (.return_, 1) := by decide +kernel
def f_X3_open_64 (k64 : Nat × Nat × Int32 × Int32 → Hp → Option (Unit × Hp)) (v : Nat × Nat × Int32 × Int32) (h0 : Hp) : Option (Unit × Hp) :=
  match v with
  | (l0, l1, l2, l4) => (gI h0 l1 0 1).bind fun x1 => if x1 ≤ l4 then (some ((), h0)) else ((f_X0_isLeft l1 l4 h0).bind fun q3 => if q3.1 = 0 then ((some (l4 + 1)).bind fun x5 => k64 (l0, l1, l2, x5) q3.2) else ((f_X0_foe l1 l4 l2 q3.2).bind fun q6 => if q6.1 = (-1 : Int32) then ((gR q6.2 l0 3 1).bind fun r8 => (gI q6.2 l0 3 2).bind fun x9 => (gR q6.2 l1 0 6).bind fun r10 => (aL q6.2 r10 l4).bind fun x11 => (gR q6.2 l1 0 7).bind fun r12 => (aL q6.2 r12 l4).bind fun x13 => (aS q6.2 r8 x9 (((1 : Int32) <<< (x11 &&& 31)) ||| ((1 : Int32) <<< (x13 &&& 31)))).bind fun h14 => (gI h14 l0 3 2).bind fun x15 => (pI h14 l0 3 2 (x15 + (1 : Int32))).bind fun h16 => (some (l4 + 1)).bind fun x17 => k64 (l0, l1, l2, x17) h16) else ((some (l4 + 1)).bind fun x18 => k64 (l0, l1, l2, x18) q6.2)))
set_option maxRecDepth 100000 in
set_option maxHeartbeats 4000000 in
theorem c_X3_open_64 {X : Cx} {adr : Nat → Nat} {q : Unit × Hp} (hr : (mth X).sig.returnType = none) (n : Nat) : ∀ v h0, lp (f_X3_open_64) n v h0 = some q → AW X cX3_open 5 RX3 (rmd 3 0 0) (Qmet X 0 0 (Qe none q.2 adr)) 0 0 adr h0 64 [(0, .ref v.1), (1, .ref v.2.1), (2, .int v.2.2.1), (4, .int v.2.2.2)] [] := by
  refine aw_lp (fun k64 hk64 v h0 hf => ?_) n
  obtain ⟨l0, l1, l2, l4⟩ := v
  unfold f_X3_open_64 at hf
  dsimp only at hf
  show AW X cX3_open 5 RX3 (rmd 3 0 0) (Qmet X 0 0 (Qe none q.2 adr)) 0 0 adr h0 64 [(0, .ref l0), (1, .ref l1), (2, .int l2), (4, .int l4)] []
  refine aw_iload 3 dX3_open_64 rfl ?_
  refine aw_aload_n 1 dX3_open_66 rfl rfl ?_
  obtain ⟨x1, ex1, hf⟩ := b_some hf
  refine aw_getI dX3_open_67 gfX3_60 ex1 ?_
  refine aw_icmp_ge (tgt := 140) dX3_open_70 (by decide) (fun c2 => ?_) (fun c2 => ?_)
  · have hf := i_pos c2 hf
    have hq := Option.some.inj hf
    subst hq
    exact aw_vret hr dX3_open_140 ⟨rfl, rfl, rfl⟩
  · have hf := i_neg c2 hf
    refine aw_aload_n 1 dX3_open_73 rfl rfl ?_
    refine aw_iload 3 dX3_open_74 rfl ?_
    obtain ⟨q3, eq3, hf⟩ := b_some hf
    refine aw_cV (as := [.int l4]) dX3_open_76 moX0_isLeft voX0_isLeft mlX3_63 (k_X0_isLeft eq3) rfl (rm_ok (by omega) (by decide)) ⟨Nat.le_refl _, Nat.le_refl _⟩ (Nat.le_of_ble_eq_true rfl) rfl (c_X0_isLeft eq3) ?_
    refine aw_if_eq (tgt := 134) dX3_open_79 (by decide) (fun c4 => ?_) (fun c4 => ?_)
    · have hf := i_pos c4 hf
      obtain ⟨x5, ex5, hf⟩ := b_some hf
      refine aw_iinc (v := x5) (L' := [(4, .int x5), (0, .ref l0), (1, .ref l1), (2, .int l2)]) 3 dX3_open_134 rfl (Option.some.inj ex5) (by decide) rfl ?_
      refine aw_goto (tgt := 64) dX3_open_137 (by decide) ?_
      exact aw_sub [1, 2, 3, 0] rfl (hk64 _ _ hf)
    · have hf := i_neg c4 hf
      refine aw_aload_n 1 dX3_open_82 rfl rfl ?_
      refine aw_iload 3 dX3_open_83 rfl ?_
      refine aw_iload_n 2 dX3_open_85 rfl rfl ?_
      obtain ⟨q6, eq6, hf⟩ := b_some hf
      refine aw_cV (as := [.int l4, .int l2]) dX3_open_86 moX0_foe voX0_foe mlX3_67 (k_X0_foe eq6) rfl (rm_ok (by omega) (by decide)) ⟨Nat.le_refl _, Nat.le_refl _⟩ (Nat.le_of_ble_eq_true rfl) rfl (c_X0_foe eq6) ?_
      refine aw_iconst (v := -1) dX3_open_89 (by decide) ?_
      refine aw_icmp_eq (tgt := 96) dX3_open_90 (by decide) (fun c7 => ?_) (fun c7 => ?_)
      · have hf := i_pos c7 hf
        refine aw_aload_n 0 dX3_open_96 rfl rfl ?_
        obtain ⟨r8, er8, hf⟩ := b_some hf
        refine aw_getR dX3_open_97 gfX3_15 er8 ?_
        refine aw_aload_n 0 dX3_open_100 rfl rfl ?_
        obtain ⟨x9, ex9, hf⟩ := b_some hf
        refine aw_getI dX3_open_101 gfX3_57 ex9 ?_
        refine aw_iconst (v := 1) dX3_open_104 (by decide) ?_
        refine aw_aload_n 1 dX3_open_105 rfl rfl ?_
        obtain ⟨r10, er10, hf⟩ := b_some hf
        refine aw_getR dX3_open_106 gfX3_71 er10 ?_
        refine aw_iload 3 dX3_open_109 rfl ?_
        obtain ⟨x11, ex11, hf⟩ := b_some hf
        refine aw_iald dX3_open_111 ex11 ?_
        refine aw_ishl dX3_open_112 ?_
        refine aw_iconst (v := 1) dX3_open_113 (by decide) ?_
        refine aw_aload_n 1 dX3_open_114 rfl rfl ?_
        obtain ⟨r12, er12, hf⟩ := b_some hf
        refine aw_getR dX3_open_115 gfX3_74 er12 ?_
        refine aw_iload 3 dX3_open_118 rfl ?_
        obtain ⟨x13, ex13, hf⟩ := b_some hf
        refine aw_iald dX3_open_120 ex13 ?_
        refine aw_ishl dX3_open_121 ?_
        refine aw_ior dX3_open_122 ?_
        obtain ⟨h14, eh14, hf⟩ := b_some hf
        refine aw_iast dX3_open_123 eh14 ?_
        refine aw_aload_n 0 dX3_open_124 rfl rfl ?_
        refine aw_dup dX3_open_125 rfl ?_
        obtain ⟨x15, ex15, hf⟩ := b_some hf
        refine aw_getI dX3_open_126 gfX3_57 ex15 ?_
        refine aw_iconst (v := 1) dX3_open_129 (by decide) ?_
        refine aw_iadd dX3_open_130 ?_
        obtain ⟨h16, eh16, hf⟩ := b_some hf
        refine aw_putI dX3_open_131 pfX3_57 eh16 ?_
        obtain ⟨x17, ex17, hf⟩ := b_some hf
        refine aw_iinc (v := x17) (L' := [(4, .int x17), (0, .ref l0), (1, .ref l1), (2, .int l2)]) 3 dX3_open_134 rfl (Option.some.inj ex17) (by decide) rfl ?_
        refine aw_goto (tgt := 64) dX3_open_137 (by decide) ?_
        exact aw_sub [1, 2, 3, 0] rfl (hk64 _ _ hf)
      · have hf := i_neg c7 hf
        refine aw_goto (tgt := 134) dX3_open_93 (by decide) ?_
        obtain ⟨x18, ex18, hf⟩ := b_some hf
        refine aw_iinc (v := x18) (L' := [(4, .int x18), (0, .ref l0), (1, .ref l1), (2, .int l2)]) 3 dX3_open_134 rfl (Option.some.inj ex18) (by decide) rfl ?_
        refine aw_goto (tgt := 64) dX3_open_137 (by decide) ?_
        exact aw_sub [1, 2, 3, 0] rfl (hk64 _ _ hf)
def f_X3_open_32 (k32 : Nat × Nat × Int32 × Int32 × Int32 → Hp → Option (Unit × Hp)) (v : Nat × Nat × Int32 × Int32 × Int32) (h0 : Hp) : Option (Unit × Hp) :=
  match v with
  | (l0, l1, l2, l3, l4) => if (6 : Int32) ≤ l4 then ((pI h0 l0 3 2 (0 : Int32)).bind fun h2 => lp (f_X3_open_64) 600 (l0, l1, l2, (0 : Int32)) h2) else ((gR h0 l0 3 0).bind fun r3 => (aL h0 r3 l4).bind fun x4 => (aS h0 r3 l4 (x4 - l3)).bind fun h5 => (some (l4 + 1)).bind fun x6 => k32 (l0, l1, l2, l3, x6) h5)
set_option maxRecDepth 100000 in
set_option maxHeartbeats 4000000 in
theorem c_X3_open_32 {X : Cx} {adr : Nat → Nat} {q : Unit × Hp} (hr : (mth X).sig.returnType = none) (n : Nat) : ∀ v h0, lp (f_X3_open_32) n v h0 = some q → AW X cX3_open 5 RX3 (rmd 3 0 0) (Qmet X 0 0 (Qe none q.2 adr)) 0 0 adr h0 32 [(0, .ref v.1), (1, .ref v.2.1), (2, .int v.2.2.1), (3, .int v.2.2.2.1), (4, .int v.2.2.2.2)] [] := by
  refine aw_lp (fun k32 hk32 v h0 hf => ?_) n
  obtain ⟨l0, l1, l2, l3, l4⟩ := v
  unfold f_X3_open_32 at hf
  dsimp only at hf
  show AW X cX3_open 5 RX3 (rmd 3 0 0) (Qmet X 0 0 (Qe none q.2 adr)) 0 0 adr h0 32 [(0, .ref l0), (1, .ref l1), (2, .int l2), (3, .int l3), (4, .int l4)] []
  refine aw_iload 4 dX3_open_32 rfl ?_
  refine aw_bipush (v := 6) dX3_open_34 (by decide) ?_
  refine aw_icmp_ge (tgt := 56) dX3_open_36 (by decide) (fun c1 => ?_) (fun c1 => ?_)
  · have hf := i_pos c1 hf
    refine aw_aload_n 0 dX3_open_56 rfl rfl ?_
    refine aw_iconst (v := 0) dX3_open_57 (by decide) ?_
    obtain ⟨h2, eh2, hf⟩ := b_some hf
    refine aw_putI dX3_open_58 pfX3_57 eh2 ?_
    refine aw_iconst (v := 0) dX3_open_61 (by decide) ?_
    refine aw_istore (L' := [(4, .int (0 : Int32)), (0, .ref l0), (1, .ref l1), (2, .int l2), (3, .int l3)]) dX3_open_62 (by decide) rfl ?_
    exact aw_sub [1, 2, 3, 0] rfl (c_X3_open_64 hr 600 _ _ hf)
  · have hf := i_neg c1 hf
    refine aw_aload_n 0 dX3_open_39 rfl rfl ?_
    obtain ⟨r3, er3, hf⟩ := b_some hf
    refine aw_getR dX3_open_40 gfX3_9 er3 ?_
    refine aw_iload 4 dX3_open_43 rfl ?_
    refine aw_dup2 dX3_open_45 rfl rfl ?_
    obtain ⟨x4, ex4, hf⟩ := b_some hf
    refine aw_iald dX3_open_46 ex4 ?_
    refine aw_iload_n 3 dX3_open_47 rfl rfl ?_
    refine aw_isub dX3_open_48 ?_
    obtain ⟨h5, eh5, hf⟩ := b_some hf
    refine aw_iast dX3_open_49 eh5 ?_
    obtain ⟨x6, ex6, hf⟩ := b_some hf
    refine aw_iinc (v := x6) (L' := [(4, .int x6), (0, .ref l0), (1, .ref l1), (2, .int l2), (3, .int l3)]) 4 dX3_open_50 rfl (Option.some.inj ex6) (by decide) rfl ?_
    refine aw_goto (tgt := 32) dX3_open_53 (by decide) ?_
    exact aw_sub [1, 2, 3, 4, 0] rfl (hk32 _ _ hf)
def f_X3_open (l0 : Nat) (l1 : Nat) (l2 : Int32) (h0 : Hp) : Option (Unit × Hp) :=
  (ck h0 l0 3).bind fun _ => (gR h0 l0 3 0).bind fun r1 => (f_X0_pointsInto l1 r1 h0).bind fun q2 => (gR q2.2 l0 3 0).bind fun r3 => (aL q2.2 r3 l2).bind fun x4 => (f_X0_winBrings l1 q2.2).bind fun q5 => (f_X0_leftOf l1 l2 q5.2).bind fun q6 => (f_J6_bitCount_0f7a4 q6.1 q6.2).bind fun q7 => (some (x4 + (q5.1 * q7.1))).bind fun x8 => lp (f_X3_open_32) 600 (l0, l1, l2, x8, (0 : Int32)) q7.2
set_option maxRecDepth 100000 in
set_option maxHeartbeats 4000000 in
theorem c_X3_open {l0 : Nat} {l1 : Nat} {l2 : Int32} {h0 : Hp} {q : Unit × Hp} (hf : f_X3_open l0 l1 l2 h0 = some q) : Mt 3 yX3_open cX3_open 5 none [.ref l0, .ref l1, .int l2] h0 none q.2 := by
  refine MtQ.of (by decide) (Nat.le_of_ble_eq_true rfl) (fun X adr hr hn => ?_)
  unfold f_X3_open at hf
  show AW X cX3_open 5 RX3 (rmd 3 0 0) (Qmet X 0 0 (Qe none q.2 adr)) 0 0 adr h0 0 [(0, .ref l0), (1, .ref l1), (2, .int l2)] []
  obtain ⟨u0, e0, hf⟩ := b_some hf
  refine aw_aload_n 1 dX3_open_0 rfl rfl ?_
  refine aw_aload_n 0 dX3_open_1 rfl rfl ?_
  obtain ⟨r1, er1, hf⟩ := b_some hf
  refine aw_getR dX3_open_2 gfX3_9 er1 ?_
  obtain ⟨q2, eq2, hf⟩ := b_some hf
  refine aw_cV0 (as := [.ref r1]) dX3_open_5 moX0_pointsInto voX0_pointsInto mlX3_46 (k_X0_pointsInto eq2) rfl (rm_ok (by omega) (by decide)) ⟨Nat.le_refl _, Nat.le_refl _⟩ (Nat.le_of_ble_eq_true rfl) rfl (c_X0_pointsInto eq2) ?_
  refine aw_aload_n 0 dX3_open_8 rfl rfl ?_
  obtain ⟨r3, er3, hf⟩ := b_some hf
  refine aw_getR dX3_open_9 gfX3_9 er3 ?_
  refine aw_iload_n 2 dX3_open_12 rfl rfl ?_
  obtain ⟨x4, ex4, hf⟩ := b_some hf
  refine aw_iald dX3_open_13 ex4 ?_
  refine aw_aload_n 1 dX3_open_14 rfl rfl ?_
  obtain ⟨q5, eq5, hf⟩ := b_some hf
  refine aw_cV (as := []) dX3_open_15 moX0_winBrings voX0_winBrings mlX3_50 (k_X0_winBrings eq5) rfl (rm_ok (by omega) (by decide)) ⟨Nat.le_refl _, Nat.le_refl _⟩ (Nat.le_of_ble_eq_true rfl) rfl (c_X0_winBrings eq5) ?_
  refine aw_aload_n 1 dX3_open_18 rfl rfl ?_
  refine aw_iload_n 2 dX3_open_19 rfl rfl ?_
  obtain ⟨q6, eq6, hf⟩ := b_some hf
  refine aw_cV (as := [.int l2]) dX3_open_20 moX0_leftOf voX0_leftOf mlX3_54 (k_X0_leftOf eq6) rfl (rm_ok (by omega) (by decide)) ⟨Nat.le_refl _, Nat.le_refl _⟩ (Nat.le_of_ble_eq_true rfl) rfl (c_X0_leftOf eq6) ?_
  obtain ⟨q7, eq7, hf⟩ := b_some hf
  refine aw_cS (as := [.int q6.1]) dX3_open_23 moJ6_bitCount_0f7a4 soJ6_bitCount_0f7a4 mlX3_40 (rm_ok (by omega) (by decide)) ⟨Nat.le_refl _, Nat.le_refl _⟩ (Nat.le_of_ble_eq_true rfl) rfl (c_J6_bitCount_0f7a4 eq7) ?_
  refine aw_imul dX3_open_26 ?_
  refine aw_iadd dX3_open_27 ?_
  obtain ⟨x8, ex8, hf⟩ := b_some hf
  refine aw_nm ex8 ?_
  refine aw_istore_n (L' := [(3, .int x8), (0, .ref l0), (1, .ref l1), (2, .int l2)]) dX3_open_28 rfl (by decide) rfl ?_
  refine aw_iconst (v := 0) dX3_open_29 (by decide) ?_
  refine aw_istore (L' := [(4, .int (0 : Int32)), (3, .int x8), (0, .ref l0), (1, .ref l1), (2, .int l2)]) dX3_open_30 (by decide) rfl ?_
  exact aw_sub [2, 3, 4, 1, 0] rfl (c_X3_open_32 hr 600 _ _ hf)
theorem k_X3_open {l0 : Nat} {l1 : Nat} {l2 : Int32} {h0 : Hp} {q : Unit × Hp} (hf : f_X3_open l0 l1 l2 h0 = some q) : ck h0 l0 3 = some () := by
  unfold f_X3_open at hf
  obtain ⟨u0, e0, hf⟩ := b_some hf
  exact e0
theorem dX3_find_0 : decode cX3_find 0 = .ok (.aload_n 0, 1) := by decide +kernel
theorem dX3_find_1 : decode cX3_find 1 = .ok (.aload_n 1, 1) := by decide +kernel
theorem dX3_find_2 : decode cX3_find 2 = .ok (.iload_n 2, 1) := by decide +kernel
theorem dX3_find_3 : decode cX3_find 3 = .ok (.invokevirtual 18, 3) := by decide +kernel
theorem dX3_find_6 : decode cX3_find 6 = .ok (.aload_n 0, 1) := by decide +kernel
theorem dX3_find_7 : decode cX3_find 7 = .ok (.iconst 0, 1) := by decide +kernel
theorem dX3_find_8 : decode cX3_find 8 = .ok (.putfield 22, 3) := by decide +kernel
theorem dX3_find_11 : decode cX3_find 11 = .ok (.aload_n 0, 1) := by decide +kernel
theorem dX3_find_12 : decode cX3_find 12 = .ok (.iconst 0, 1) := by decide +kernel
theorem dX3_find_13 : decode cX3_find 13 = .ok (.putfield 26, 3) := by decide +kernel
theorem dX3_find_16 : decode cX3_find 16 = .ok (.iconst 1, 1) := by decide +kernel
theorem dX3_find_17 : decode cX3_find 17 = .ok (.istore_n 3, 1) := by decide +kernel
theorem dX3_find_18 : decode cX3_find 18 = .ok (.iload_n 3, 1) := by decide +kernel
theorem dX3_find_19 : decode cX3_find 19 = .ok (.iconst 1, 1) := by decide +kernel
theorem dX3_find_20 : decode cX3_find 20 = .ok (.aload_n 1, 1) := by decide +kernel
theorem dX3_find_21 : decode cX3_find 21 = .ok (.getfield 29, 3) := by decide +kernel
theorem dX3_find_24 : decode cX3_find 24 = .ok (.ishl, 1) := by decide +kernel
theorem dX3_find_25 : decode cX3_find 25 = .ok (.if_icmp .ge 83, 3) := by decide +kernel
theorem dX3_find_28 : decode cX3_find 28 = .ok (.iload_n 3, 1) := by decide +kernel
theorem dX3_find_29 : decode cX3_find 29 = .ok (.iload_n 2, 1) := by decide +kernel
theorem dX3_find_30 : decode cX3_find 30 = .ok (.invokestatic 32, 3) := by decide +kernel
theorem dX3_find_33 : decode cX3_find 33 = .ok (.ifCond .eq 6, 3) := by decide +kernel
theorem dX3_find_36 : decode cX3_find 36 = .ok (.goto 66, 3) := by decide +kernel
theorem dX3_find_39 : decode cX3_find 39 = .ok (.aload_n 0, 1) := by decide +kernel
theorem dX3_find_40 : decode cX3_find 40 = .ok (.iload_n 3, 1) := by decide +kernel
theorem dX3_find_41 : decode cX3_find 41 = .ok (.aload_n 1, 1) := by decide +kernel
theorem dX3_find_42 : decode cX3_find 42 = .ok (.invokevirtual 36, 3) := by decide +kernel
theorem dX3_find_45 : decode cX3_find 45 = .ok (.istore 4, 2) := by decide +kernel
theorem dX3_find_47 : decode cX3_find 47 = .ok (.iload_n 3, 1) := by decide +kernel
theorem dX3_find_48 : decode cX3_find 48 = .ok (.invokestatic 40, 3) := by decide +kernel
theorem dX3_find_51 : decode cX3_find 51 = .ok (.aload_n 0, 1) := by decide +kernel
theorem dX3_find_52 : decode cX3_find 52 = .ok (.getfield 22, 3) := by decide +kernel
theorem dX3_find_55 : decode cX3_find 55 = .ok (.invokestatic 40, 3) := by decide +kernel
theorem dX3_find_58 : decode cX3_find 58 = .ok (.if_icmp .ge 7, 3) := by decide +kernel
theorem dX3_find_61 : decode cX3_find 61 = .ok (.iconst 1, 1) := by decide +kernel
theorem dX3_find_62 : decode cX3_find 62 = .ok (.goto 4, 3) := by decide +kernel
theorem dX3_find_65 : decode cX3_find 65 = .ok (.iconst 0, 1) := by decide +kernel
theorem dX3_find_66 : decode cX3_find 66 = .ok (.istore 5, 2) := by decide +kernel
theorem dX3_find_68 : decode cX3_find 68 = .ok (.iload 4, 2) := by decide +kernel
theorem dX3_find_70 : decode cX3_find 70 = .ok (.aload_n 0, 1) := by decide +kernel
theorem dX3_find_71 : decode cX3_find 71 = .ok (.getfield 26, 3) := by decide +kernel
theorem dX3_find_74 : decode cX3_find 74 = .ok (.if_icmp .gt 17, 3) := by decide +kernel
theorem dX3_find_77 : decode cX3_find 77 = .ok (.iload 4, 2) := by decide +kernel
theorem dX3_find_79 : decode cX3_find 79 = .ok (.aload_n 0, 1) := by decide +kernel
theorem dX3_find_80 : decode cX3_find 80 = .ok (.getfield 26, 3) := by decide +kernel
theorem dX3_find_83 : decode cX3_find 83 = .ok (.if_icmp .ne 19, 3) := by decide +kernel
theorem dX3_find_86 : decode cX3_find 86 = .ok (.iload 5, 2) := by decide +kernel
theorem dX3_find_88 : decode cX3_find 88 = .ok (.ifCond .eq 14, 3) := by decide +kernel
theorem dX3_find_91 : decode cX3_find 91 = .ok (.aload_n 0, 1) := by decide +kernel
theorem dX3_find_92 : decode cX3_find 92 = .ok (.iload_n 3, 1) := by decide +kernel
theorem dX3_find_93 : decode cX3_find 93 = .ok (.putfield 22, 3) := by decide +kernel
theorem dX3_find_96 : decode cX3_find 96 = .ok (.aload_n 0, 1) := by decide +kernel
theorem dX3_find_97 : decode cX3_find 97 = .ok (.iload 4, 2) := by decide +kernel
theorem dX3_find_99 : decode cX3_find 99 = .ok (.putfield 26, 3) := by decide +kernel
theorem dX3_find_102 : decode cX3_find 102 = .ok (.iinc 3 1, 3) := by decide +kernel
theorem dX3_find_105 : decode cX3_find 105 = .ok (.goto (-87), 3) := by decide +kernel
theorem dX3_find_108 : decode cX3_find 108 = .ok (.aload_n 0, 1) := by decide +kernel
theorem dX3_find_109 : decode cX3_find 109 = .ok (.getfield 26, 3) := by decide +kernel
theorem dX3_find_112 : decode cX3_find 112 = .ok (.ireturn, 1) := by decide +kernel
def f_X3_find_91 (k18 : Nat × Nat × Int32 × Int32 → Hp → Option (Int32 × Hp)) (l0 : Nat) (l1 : Nat) (l2 : Int32) (l3 : Int32) (l4 : Int32) (h0 : Hp) : Option (Int32 × Hp) :=
  (pI h0 l0 3 3 l3).bind fun h1 => (pI h1 l0 3 4 l4).bind fun h2 => (some (l3 + 1)).bind fun x3 => k18 (l0, l1, l2, x3) h2
set_option maxRecDepth 100000 in
set_option maxHeartbeats 4000000 in
theorem c_X3_find_91 {X : Cx} {adr : Nat → Nat} {q : Int32 × Hp} (hr : (mth X).sig.returnType = (some .int)) {k18 : Nat × Nat × Int32 × Int32 → Hp → Option (Int32 × Hp)} (hk18 : ∀ v h, k18 v h = some q → AW X cX3_find 6 RX3 (rmd 4 0 0) (Qmet X 0 0 (Qe (some (.int q.1)) q.2 adr)) 0 0 adr h 18 [(0, .ref v.1), (1, .ref v.2.1), (2, .int v.2.2.1), (3, .int v.2.2.2)] []) {l0 : Nat} {l1 : Nat} {l2 : Int32} {l3 : Int32} {l4 : Int32} {h0 : Hp} (hf : f_X3_find_91 k18 l0 l1 l2 l3 l4 h0 = some q) : AW X cX3_find 6 RX3 (rmd 4 0 0) (Qmet X 0 0 (Qe (some (.int q.1)) q.2 adr)) 0 0 adr h0 91 [(0, .ref l0), (1, .ref l1), (2, .int l2), (3, .int l3), (4, .int l4)] [] := by
  unfold f_X3_find_91 at hf
  refine aw_aload_n 0 dX3_find_91 rfl rfl ?_
  refine aw_iload_n 3 dX3_find_92 rfl rfl ?_
  obtain ⟨h1, eh1, hf⟩ := b_some hf
  refine aw_putI dX3_find_93 pfX3_22 eh1 ?_
  refine aw_aload_n 0 dX3_find_96 rfl rfl ?_
  refine aw_iload 4 dX3_find_97 rfl ?_
  obtain ⟨h2, eh2, hf⟩ := b_some hf
  refine aw_putI dX3_find_99 pfX3_26 eh2 ?_
  obtain ⟨x3, ex3, hf⟩ := b_some hf
  refine aw_iinc (v := x3) (L' := [(3, .int x3), (0, .ref l0), (1, .ref l1), (2, .int l2), (4, .int l4)]) 3 dX3_find_102 rfl (Option.some.inj ex3) (by decide) rfl ?_
  refine aw_goto (tgt := 18) dX3_find_105 (by decide) ?_
  exact aw_sub [1, 2, 3, 0] rfl (hk18 _ _ hf)
def f_X3_find_66 (k18 : Nat × Nat × Int32 × Int32 → Hp → Option (Int32 × Hp)) (l0 : Nat) (l1 : Nat) (l2 : Int32) (l3 : Int32) (l4 : Int32) (s0 : Int32) (h0 : Hp) : Option (Int32 × Hp) :=
  (gI h0 l0 3 4).bind fun x1 => if x1 < l4 then (f_X3_find_91 k18 l0 l1 l2 l3 l4 h0) else ((gI h0 l0 3 4).bind fun x3 => if l4 = x3 then (if s0 = 0 then ((some (l3 + 1)).bind fun x7 => k18 (l0, l1, l2, x7) h0) else (f_X3_find_91 k18 l0 l1 l2 l3 l4 h0)) else ((some (l3 + 1)).bind fun x5 => k18 (l0, l1, l2, x5) h0))
set_option maxRecDepth 100000 in
set_option maxHeartbeats 4000000 in
theorem c_X3_find_66 {X : Cx} {adr : Nat → Nat} {q : Int32 × Hp} (hr : (mth X).sig.returnType = (some .int)) {k18 : Nat × Nat × Int32 × Int32 → Hp → Option (Int32 × Hp)} (hk18 : ∀ v h, k18 v h = some q → AW X cX3_find 6 RX3 (rmd 4 0 0) (Qmet X 0 0 (Qe (some (.int q.1)) q.2 adr)) 0 0 adr h 18 [(0, .ref v.1), (1, .ref v.2.1), (2, .int v.2.2.1), (3, .int v.2.2.2)] []) {l0 : Nat} {l1 : Nat} {l2 : Int32} {l3 : Int32} {l4 : Int32} {s0 : Int32} {h0 : Hp} (hf : f_X3_find_66 k18 l0 l1 l2 l3 l4 s0 h0 = some q) : AW X cX3_find 6 RX3 (rmd 4 0 0) (Qmet X 0 0 (Qe (some (.int q.1)) q.2 adr)) 0 0 adr h0 66 [(0, .ref l0), (1, .ref l1), (2, .int l2), (3, .int l3), (4, .int l4)] [.int s0] := by
  unfold f_X3_find_66 at hf
  refine aw_istore (L' := [(5, .int s0), (0, .ref l0), (1, .ref l1), (2, .int l2), (3, .int l3), (4, .int l4)]) dX3_find_66 (by decide) rfl ?_
  refine aw_iload 5 dX3_find_68 rfl ?_
  refine aw_aload_n 1 dX3_find_70 rfl rfl ?_
  obtain ⟨x1, ex1, hf⟩ := b_some hf
  refine aw_getI dX3_find_71 gfX3_26 ex1 ?_
  refine aw_icmp_gt (tgt := 91) dX3_find_74 (by decide) (fun c2 => ?_) (fun c2 => ?_)
  · have hf := i_pos c2 hf
    exact aw_sub [1, 2, 3, 4, 5] rfl (c_X3_find_91 hr hk18 hf)
  · have hf := i_neg c2 hf
    refine aw_iload 5 dX3_find_77 rfl ?_
    refine aw_aload_n 1 dX3_find_79 rfl rfl ?_
    obtain ⟨x3, ex3, hf⟩ := b_some hf
    refine aw_getI dX3_find_80 gfX3_26 ex3 ?_
    refine aw_icmp_ne (tgt := 102) dX3_find_83 (by decide) (fun c4 => ?_) (fun c4 => ?_)
    · have hf := i_neg c4 hf
      obtain ⟨x5, ex5, hf⟩ := b_some hf
      refine aw_iinc (v := x5) (L' := [(3, .int x5), (5, .int s0), (0, .ref l0), (1, .ref l1), (2, .int l2), (4, .int l4)]) 4 dX3_find_102 rfl (Option.some.inj ex5) (by decide) rfl ?_
      refine aw_goto (tgt := 18) dX3_find_105 (by decide) ?_
      exact aw_sub [2, 3, 4, 0] rfl (hk18 _ _ hf)
    · have hf := i_pos c4 hf
      refine aw_iload 0 dX3_find_86 rfl ?_
      refine aw_if_eq (tgt := 102) dX3_find_88 (by decide) (fun c6 => ?_) (fun c6 => ?_)
      · have hf := i_pos c6 hf
        obtain ⟨x7, ex7, hf⟩ := b_some hf
        refine aw_iinc (v := x7) (L' := [(3, .int x7), (5, .int s0), (0, .ref l0), (1, .ref l1), (2, .int l2), (4, .int l4)]) 4 dX3_find_102 rfl (Option.some.inj ex7) (by decide) rfl ?_
        refine aw_goto (tgt := 18) dX3_find_105 (by decide) ?_
        exact aw_sub [2, 3, 4, 0] rfl (hk18 _ _ hf)
      · have hf := i_neg c6 hf
        exact aw_sub [1, 2, 3, 4, 5] rfl (c_X3_find_91 hr hk18 hf)
def f_X3_find_18 (k18 : Nat × Nat × Int32 × Int32 → Hp → Option (Int32 × Hp)) (v : Nat × Nat × Int32 × Int32) (h0 : Hp) : Option (Int32 × Hp) :=
  match v with
  | (l0, l1, l2, l3) => (gI h0 l1 0 0).bind fun x1 => if ((1 : Int32) <<< (x1 &&& 31)) ≤ l3 then ((gI h0 l0 3 4).bind fun x3 => some (x3, h0)) else ((f_X6_has l3 l2 h0).bind fun q4 => if q4.1 = 0 then ((f_X3_aboveOf l0 l3 l1 q4.2).bind fun q6 => (f_J6_bitCount_0f7a4 l3 q6.2).bind fun q7 => (gI q7.2 l0 3 3).bind fun x8 => (f_J6_bitCount_0f7a4 x8 q7.2).bind fun q9 => if q9.1 ≤ q7.1 then (f_X3_find_66 k18 l0 l1 l2 l3 q6.1 (0 : Int32) q9.2) else (f_X3_find_66 k18 l0 l1 l2 l3 q6.1 (1 : Int32) q9.2)) else ((some (l3 + 1)).bind fun x11 => k18 (l0, l1, l2, x11) q4.2))
set_option maxRecDepth 100000 in
set_option maxHeartbeats 4000000 in
theorem c_X3_find_18 {X : Cx} {adr : Nat → Nat} {q : Int32 × Hp} (hr : (mth X).sig.returnType = (some .int)) (n : Nat) : ∀ v h0, lp (f_X3_find_18) n v h0 = some q → AW X cX3_find 6 RX3 (rmd 4 0 0) (Qmet X 0 0 (Qe (some (.int q.1)) q.2 adr)) 0 0 adr h0 18 [(0, .ref v.1), (1, .ref v.2.1), (2, .int v.2.2.1), (3, .int v.2.2.2)] [] := by
  refine aw_lp (fun k18 hk18 v h0 hf => ?_) n
  obtain ⟨l0, l1, l2, l3⟩ := v
  unfold f_X3_find_18 at hf
  dsimp only at hf
  show AW X cX3_find 6 RX3 (rmd 4 0 0) (Qmet X 0 0 (Qe (some (.int q.1)) q.2 adr)) 0 0 adr h0 18 [(0, .ref l0), (1, .ref l1), (2, .int l2), (3, .int l3)] []
  refine aw_iload_n 3 dX3_find_18 rfl rfl ?_
  refine aw_iconst (v := 1) dX3_find_19 (by decide) ?_
  refine aw_aload_n 1 dX3_find_20 rfl rfl ?_
  obtain ⟨x1, ex1, hf⟩ := b_some hf
  refine aw_getI dX3_find_21 gfX3_29 ex1 ?_
  refine aw_ishl dX3_find_24 ?_
  refine aw_icmp_ge (tgt := 108) dX3_find_25 (by decide) (fun c2 => ?_) (fun c2 => ?_)
  · have hf := i_pos c2 hf
    refine aw_aload_n 0 dX3_find_108 rfl rfl ?_
    obtain ⟨x3, ex3, hf⟩ := b_some hf
    refine aw_getI dX3_find_109 gfX3_26 ex3 ?_
    have hq := Option.some.inj hf
    subst hq
    exact aw_iret hr dX3_find_112 ⟨rfl, rfl, rfl⟩
  · have hf := i_neg c2 hf
    refine aw_iload_n 3 dX3_find_28 rfl rfl ?_
    refine aw_iload_n 2 dX3_find_29 rfl rfl ?_
    obtain ⟨q4, eq4, hf⟩ := b_some hf
    refine aw_cSN (as := [.int l3, .int l2]) dX3_find_30 moX6_has soX6_has mnX3_32 (rm_ok (by omega) (by decide)) ⟨Nat.le_refl _, Nat.le_refl _⟩ (Nat.le_of_ble_eq_true rfl) rfl (c_X6_has eq4) ?_
    refine aw_if_eq (tgt := 39) dX3_find_33 (by decide) (fun c5 => ?_) (fun c5 => ?_)
    · have hf := i_pos c5 hf
      refine aw_aload_n 0 dX3_find_39 rfl rfl ?_
      refine aw_iload_n 3 dX3_find_40 rfl rfl ?_
      refine aw_aload_n 1 dX3_find_41 rfl rfl ?_
      obtain ⟨q6, eq6, hf⟩ := b_some hf
      refine aw_cV (as := [.int l3, .ref l1]) dX3_find_42 moX3_aboveOf voX3_aboveOf mlX3_36 (k_X3_aboveOf eq6) rfl (rm_ok (by omega) (by decide)) ⟨Nat.le_refl _, Nat.le_refl _⟩ (Nat.le_of_ble_eq_true rfl) rfl (c_X3_aboveOf eq6) ?_
      refine aw_istore (L' := [(4, .int q6.1), (0, .ref l0), (1, .ref l1), (2, .int l2), (3, .int l3)]) dX3_find_45 (by decide) rfl ?_
      refine aw_iload_n 4 dX3_find_47 rfl rfl ?_
      obtain ⟨q7, eq7, hf⟩ := b_some hf
      refine aw_cS (as := [.int l3]) dX3_find_48 moJ6_bitCount_0f7a4 soJ6_bitCount_0f7a4 mlX3_40 (rm_ok (by omega) (by decide)) ⟨Nat.le_refl _, Nat.le_refl _⟩ (Nat.le_of_ble_eq_true rfl) rfl (c_J6_bitCount_0f7a4 eq7) ?_
      refine aw_aload_n 1 dX3_find_51 rfl rfl ?_
      obtain ⟨x8, ex8, hf⟩ := b_some hf
      refine aw_getI dX3_find_52 gfX3_22 ex8 ?_
      obtain ⟨q9, eq9, hf⟩ := b_some hf
      refine aw_cS (as := [.int x8]) dX3_find_55 moJ6_bitCount_0f7a4 soJ6_bitCount_0f7a4 mlX3_40 (rm_ok (by omega) (by decide)) ⟨Nat.le_refl _, Nat.le_refl _⟩ (Nat.le_of_ble_eq_true rfl) rfl (c_J6_bitCount_0f7a4 eq9) ?_
      refine aw_icmp_ge (tgt := 65) dX3_find_58 (by decide) (fun c10 => ?_) (fun c10 => ?_)
      · have hf := i_pos c10 hf
        refine aw_iconst (v := 0) dX3_find_65 (by decide) ?_
        exact aw_sub [1, 2, 3, 4, 0] rfl (c_X3_find_66 hr hk18 hf)
      · have hf := i_neg c10 hf
        refine aw_iconst (v := 1) dX3_find_61 (by decide) ?_
        refine aw_goto (tgt := 66) dX3_find_62 (by decide) ?_
        exact aw_sub [1, 2, 3, 4, 0] rfl (c_X3_find_66 hr hk18 hf)
    · have hf := i_neg c5 hf
      refine aw_goto (tgt := 102) dX3_find_36 (by decide) ?_
      obtain ⟨x11, ex11, hf⟩ := b_some hf
      refine aw_iinc (v := x11) (L' := [(3, .int x11), (0, .ref l0), (1, .ref l1), (2, .int l2)]) 3 dX3_find_102 rfl (Option.some.inj ex11) (by decide) rfl ?_
      refine aw_goto (tgt := 18) dX3_find_105 (by decide) ?_
      exact aw_sub [1, 2, 3, 0] rfl (hk18 _ _ hf)
def f_X3_find (l0 : Nat) (l1 : Nat) (l2 : Int32) (h0 : Hp) : Option (Int32 × Hp) :=
  (ck h0 l0 3).bind fun _ => (f_X3_open l0 l1 l2 h0).bind fun q1 => (pI q1.2 l0 3 3 (0 : Int32)).bind fun h2 => (pI h2 l0 3 4 (0 : Int32)).bind fun h3 => lp (f_X3_find_18) 600 (l0, l1, l2, (1 : Int32)) h3
set_option maxRecDepth 100000 in
set_option maxHeartbeats 4000000 in
theorem c_X3_find {l0 : Nat} {l1 : Nat} {l2 : Int32} {h0 : Hp} {q : Int32 × Hp} (hf : f_X3_find l0 l1 l2 h0 = some q) : Mt 4 yX3_find cX3_find 6 (some .int) [.ref l0, .ref l1, .int l2] h0 (some (.int q.1)) q.2 := by
  refine MtQ.of (by decide) (Nat.le_of_ble_eq_true rfl) (fun X adr hr hn => ?_)
  unfold f_X3_find at hf
  show AW X cX3_find 6 RX3 (rmd 4 0 0) (Qmet X 0 0 (Qe (some (.int q.1)) q.2 adr)) 0 0 adr h0 0 [(0, .ref l0), (1, .ref l1), (2, .int l2)] []
  obtain ⟨u0, e0, hf⟩ := b_some hf
  refine aw_aload_n 0 dX3_find_0 rfl rfl ?_
  refine aw_aload_n 1 dX3_find_1 rfl rfl ?_
  refine aw_iload_n 2 dX3_find_2 rfl rfl ?_
  obtain ⟨q1, eq1, hf⟩ := b_some hf
  refine aw_cV0 (as := [.ref l1, .int l2]) dX3_find_3 moX3_open voX3_open mlX3_18 (k_X3_open eq1) rfl (rm_ok (by omega) (by decide)) ⟨Nat.le_refl _, Nat.le_refl _⟩ (Nat.le_of_ble_eq_true rfl) rfl (c_X3_open eq1) ?_
  refine aw_aload_n 0 dX3_find_6 rfl rfl ?_
  refine aw_iconst (v := 0) dX3_find_7 (by decide) ?_
  obtain ⟨h2, eh2, hf⟩ := b_some hf
  refine aw_putI dX3_find_8 pfX3_22 eh2 ?_
  refine aw_aload_n 0 dX3_find_11 rfl rfl ?_
  refine aw_iconst (v := 0) dX3_find_12 (by decide) ?_
  obtain ⟨h3, eh3, hf⟩ := b_some hf
  refine aw_putI dX3_find_13 pfX3_26 eh3 ?_
  refine aw_iconst (v := 1) dX3_find_16 (by decide) ?_
  refine aw_istore_n (L' := [(3, .int (1 : Int32)), (0, .ref l0), (1, .ref l1), (2, .int l2)]) dX3_find_17 rfl (by decide) rfl ?_
  exact aw_sub [1, 2, 3, 0] rfl (c_X3_find_18 hr 600 _ _ hf)
theorem k_X3_find {l0 : Nat} {l1 : Nat} {l2 : Int32} {h0 : Hp} {q : Int32 × Hp} (hf : f_X3_find l0 l1 l2 h0 = some q) : ck h0 l0 3 = some () := by
  unfold f_X3_find at hf
  obtain ⟨u0, e0, hf⟩ := b_some hf
  exact e0
theorem dX4_add_0 : decode cX4_add 0 = .ok (.aload_n 0, 1) := by decide +kernel
theorem dX4_add_1 : decode cX4_add 1 = .ok (.getfield 15, 3) := by decide +kernel
theorem dX4_add_4 : decode cX4_add 4 = .ok (.bipush 40, 2) := by decide +kernel
theorem dX4_add_6 : decode cX4_add 6 = .ok (.if_icmp .lt 4, 3) := by decide +kernel
theorem dX4_add_9 : decode cX4_add 9 = .ok (.return_, 1) := by decide +kernel
theorem dX4_add_10 : decode cX4_add 10 = .ok (.aload_n 0, 1) := by decide +kernel
theorem dX4_add_11 : decode cX4_add 11 = .ok (.getfield 9, 3) := by decide +kernel
theorem dX4_add_14 : decode cX4_add 14 = .ok (.aload_n 0, 1) := by decide +kernel
theorem dX4_add_15 : decode cX4_add 15 = .ok (.getfield 15, 3) := by decide +kernel
theorem dX4_add_18 : decode cX4_add 18 = .ok (.iload_n 1, 1) := by decide +kernel
theorem dX4_add_19 : decode cX4_add 19 = .ok (.iastore, 1) := by decide +kernel
theorem dX4_add_20 : decode cX4_add 20 = .ok (.aload_n 0, 1) := by decide +kernel
theorem dX4_add_21 : decode cX4_add 21 = .ok (.dup, 1) := by decide +kernel
theorem dX4_add_22 : decode cX4_add 22 = .ok (.getfield 15, 3) := by decide +kernel
theorem dX4_add_25 : decode cX4_add 25 = .ok (.iconst 1, 1) := by decide +kernel
theorem dX4_add_26 : decode cX4_add 26 = .ok (.iadd, 1) := by decide +kernel
theorem dX4_add_27 : decode cX4_add 27 = .ok (.putfield 15, 3) := by decide +kernel
theorem dX4_add_30 : decode cX4_add 30 = .ok (.return_, 1) := by decide +kernel
def f_X4_add (l0 : Nat) (l1 : Int32) (h0 : Hp) : Option (Unit × Hp) :=
  (ck h0 l0 4).bind fun _ => (gI h0 l0 4 1).bind fun x1 => if x1 < (40 : Int32) then ((gR h0 l0 4 0).bind fun r3 => (gI h0 l0 4 1).bind fun x4 => (aS h0 r3 x4 l1).bind fun h5 => (gI h5 l0 4 1).bind fun x6 => (pI h5 l0 4 1 (x6 + (1 : Int32))).bind fun h7 => some ((), h7)) else (some ((), h0))
set_option maxRecDepth 100000 in
set_option maxHeartbeats 4000000 in
theorem c_X4_add {l0 : Nat} {l1 : Int32} {h0 : Hp} {q : Unit × Hp} (hf : f_X4_add l0 l1 h0 = some q) : Mt 1 yX4_add cX4_add 2 none [.ref l0, .int l1] h0 none q.2 := by
  refine MtQ.of (by decide) (Nat.le_of_ble_eq_true rfl) (fun X adr hr hn => ?_)
  unfold f_X4_add at hf
  show AW X cX4_add 2 RX4 (rmd 1 0 0) (Qmet X 0 0 (Qe none q.2 adr)) 0 0 adr h0 0 [(0, .ref l0), (1, .int l1)] []
  obtain ⟨u0, e0, hf⟩ := b_some hf
  refine aw_aload_n 0 dX4_add_0 rfl rfl ?_
  obtain ⟨x1, ex1, hf⟩ := b_some hf
  refine aw_getI dX4_add_1 gfX4_15 ex1 ?_
  refine aw_bipush (v := 40) dX4_add_4 (by decide) ?_
  refine aw_icmp_lt (tgt := 10) dX4_add_6 (by decide) (fun c2 => ?_) (fun c2 => ?_)
  · have hf := i_pos c2 hf
    refine aw_aload_n 0 dX4_add_10 rfl rfl ?_
    obtain ⟨r3, er3, hf⟩ := b_some hf
    refine aw_getR dX4_add_11 gfX4_9 er3 ?_
    refine aw_aload_n 0 dX4_add_14 rfl rfl ?_
    obtain ⟨x4, ex4, hf⟩ := b_some hf
    refine aw_getI dX4_add_15 gfX4_15 ex4 ?_
    refine aw_iload_n 1 dX4_add_18 rfl rfl ?_
    obtain ⟨h5, eh5, hf⟩ := b_some hf
    refine aw_iast dX4_add_19 eh5 ?_
    refine aw_aload_n 0 dX4_add_20 rfl rfl ?_
    refine aw_dup dX4_add_21 rfl ?_
    obtain ⟨x6, ex6, hf⟩ := b_some hf
    refine aw_getI dX4_add_22 gfX4_15 ex6 ?_
    refine aw_iconst (v := 1) dX4_add_25 (by decide) ?_
    refine aw_iadd dX4_add_26 ?_
    obtain ⟨h7, eh7, hf⟩ := b_some hf
    refine aw_putI dX4_add_27 pfX4_15 eh7 ?_
    have hq := Option.some.inj hf
    subst hq
    exact aw_vret hr dX4_add_30 ⟨rfl, rfl, rfl⟩
  · have hf := i_neg c2 hf
    have hq := Option.some.inj hf
    subst hq
    exact aw_vret hr dX4_add_9 ⟨rfl, rfl, rfl⟩
theorem k_X4_add {l0 : Nat} {l1 : Int32} {h0 : Hp} {q : Unit × Hp} (hf : f_X4_add l0 l1 h0 = some q) : ck h0 l0 4 = some () := by
  unfold f_X4_add at hf
  obtain ⟨u0, e0, hf⟩ := b_some hf
  exact e0
theorem dX4_clear_0 : decode cX4_clear 0 = .ok (.aload_n 0, 1) := by decide +kernel
theorem dX4_clear_1 : decode cX4_clear 1 = .ok (.iconst 0, 1) := by decide +kernel
theorem dX4_clear_2 : decode cX4_clear 2 = .ok (.putfield 15, 3) := by decide +kernel
theorem dX4_clear_5 : decode cX4_clear 5 = .ok (.aload_n 0, 1) := by decide +kernel
theorem dX4_clear_6 : decode cX4_clear 6 = .ok (.iconst 0, 1) := by decide +kernel
theorem dX4_clear_7 : decode cX4_clear 7 = .ok (.putfield 19, 3) := by decide +kernel
theorem dX4_clear_10 : decode cX4_clear 10 = .ok (.aload_n 0, 1) := by decide +kernel
theorem dX4_clear_11 : decode cX4_clear 11 = .ok (.iconst 0, 1) := by decide +kernel
theorem dX4_clear_12 : decode cX4_clear 12 = .ok (.putfield 22, 3) := by decide +kernel
theorem dX4_clear_15 : decode cX4_clear 15 = .ok (.aload_n 0, 1) := by decide +kernel
theorem dX4_clear_16 : decode cX4_clear 16 = .ok (.iconst 0, 1) := by decide +kernel
theorem dX4_clear_17 : decode cX4_clear 17 = .ok (.putfield 25, 3) := by decide +kernel
theorem dX4_clear_20 : decode cX4_clear 20 = .ok (.return_, 1) := by decide +kernel
def f_X4_clear (l0 : Nat) (h0 : Hp) : Option (Unit × Hp) :=
  (ck h0 l0 4).bind fun _ => (pI h0 l0 4 1 (0 : Int32)).bind fun h1 => (pI h1 l0 4 2 (0 : Int32)).bind fun h2 => (pI h2 l0 4 3 (0 : Int32)).bind fun h3 => (pI h3 l0 4 4 (0 : Int32)).bind fun h4 => some ((), h4)
set_option maxRecDepth 100000 in
set_option maxHeartbeats 4000000 in
theorem c_X4_clear {l0 : Nat} {h0 : Hp} {q : Unit × Hp} (hf : f_X4_clear l0 h0 = some q) : Mt 1 yX4_clear cX4_clear 1 none [.ref l0] h0 none q.2 := by
  refine MtQ.of (by decide) (Nat.le_of_ble_eq_true rfl) (fun X adr hr hn => ?_)
  unfold f_X4_clear at hf
  show AW X cX4_clear 1 RX4 (rmd 1 0 0) (Qmet X 0 0 (Qe none q.2 adr)) 0 0 adr h0 0 [(0, .ref l0)] []
  obtain ⟨u0, e0, hf⟩ := b_some hf
  refine aw_aload_n 0 dX4_clear_0 rfl rfl ?_
  refine aw_iconst (v := 0) dX4_clear_1 (by decide) ?_
  obtain ⟨h1, eh1, hf⟩ := b_some hf
  refine aw_putI dX4_clear_2 pfX4_15 eh1 ?_
  refine aw_aload_n 0 dX4_clear_5 rfl rfl ?_
  refine aw_iconst (v := 0) dX4_clear_6 (by decide) ?_
  obtain ⟨h2, eh2, hf⟩ := b_some hf
  refine aw_putI dX4_clear_7 pfX4_19 eh2 ?_
  refine aw_aload_n 0 dX4_clear_10 rfl rfl ?_
  refine aw_iconst (v := 0) dX4_clear_11 (by decide) ?_
  obtain ⟨h3, eh3, hf⟩ := b_some hf
  refine aw_putI dX4_clear_12 pfX4_22 eh3 ?_
  refine aw_aload_n 0 dX4_clear_15 rfl rfl ?_
  refine aw_iconst (v := 0) dX4_clear_16 (by decide) ?_
  obtain ⟨h4, eh4, hf⟩ := b_some hf
  refine aw_putI dX4_clear_17 pfX4_25 eh4 ?_
  have hq := Option.some.inj hf
  subst hq
  exact aw_vret hr dX4_clear_20 ⟨rfl, rfl, rfl⟩
theorem k_X4_clear {l0 : Nat} {h0 : Hp} {q : Unit × Hp} (hf : f_X4_clear l0 h0 = some q) : ck h0 l0 4 = some () := by
  unfold f_X4_clear at hf
  obtain ⟨u0, e0, hf⟩ := b_some hf
  exact e0
theorem dX4_isBlank_0 : decode cX4_isBlank 0 = .ok (.iload_n 0, 1) := by decide +kernel
theorem dX4_isBlank_1 : decode cX4_isBlank 1 = .ok (.bipush 32, 2) := by decide +kernel
theorem dX4_isBlank_3 : decode cX4_isBlank 3 = .ok (.if_icmp .eq 9, 3) := by decide +kernel
theorem dX4_isBlank_6 : decode cX4_isBlank 6 = .ok (.iload_n 0, 1) := by decide +kernel
theorem dX4_isBlank_7 : decode cX4_isBlank 7 = .ok (.bipush 10, 2) := by decide +kernel
theorem dX4_isBlank_9 : decode cX4_isBlank 9 = .ok (.if_icmp .ne 7, 3) := by decide +kernel
theorem dX4_isBlank_12 : decode cX4_isBlank 12 = .ok (.iconst 1, 1) := by decide +kernel
theorem dX4_isBlank_13 : decode cX4_isBlank 13 = .ok (.goto 4, 3) := by decide +kernel
theorem dX4_isBlank_16 : decode cX4_isBlank 16 = .ok (.iconst 0, 1) := by decide +kernel
theorem dX4_isBlank_17 : decode cX4_isBlank 17 = .ok (.ireturn, 1) := by decide +kernel
def f_X4_isBlank (l0 : Int32) (h0 : Hp) : Option (Int32 × Hp) :=
  if l0 = (32 : Int32) then (some ((1 : Int32), h0)) else (if l0 = (10 : Int32) then (some ((1 : Int32), h0)) else (some ((0 : Int32), h0)))
set_option maxRecDepth 100000 in
set_option maxHeartbeats 4000000 in
theorem c_X4_isBlank {l0 : Int32} {h0 : Hp} {q : Int32 × Hp} (hf : f_X4_isBlank l0 h0 = some q) : Mt 1 yX4_isBlank cX4_isBlank 1 (some .boolean) [.int l0] h0 (some (.int q.1)) q.2 := by
  refine MtQ.of (by decide) (Nat.le_of_ble_eq_true rfl) (fun X adr hr hn => ?_)
  unfold f_X4_isBlank at hf
  show AW X cX4_isBlank 1 RX4 (rmd 1 0 0) (Qmet X 0 0 (Qe (some (.int q.1)) q.2 adr)) 0 0 adr h0 0 [(0, .int l0)] []
  refine aw_iload_n 0 dX4_isBlank_0 rfl rfl ?_
  refine aw_bipush (v := 32) dX4_isBlank_1 (by decide) ?_
  refine aw_icmp_eq (tgt := 12) dX4_isBlank_3 (by decide) (fun c1 => ?_) (fun c1 => ?_)
  · have hf := i_pos c1 hf
    refine aw_iconst (v := 1) dX4_isBlank_12 (by decide) ?_
    refine aw_goto (tgt := 17) dX4_isBlank_13 (by decide) ?_
    have hq := Option.some.inj hf
    subst hq
    exact aw_zret hr (by decide) dX4_isBlank_17 ⟨rfl, rfl, rfl⟩
  · have hf := i_neg c1 hf
    refine aw_iload_n 0 dX4_isBlank_6 rfl rfl ?_
    refine aw_bipush (v := 10) dX4_isBlank_7 (by decide) ?_
    refine aw_icmp_ne (tgt := 16) dX4_isBlank_9 (by decide) (fun c2 => ?_) (fun c2 => ?_)
    · have hf := i_neg c2 hf
      refine aw_iconst (v := 0) dX4_isBlank_16 (by decide) ?_
      have hq := Option.some.inj hf
      subst hq
      exact aw_zret hr (by decide) dX4_isBlank_17 ⟨rfl, rfl, rfl⟩
    · have hf := i_pos c2 hf
      refine aw_iconst (v := 1) dX4_isBlank_12 (by decide) ?_
      refine aw_goto (tgt := 17) dX4_isBlank_13 (by decide) ?_
      have hq := Option.some.inj hf
      subst hq
      exact aw_zret hr (by decide) dX4_isBlank_17 ⟨rfl, rfl, rfl⟩
theorem dX4_sortAt_0 : decode cX4_sortAt 0 = .ok (.iload_n 1, 1) := by decide +kernel
theorem dX4_sortAt_1 : decode cX4_sortAt 1 = .ok (.ifCond .lt 11, 3) := by decide +kernel
theorem dX4_sortAt_4 : decode cX4_sortAt 4 = .ok (.iload_n 1, 1) := by decide +kernel
theorem dX4_sortAt_5 : decode cX4_sortAt 5 = .ok (.aload_n 0, 1) := by decide +kernel
theorem dX4_sortAt_6 : decode cX4_sortAt 6 = .ok (.getfield 15, 3) := by decide +kernel
theorem dX4_sortAt_9 : decode cX4_sortAt 9 = .ok (.if_icmp .lt 5, 3) := by decide +kernel
theorem dX4_sortAt_12 : decode cX4_sortAt 12 = .ok (.iconst 0, 1) := by decide +kernel
theorem dX4_sortAt_13 : decode cX4_sortAt 13 = .ok (.ireturn, 1) := by decide +kernel
theorem dX4_sortAt_14 : decode cX4_sortAt 14 = .ok (.aload_n 0, 1) := by decide +kernel
theorem dX4_sortAt_15 : decode cX4_sortAt 15 = .ok (.getfield 9, 3) := by decide +kernel
theorem dX4_sortAt_18 : decode cX4_sortAt 18 = .ok (.iload_n 1, 1) := by decide +kernel
theorem dX4_sortAt_19 : decode cX4_sortAt 19 = .ok (.iaload, 1) := by decide +kernel
theorem dX4_sortAt_20 : decode cX4_sortAt 20 = .ok (.istore_n 2, 1) := by decide +kernel
theorem dX4_sortAt_21 : decode cX4_sortAt 21 = .ok (.iload_n 2, 1) := by decide +kernel
theorem dX4_sortAt_22 : decode cX4_sortAt 22 = .ok (.bipush 97, 2) := by decide +kernel
theorem dX4_sortAt_24 : decode cX4_sortAt 24 = .ok (.if_icmp .lt 11, 3) := by decide +kernel
theorem dX4_sortAt_27 : decode cX4_sortAt 27 = .ok (.iload_n 2, 1) := by decide +kernel
theorem dX4_sortAt_28 : decode cX4_sortAt 28 = .ok (.bipush 122, 2) := by decide +kernel
theorem dX4_sortAt_30 : decode cX4_sortAt 30 = .ok (.if_icmp .gt 5, 3) := by decide +kernel
theorem dX4_sortAt_33 : decode cX4_sortAt 33 = .ok (.iconst 1, 1) := by decide +kernel
theorem dX4_sortAt_34 : decode cX4_sortAt 34 = .ok (.ireturn, 1) := by decide +kernel
theorem dX4_sortAt_35 : decode cX4_sortAt 35 = .ok (.iload_n 2, 1) := by decide +kernel
theorem dX4_sortAt_36 : decode cX4_sortAt 36 = .ok (.bipush 48, 2) := by decide +kernel
theorem dX4_sortAt_38 : decode cX4_sortAt 38 = .ok (.if_icmp .lt 11, 3) := by decide +kernel
theorem dX4_sortAt_41 : decode cX4_sortAt 41 = .ok (.iload_n 2, 1) := by decide +kernel
theorem dX4_sortAt_42 : decode cX4_sortAt 42 = .ok (.bipush 57, 2) := by decide +kernel
theorem dX4_sortAt_44 : decode cX4_sortAt 44 = .ok (.if_icmp .gt 5, 3) := by decide +kernel
theorem dX4_sortAt_47 : decode cX4_sortAt 47 = .ok (.iconst 2, 1) := by decide +kernel
theorem dX4_sortAt_48 : decode cX4_sortAt 48 = .ok (.ireturn, 1) := by decide +kernel
theorem dX4_sortAt_49 : decode cX4_sortAt 49 = .ok (.iconst 3, 1) := by decide +kernel
theorem dX4_sortAt_50 : decode cX4_sortAt 50 = .ok (.ireturn, 1) := by decide +kernel
def f_X4_sortAt_35 (l2 : Int32) (h0 : Hp) : Option (Int32 × Hp) :=
  if l2 < (48 : Int32) then (some ((3 : Int32), h0)) else (if (57 : Int32) < l2 then (some ((3 : Int32), h0)) else (some ((2 : Int32), h0)))
set_option maxRecDepth 100000 in
set_option maxHeartbeats 4000000 in
theorem c_X4_sortAt_35 {X : Cx} {adr : Nat → Nat} {q : Int32 × Hp} (hr : (mth X).sig.returnType = (some .int)) {l2 : Int32} {h0 : Hp} (hf : f_X4_sortAt_35 l2 h0 = some q) : AW X cX4_sortAt 3 RX4 (rmd 1 0 0) (Qmet X 0 0 (Qe (some (.int q.1)) q.2 adr)) 0 0 adr h0 35 [(2, .int l2)] [] := by
  unfold f_X4_sortAt_35 at hf
  refine aw_iload_n 0 dX4_sortAt_35 rfl rfl ?_
  refine aw_bipush (v := 48) dX4_sortAt_36 (by decide) ?_
  refine aw_icmp_lt (tgt := 49) dX4_sortAt_38 (by decide) (fun c1 => ?_) (fun c1 => ?_)
  · have hf := i_pos c1 hf
    refine aw_iconst (v := 3) dX4_sortAt_49 (by decide) ?_
    have hq := Option.some.inj hf
    subst hq
    exact aw_iret hr dX4_sortAt_50 ⟨rfl, rfl, rfl⟩
  · have hf := i_neg c1 hf
    refine aw_iload_n 0 dX4_sortAt_41 rfl rfl ?_
    refine aw_bipush (v := 57) dX4_sortAt_42 (by decide) ?_
    refine aw_icmp_gt (tgt := 49) dX4_sortAt_44 (by decide) (fun c2 => ?_) (fun c2 => ?_)
    · have hf := i_pos c2 hf
      refine aw_iconst (v := 3) dX4_sortAt_49 (by decide) ?_
      have hq := Option.some.inj hf
      subst hq
      exact aw_iret hr dX4_sortAt_50 ⟨rfl, rfl, rfl⟩
    · have hf := i_neg c2 hf
      refine aw_iconst (v := 2) dX4_sortAt_47 (by decide) ?_
      have hq := Option.some.inj hf
      subst hq
      exact aw_iret hr dX4_sortAt_48 ⟨rfl, rfl, rfl⟩
def f_X4_sortAt (l0 : Nat) (l1 : Int32) (h0 : Hp) : Option (Int32 × Hp) :=
  (ck h0 l0 4).bind fun _ => if l1 < 0 then (some ((0 : Int32), h0)) else ((gI h0 l0 4 1).bind fun x2 => if l1 < x2 then ((gR h0 l0 4 0).bind fun r4 => (aL h0 r4 l1).bind fun x5 => if x5 < (97 : Int32) then (f_X4_sortAt_35 x5 h0) else (if (122 : Int32) < x5 then (f_X4_sortAt_35 x5 h0) else (some ((1 : Int32), h0)))) else (some ((0 : Int32), h0)))
set_option maxRecDepth 100000 in
set_option maxHeartbeats 4000000 in
theorem c_X4_sortAt {l0 : Nat} {l1 : Int32} {h0 : Hp} {q : Int32 × Hp} (hf : f_X4_sortAt l0 l1 h0 = some q) : Mt 1 yX4_sortAt cX4_sortAt 3 (some .int) [.ref l0, .int l1] h0 (some (.int q.1)) q.2 := by
  refine MtQ.of (by decide) (Nat.le_of_ble_eq_true rfl) (fun X adr hr hn => ?_)
  unfold f_X4_sortAt at hf
  show AW X cX4_sortAt 3 RX4 (rmd 1 0 0) (Qmet X 0 0 (Qe (some (.int q.1)) q.2 adr)) 0 0 adr h0 0 [(0, .ref l0), (1, .int l1)] []
  obtain ⟨u0, e0, hf⟩ := b_some hf
  refine aw_iload_n 1 dX4_sortAt_0 rfl rfl ?_
  refine aw_if_lt (tgt := 12) dX4_sortAt_1 (by decide) (fun c1 => ?_) (fun c1 => ?_)
  · have hf := i_pos c1 hf
    refine aw_iconst (v := 0) dX4_sortAt_12 (by decide) ?_
    have hq := Option.some.inj hf
    subst hq
    exact aw_iret hr dX4_sortAt_13 ⟨rfl, rfl, rfl⟩
  · have hf := i_neg c1 hf
    refine aw_iload_n 1 dX4_sortAt_4 rfl rfl ?_
    refine aw_aload_n 0 dX4_sortAt_5 rfl rfl ?_
    obtain ⟨x2, ex2, hf⟩ := b_some hf
    refine aw_getI dX4_sortAt_6 gfX4_15 ex2 ?_
    refine aw_icmp_lt (tgt := 14) dX4_sortAt_9 (by decide) (fun c3 => ?_) (fun c3 => ?_)
    · have hf := i_pos c3 hf
      refine aw_aload_n 0 dX4_sortAt_14 rfl rfl ?_
      obtain ⟨r4, er4, hf⟩ := b_some hf
      refine aw_getR dX4_sortAt_15 gfX4_9 er4 ?_
      refine aw_iload_n 1 dX4_sortAt_18 rfl rfl ?_
      obtain ⟨x5, ex5, hf⟩ := b_some hf
      refine aw_iald dX4_sortAt_19 ex5 ?_
      refine aw_istore_n (L' := [(2, .int x5), (0, .ref l0), (1, .int l1)]) dX4_sortAt_20 rfl (by decide) rfl ?_
      refine aw_iload_n 0 dX4_sortAt_21 rfl rfl ?_
      refine aw_bipush (v := 97) dX4_sortAt_22 (by decide) ?_
      refine aw_icmp_lt (tgt := 35) dX4_sortAt_24 (by decide) (fun c6 => ?_) (fun c6 => ?_)
      · have hf := i_pos c6 hf
        exact aw_sub [0] rfl (c_X4_sortAt_35 hr hf)
      · have hf := i_neg c6 hf
        refine aw_iload_n 0 dX4_sortAt_27 rfl rfl ?_
        refine aw_bipush (v := 122) dX4_sortAt_28 (by decide) ?_
        refine aw_icmp_gt (tgt := 35) dX4_sortAt_30 (by decide) (fun c7 => ?_) (fun c7 => ?_)
        · have hf := i_pos c7 hf
          exact aw_sub [0] rfl (c_X4_sortAt_35 hr hf)
        · have hf := i_neg c7 hf
          refine aw_iconst (v := 1) dX4_sortAt_33 (by decide) ?_
          have hq := Option.some.inj hf
          subst hq
          exact aw_iret hr dX4_sortAt_34 ⟨rfl, rfl, rfl⟩
    · have hf := i_neg c3 hf
      refine aw_iconst (v := 0) dX4_sortAt_12 (by decide) ?_
      have hq := Option.some.inj hf
      subst hq
      exact aw_iret hr dX4_sortAt_13 ⟨rfl, rfl, rfl⟩
theorem k_X4_sortAt {l0 : Nat} {l1 : Int32} {h0 : Hp} {q : Int32 × Hp} (hf : f_X4_sortAt l0 l1 h0 = some q) : ck h0 l0 4 = some () := by
  unfold f_X4_sortAt at hf
  obtain ⟨u0, e0, hf⟩ := b_some hf
  exact e0
theorem dX4_step_0 : decode cX4_step 0 = .ok (.aload_n 0, 1) := by decide +kernel
theorem dX4_step_1 : decode cX4_step 1 = .ok (.aload_n 0, 1) := by decide +kernel
theorem dX4_step_2 : decode cX4_step 2 = .ok (.getfield 22, 3) := by decide +kernel
theorem dX4_step_5 : decode cX4_step 5 = .ok (.putfield 19, 3) := by decide +kernel
theorem dX4_step_8 : decode cX4_step 8 = .ok (.aload_n 0, 1) := by decide +kernel
theorem dX4_step_9 : decode cX4_step 9 = .ok (.getfield 19, 3) := by decide +kernel
theorem dX4_step_12 : decode cX4_step 12 = .ok (.aload_n 0, 1) := by decide +kernel
theorem dX4_step_13 : decode cX4_step 13 = .ok (.getfield 15, 3) := by decide +kernel
theorem dX4_step_16 : decode cX4_step 16 = .ok (.if_icmp .ge 31, 3) := by decide +kernel
theorem dX4_step_19 : decode cX4_step 19 = .ok (.aload_n 0, 1) := by decide +kernel
theorem dX4_step_20 : decode cX4_step 20 = .ok (.getfield 9, 3) := by decide +kernel
theorem dX4_step_23 : decode cX4_step 23 = .ok (.aload_n 0, 1) := by decide +kernel
theorem dX4_step_24 : decode cX4_step 24 = .ok (.getfield 19, 3) := by decide +kernel
theorem dX4_step_27 : decode cX4_step 27 = .ok (.iaload, 1) := by decide +kernel
theorem dX4_step_28 : decode cX4_step 28 = .ok (.invokestatic 28, 3) := by decide +kernel
theorem dX4_step_31 : decode cX4_step 31 = .ok (.ifCond .eq 16, 3) := by decide +kernel
theorem dX4_step_34 : decode cX4_step 34 = .ok (.aload_n 0, 1) := by decide +kernel
theorem dX4_step_35 : decode cX4_step 35 = .ok (.dup, 1) := by decide +kernel
theorem dX4_step_36 : decode cX4_step 36 = .ok (.getfield 19, 3) := by decide +kernel
theorem dX4_step_39 : decode cX4_step 39 = .ok (.iconst 1, 1) := by decide +kernel
theorem dX4_step_40 : decode cX4_step 40 = .ok (.iadd, 1) := by decide +kernel
theorem dX4_step_41 : decode cX4_step 41 = .ok (.putfield 19, 3) := by decide +kernel
theorem dX4_step_44 : decode cX4_step 44 = .ok (.goto (-36), 3) := by decide +kernel
theorem dX4_step_47 : decode cX4_step 47 = .ok (.aload_n 0, 1) := by decide +kernel
theorem dX4_step_48 : decode cX4_step 48 = .ok (.aload_n 0, 1) := by decide +kernel
theorem dX4_step_49 : decode cX4_step 49 = .ok (.aload_n 0, 1) := by decide +kernel
theorem dX4_step_50 : decode cX4_step 50 = .ok (.getfield 19, 3) := by decide +kernel
theorem dX4_step_53 : decode cX4_step 53 = .ok (.invokevirtual 32, 3) := by decide +kernel
theorem dX4_step_56 : decode cX4_step 56 = .ok (.putfield 25, 3) := by decide +kernel
theorem dX4_step_59 : decode cX4_step 59 = .ok (.aload_n 0, 1) := by decide +kernel
theorem dX4_step_60 : decode cX4_step 60 = .ok (.aload_n 0, 1) := by decide +kernel
theorem dX4_step_61 : decode cX4_step 61 = .ok (.getfield 19, 3) := by decide +kernel
theorem dX4_step_64 : decode cX4_step 64 = .ok (.putfield 22, 3) := by decide +kernel
theorem dX4_step_67 : decode cX4_step 67 = .ok (.aload_n 0, 1) := by decide +kernel
theorem dX4_step_68 : decode cX4_step 68 = .ok (.getfield 25, 3) := by decide +kernel
theorem dX4_step_71 : decode cX4_step 71 = .ok (.iconst 1, 1) := by decide +kernel
theorem dX4_step_72 : decode cX4_step 72 = .ok (.if_icmp .eq 12, 3) := by decide +kernel
theorem dX4_step_75 : decode cX4_step 75 = .ok (.aload_n 0, 1) := by decide +kernel
theorem dX4_step_76 : decode cX4_step 76 = .ok (.getfield 25, 3) := by decide +kernel
theorem dX4_step_79 : decode cX4_step 79 = .ok (.iconst 2, 1) := by decide +kernel
theorem dX4_step_80 : decode cX4_step 80 = .ok (.if_icmp .eq 4, 3) := by decide +kernel
theorem dX4_step_83 : decode cX4_step 83 = .ok (.return_, 1) := by decide +kernel
theorem dX4_step_84 : decode cX4_step 84 = .ok (.aload_n 0, 1) := by decide +kernel
theorem dX4_step_85 : decode cX4_step 85 = .ok (.getfield 22, 3) := by decide +kernel
theorem dX4_step_88 : decode cX4_step 88 = .ok (.aload_n 0, 1) := by decide +kernel
theorem dX4_step_89 : decode cX4_step 89 = .ok (.getfield 15, 3) := by decide +kernel
theorem dX4_step_92 : decode cX4_step 92 = .ok (.if_icmp .ge 31, 3) := by decide +kernel
theorem dX4_step_95 : decode cX4_step 95 = .ok (.aload_n 0, 1) := by decide +kernel
theorem dX4_step_96 : decode cX4_step 96 = .ok (.aload_n 0, 1) := by decide +kernel
theorem dX4_step_97 : decode cX4_step 97 = .ok (.getfield 22, 3) := by decide +kernel
theorem dX4_step_100 : decode cX4_step 100 = .ok (.invokevirtual 32, 3) := by decide +kernel
theorem dX4_step_103 : decode cX4_step 103 = .ok (.aload_n 0, 1) := by decide +kernel
theorem dX4_step_104 : decode cX4_step 104 = .ok (.getfield 25, 3) := by decide +kernel
theorem dX4_step_107 : decode cX4_step 107 = .ok (.if_icmp .ne 16, 3) := by decide +kernel
theorem dX4_step_110 : decode cX4_step 110 = .ok (.aload_n 0, 1) := by decide +kernel
theorem dX4_step_111 : decode cX4_step 111 = .ok (.dup, 1) := by decide +kernel
theorem dX4_step_112 : decode cX4_step 112 = .ok (.getfield 22, 3) := by decide +kernel
theorem dX4_step_115 : decode cX4_step 115 = .ok (.iconst 1, 1) := by decide +kernel
theorem dX4_step_116 : decode cX4_step 116 = .ok (.iadd, 1) := by decide +kernel
theorem dX4_step_117 : decode cX4_step 117 = .ok (.putfield 22, 3) := by decide +kernel
theorem dX4_step_120 : decode cX4_step 120 = .ok (.goto (-36), 3) := by decide +kernel
theorem dX4_step_123 : decode cX4_step 123 = .ok (.return_, 1) := by decide +kernel
def f_X4_step_84 (k84 : Nat → Hp → Option (Unit × Hp)) (v : Nat) (h0 : Hp) : Option (Unit × Hp) :=
  match v with
  | l0 => (gI h0 l0 4 3).bind fun x1 => (gI h0 l0 4 1).bind fun x2 => if x2 ≤ x1 then (some ((), h0)) else ((gI h0 l0 4 3).bind fun x4 => (f_X4_sortAt l0 x4 h0).bind fun q5 => (gI q5.2 l0 4 4).bind fun x6 => if q5.1 = x6 then ((gI q5.2 l0 4 3).bind fun x8 => (pI q5.2 l0 4 3 (x8 + (1 : Int32))).bind fun h9 => k84 l0 h9) else (some ((), q5.2)))
set_option maxRecDepth 100000 in
set_option maxHeartbeats 4000000 in
theorem c_X4_step_84 {X : Cx} {adr : Nat → Nat} {q : Unit × Hp} (hr : (mth X).sig.returnType = none) (n : Nat) : ∀ v h0, lp (f_X4_step_84) n v h0 = some q → AW X cX4_step 1 RX4 (rmd 2 0 0) (Qmet X 0 0 (Qe none q.2 adr)) 0 0 adr h0 84 [(0, .ref v)] [] := by
  refine aw_lp (fun k84 hk84 v h0 hf => ?_) n
  have ⟨l0, hv⟩ : ∃ z, z = v := ⟨_, rfl⟩
  subst hv
  unfold f_X4_step_84 at hf
  dsimp only at hf
  show AW X cX4_step 1 RX4 (rmd 2 0 0) (Qmet X 0 0 (Qe none q.2 adr)) 0 0 adr h0 84 [(0, .ref l0)] []
  refine aw_aload_n 0 dX4_step_84 rfl rfl ?_
  obtain ⟨x1, ex1, hf⟩ := b_some hf
  refine aw_getI dX4_step_85 gfX4_22 ex1 ?_
  refine aw_aload_n 0 dX4_step_88 rfl rfl ?_
  obtain ⟨x2, ex2, hf⟩ := b_some hf
  refine aw_getI dX4_step_89 gfX4_15 ex2 ?_
  refine aw_icmp_ge (tgt := 123) dX4_step_92 (by decide) (fun c3 => ?_) (fun c3 => ?_)
  · have hf := i_pos c3 hf
    have hq := Option.some.inj hf
    subst hq
    exact aw_vret hr dX4_step_123 ⟨rfl, rfl, rfl⟩
  · have hf := i_neg c3 hf
    refine aw_aload_n 0 dX4_step_95 rfl rfl ?_
    refine aw_aload_n 0 dX4_step_96 rfl rfl ?_
    obtain ⟨x4, ex4, hf⟩ := b_some hf
    refine aw_getI dX4_step_97 gfX4_22 ex4 ?_
    obtain ⟨q5, eq5, hf⟩ := b_some hf
    refine aw_cV (as := [.int x4]) dX4_step_100 moX4_sortAt voX4_sortAt mlX4_32 (k_X4_sortAt eq5) rfl (rm_ok (by omega) (by decide)) ⟨Nat.le_refl _, Nat.le_refl _⟩ (Nat.le_of_ble_eq_true rfl) rfl (c_X4_sortAt eq5) ?_
    refine aw_aload_n 0 dX4_step_103 rfl rfl ?_
    obtain ⟨x6, ex6, hf⟩ := b_some hf
    refine aw_getI dX4_step_104 gfX4_25 ex6 ?_
    refine aw_icmp_ne (tgt := 123) dX4_step_107 (by decide) (fun c7 => ?_) (fun c7 => ?_)
    · have hf := i_neg c7 hf
      have hq := Option.some.inj hf
      subst hq
      exact aw_vret hr dX4_step_123 ⟨rfl, rfl, rfl⟩
    · have hf := i_pos c7 hf
      refine aw_aload_n 0 dX4_step_110 rfl rfl ?_
      refine aw_dup dX4_step_111 rfl ?_
      obtain ⟨x8, ex8, hf⟩ := b_some hf
      refine aw_getI dX4_step_112 gfX4_22 ex8 ?_
      refine aw_iconst (v := 1) dX4_step_115 (by decide) ?_
      refine aw_iadd dX4_step_116 ?_
      obtain ⟨h9, eh9, hf⟩ := b_some hf
      refine aw_putI dX4_step_117 pfX4_22 eh9 ?_
      refine aw_goto (tgt := 84) dX4_step_120 (by decide) ?_
      exact aw_sub [0] rfl (hk84 _ _ hf)
def f_X4_step_47 (l0 : Nat) (h0 : Hp) : Option (Unit × Hp) :=
  (gI h0 l0 4 2).bind fun x1 => (f_X4_sortAt l0 x1 h0).bind fun q2 => (pI q2.2 l0 4 4 q2.1).bind fun h3 => (gI h3 l0 4 2).bind fun x4 => (pI h3 l0 4 3 x4).bind fun h5 => (gI h5 l0 4 4).bind fun x6 => if x6 = (1 : Int32) then (lp (f_X4_step_84) 600 l0 h5) else ((gI h5 l0 4 4).bind fun x8 => if x8 = (2 : Int32) then (lp (f_X4_step_84) 600 l0 h5) else (some ((), h5)))
set_option maxRecDepth 100000 in
set_option maxHeartbeats 4000000 in
theorem c_X4_step_47 {X : Cx} {adr : Nat → Nat} {q : Unit × Hp} (hr : (mth X).sig.returnType = none) {l0 : Nat} {h0 : Hp} (hf : f_X4_step_47 l0 h0 = some q) : AW X cX4_step 1 RX4 (rmd 2 0 0) (Qmet X 0 0 (Qe none q.2 adr)) 0 0 adr h0 47 [(0, .ref l0)] [] := by
  unfold f_X4_step_47 at hf
  refine aw_aload_n 0 dX4_step_47 rfl rfl ?_
  refine aw_aload_n 0 dX4_step_48 rfl rfl ?_
  refine aw_aload_n 0 dX4_step_49 rfl rfl ?_
  obtain ⟨x1, ex1, hf⟩ := b_some hf
  refine aw_getI dX4_step_50 gfX4_19 ex1 ?_
  obtain ⟨q2, eq2, hf⟩ := b_some hf
  refine aw_cV (as := [.int x1]) dX4_step_53 moX4_sortAt voX4_sortAt mlX4_32 (k_X4_sortAt eq2) rfl (rm_ok (by omega) (by decide)) ⟨Nat.le_refl _, Nat.le_refl _⟩ (Nat.le_of_ble_eq_true rfl) rfl (c_X4_sortAt eq2) ?_
  obtain ⟨h3, eh3, hf⟩ := b_some hf
  refine aw_putI dX4_step_56 pfX4_25 eh3 ?_
  refine aw_aload_n 0 dX4_step_59 rfl rfl ?_
  refine aw_aload_n 0 dX4_step_60 rfl rfl ?_
  obtain ⟨x4, ex4, hf⟩ := b_some hf
  refine aw_getI dX4_step_61 gfX4_19 ex4 ?_
  obtain ⟨h5, eh5, hf⟩ := b_some hf
  refine aw_putI dX4_step_64 pfX4_22 eh5 ?_
  refine aw_aload_n 0 dX4_step_67 rfl rfl ?_
  obtain ⟨x6, ex6, hf⟩ := b_some hf
  refine aw_getI dX4_step_68 gfX4_25 ex6 ?_
  refine aw_iconst (v := 1) dX4_step_71 (by decide) ?_
  refine aw_icmp_eq (tgt := 84) dX4_step_72 (by decide) (fun c7 => ?_) (fun c7 => ?_)
  · have hf := i_pos c7 hf
    exact aw_sub [0] rfl (c_X4_step_84 hr 600 _ _ hf)
  · have hf := i_neg c7 hf
    refine aw_aload_n 0 dX4_step_75 rfl rfl ?_
    obtain ⟨x8, ex8, hf⟩ := b_some hf
    refine aw_getI dX4_step_76 gfX4_25 ex8 ?_
    refine aw_iconst (v := 2) dX4_step_79 (by decide) ?_
    refine aw_icmp_eq (tgt := 84) dX4_step_80 (by decide) (fun c9 => ?_) (fun c9 => ?_)
    · have hf := i_pos c9 hf
      exact aw_sub [0] rfl (c_X4_step_84 hr 600 _ _ hf)
    · have hf := i_neg c9 hf
      have hq := Option.some.inj hf
      subst hq
      exact aw_vret hr dX4_step_83 ⟨rfl, rfl, rfl⟩
def f_X4_step_8 (k8 : Nat → Hp → Option (Unit × Hp)) (v : Nat) (h0 : Hp) : Option (Unit × Hp) :=
  match v with
  | l0 => (gI h0 l0 4 2).bind fun x1 => (gI h0 l0 4 1).bind fun x2 => if x2 ≤ x1 then (f_X4_step_47 l0 h0) else ((gR h0 l0 4 0).bind fun r4 => (gI h0 l0 4 2).bind fun x5 => (aL h0 r4 x5).bind fun x6 => (f_X4_isBlank x6 h0).bind fun q7 => if q7.1 = 0 then (f_X4_step_47 l0 q7.2) else ((gI q7.2 l0 4 2).bind fun x9 => (pI q7.2 l0 4 2 (x9 + (1 : Int32))).bind fun h10 => k8 l0 h10))
set_option maxRecDepth 100000 in
set_option maxHeartbeats 4000000 in
theorem c_X4_step_8 {X : Cx} {adr : Nat → Nat} {q : Unit × Hp} (hr : (mth X).sig.returnType = none) (n : Nat) : ∀ v h0, lp (f_X4_step_8) n v h0 = some q → AW X cX4_step 1 RX4 (rmd 2 0 0) (Qmet X 0 0 (Qe none q.2 adr)) 0 0 adr h0 8 [(0, .ref v)] [] := by
  refine aw_lp (fun k8 hk8 v h0 hf => ?_) n
  have ⟨l0, hv⟩ : ∃ z, z = v := ⟨_, rfl⟩
  subst hv
  unfold f_X4_step_8 at hf
  dsimp only at hf
  show AW X cX4_step 1 RX4 (rmd 2 0 0) (Qmet X 0 0 (Qe none q.2 adr)) 0 0 adr h0 8 [(0, .ref l0)] []
  refine aw_aload_n 0 dX4_step_8 rfl rfl ?_
  obtain ⟨x1, ex1, hf⟩ := b_some hf
  refine aw_getI dX4_step_9 gfX4_19 ex1 ?_
  refine aw_aload_n 0 dX4_step_12 rfl rfl ?_
  obtain ⟨x2, ex2, hf⟩ := b_some hf
  refine aw_getI dX4_step_13 gfX4_15 ex2 ?_
  refine aw_icmp_ge (tgt := 47) dX4_step_16 (by decide) (fun c3 => ?_) (fun c3 => ?_)
  · have hf := i_pos c3 hf
    exact aw_sub [0] rfl (c_X4_step_47 hr hf)
  · have hf := i_neg c3 hf
    refine aw_aload_n 0 dX4_step_19 rfl rfl ?_
    obtain ⟨r4, er4, hf⟩ := b_some hf
    refine aw_getR dX4_step_20 gfX4_9 er4 ?_
    refine aw_aload_n 0 dX4_step_23 rfl rfl ?_
    obtain ⟨x5, ex5, hf⟩ := b_some hf
    refine aw_getI dX4_step_24 gfX4_19 ex5 ?_
    obtain ⟨x6, ex6, hf⟩ := b_some hf
    refine aw_iald dX4_step_27 ex6 ?_
    obtain ⟨q7, eq7, hf⟩ := b_some hf
    refine aw_cS (as := [.int x6]) dX4_step_28 moX4_isBlank soX4_isBlank mlX4_28 (rm_ok (by omega) (by decide)) ⟨Nat.le_refl _, Nat.le_refl _⟩ (Nat.le_of_ble_eq_true rfl) rfl (c_X4_isBlank eq7) ?_
    refine aw_if_eq (tgt := 47) dX4_step_31 (by decide) (fun c8 => ?_) (fun c8 => ?_)
    · have hf := i_pos c8 hf
      exact aw_sub [0] rfl (c_X4_step_47 hr hf)
    · have hf := i_neg c8 hf
      refine aw_aload_n 0 dX4_step_34 rfl rfl ?_
      refine aw_dup dX4_step_35 rfl ?_
      obtain ⟨x9, ex9, hf⟩ := b_some hf
      refine aw_getI dX4_step_36 gfX4_19 ex9 ?_
      refine aw_iconst (v := 1) dX4_step_39 (by decide) ?_
      refine aw_iadd dX4_step_40 ?_
      obtain ⟨h10, eh10, hf⟩ := b_some hf
      refine aw_putI dX4_step_41 pfX4_19 eh10 ?_
      refine aw_goto (tgt := 8) dX4_step_44 (by decide) ?_
      exact aw_sub [0] rfl (hk8 _ _ hf)
def f_X4_step (l0 : Nat) (h0 : Hp) : Option (Unit × Hp) :=
  (ck h0 l0 4).bind fun _ => (gI h0 l0 4 3).bind fun x1 => (pI h0 l0 4 2 x1).bind fun h2 => lp (f_X4_step_8) 600 l0 h2
set_option maxRecDepth 100000 in
set_option maxHeartbeats 4000000 in
theorem c_X4_step {l0 : Nat} {h0 : Hp} {q : Unit × Hp} (hf : f_X4_step l0 h0 = some q) : Mt 2 yX4_step cX4_step 1 none [.ref l0] h0 none q.2 := by
  refine MtQ.of (by decide) (Nat.le_of_ble_eq_true rfl) (fun X adr hr hn => ?_)
  unfold f_X4_step at hf
  show AW X cX4_step 1 RX4 (rmd 2 0 0) (Qmet X 0 0 (Qe none q.2 adr)) 0 0 adr h0 0 [(0, .ref l0)] []
  obtain ⟨u0, e0, hf⟩ := b_some hf
  refine aw_aload_n 0 dX4_step_0 rfl rfl ?_
  refine aw_aload_n 0 dX4_step_1 rfl rfl ?_
  obtain ⟨x1, ex1, hf⟩ := b_some hf
  refine aw_getI dX4_step_2 gfX4_22 ex1 ?_
  obtain ⟨h2, eh2, hf⟩ := b_some hf
  refine aw_putI dX4_step_5 pfX4_19 eh2 ?_
  exact aw_sub [0] rfl (c_X4_step_8 hr 600 _ _ hf)
theorem k_X4_step {l0 : Nat} {h0 : Hp} {q : Unit × Hp} (hf : f_X4_step l0 h0 = some q) : ck h0 l0 4 = some () := by
  unfold f_X4_step at hf
  obtain ⟨u0, e0, hf⟩ := b_some hf
  exact e0
theorem dX4_ends_0 : decode cX4_ends 0 = .ok (.aload_n 0, 1) := by decide +kernel
theorem dX4_ends_1 : decode cX4_ends 1 = .ok (.invokevirtual 36, 3) := by decide +kernel
theorem dX4_ends_4 : decode cX4_ends 4 = .ok (.aload_n 0, 1) := by decide +kernel
theorem dX4_ends_5 : decode cX4_ends 5 = .ok (.getfield 25, 3) := by decide +kernel
theorem dX4_ends_8 : decode cX4_ends 8 = .ok (.ifCond .ne 7, 3) := by decide +kernel
theorem dX4_ends_11 : decode cX4_ends 11 = .ok (.iconst 1, 1) := by decide +kernel
theorem dX4_ends_12 : decode cX4_ends 12 = .ok (.goto 4, 3) := by decide +kernel
theorem dX4_ends_15 : decode cX4_ends 15 = .ok (.iconst 0, 1) := by decide +kernel
theorem dX4_ends_16 : decode cX4_ends 16 = .ok (.ireturn, 1) := by decide +kernel
def f_X4_ends (l0 : Nat) (h0 : Hp) : Option (Int32 × Hp) :=
  (ck h0 l0 4).bind fun _ => (f_X4_step l0 h0).bind fun q1 => (gI q1.2 l0 4 4).bind fun x2 => if x2 = 0 then (some ((1 : Int32), q1.2)) else (some ((0 : Int32), q1.2))
set_option maxRecDepth 100000 in
set_option maxHeartbeats 4000000 in
theorem c_X4_ends {l0 : Nat} {h0 : Hp} {q : Int32 × Hp} (hf : f_X4_ends l0 h0 = some q) : Mt 3 yX4_ends cX4_ends 1 (some .boolean) [.ref l0] h0 (some (.int q.1)) q.2 := by
  refine MtQ.of (by decide) (Nat.le_of_ble_eq_true rfl) (fun X adr hr hn => ?_)
  unfold f_X4_ends at hf
  show AW X cX4_ends 1 RX4 (rmd 3 0 0) (Qmet X 0 0 (Qe (some (.int q.1)) q.2 adr)) 0 0 adr h0 0 [(0, .ref l0)] []
  obtain ⟨u0, e0, hf⟩ := b_some hf
  refine aw_aload_n 0 dX4_ends_0 rfl rfl ?_
  obtain ⟨q1, eq1, hf⟩ := b_some hf
  refine aw_cV0 (as := []) dX4_ends_1 moX4_step voX4_step mlX4_36 (k_X4_step eq1) rfl (rm_ok (by omega) (by decide)) ⟨Nat.le_refl _, Nat.le_refl _⟩ (Nat.le_of_ble_eq_true rfl) rfl (c_X4_step eq1) ?_
  refine aw_aload_n 0 dX4_ends_4 rfl rfl ?_
  obtain ⟨x2, ex2, hf⟩ := b_some hf
  refine aw_getI dX4_ends_5 gfX4_25 ex2 ?_
  refine aw_if_ne (tgt := 15) dX4_ends_8 (by decide) (fun c3 => ?_) (fun c3 => ?_)
  · have hf := i_neg c3 hf
    refine aw_iconst (v := 0) dX4_ends_15 (by decide) ?_
    have hq := Option.some.inj hf
    subst hq
    exact aw_zret hr (by decide) dX4_ends_16 ⟨rfl, rfl, rfl⟩
  · have hf := i_pos c3 hf
    refine aw_iconst (v := 1) dX4_ends_11 (by decide) ?_
    refine aw_goto (tgt := 16) dX4_ends_12 (by decide) ?_
    have hq := Option.some.inj hf
    subst hq
    exact aw_zret hr (by decide) dX4_ends_16 ⟨rfl, rfl, rfl⟩
theorem k_X4_ends {l0 : Nat} {h0 : Hp} {q : Int32 × Hp} (hf : f_X4_ends l0 h0 = some q) : ck h0 l0 4 = some () := by
  unfold f_X4_ends at hf
  obtain ⟨u0, e0, hf⟩ := b_some hf
  exact e0
theorem dX4_fault_0 : decode cX4_fault 0 = .ok (.bipush (-100), 2) := by decide +kernel
theorem dX4_fault_2 : decode cX4_fault 2 = .ok (.aload_n 0, 1) := by decide +kernel
theorem dX4_fault_3 : decode cX4_fault 3 = .ok (.getfield 19, 3) := by decide +kernel
theorem dX4_fault_6 : decode cX4_fault 6 = .ok (.isub, 1) := by decide +kernel
theorem dX4_fault_7 : decode cX4_fault 7 = .ok (.ireturn, 1) := by decide +kernel
def f_X4_fault (l0 : Nat) (h0 : Hp) : Option (Int32 × Hp) :=
  (ck h0 l0 4).bind fun _ => (gI h0 l0 4 2).bind fun x1 => some (((-100 : Int32) - x1), h0)
set_option maxRecDepth 100000 in
set_option maxHeartbeats 4000000 in
theorem c_X4_fault {l0 : Nat} {h0 : Hp} {q : Int32 × Hp} (hf : f_X4_fault l0 h0 = some q) : Mt 1 yX4_fault cX4_fault 1 (some .int) [.ref l0] h0 (some (.int q.1)) q.2 := by
  refine MtQ.of (by decide) (Nat.le_of_ble_eq_true rfl) (fun X adr hr hn => ?_)
  unfold f_X4_fault at hf
  show AW X cX4_fault 1 RX4 (rmd 1 0 0) (Qmet X 0 0 (Qe (some (.int q.1)) q.2 adr)) 0 0 adr h0 0 [(0, .ref l0)] []
  obtain ⟨u0, e0, hf⟩ := b_some hf
  refine aw_bipush (v := -100) dX4_fault_0 (by decide) ?_
  refine aw_aload_n 0 dX4_fault_2 rfl rfl ?_
  obtain ⟨x1, ex1, hf⟩ := b_some hf
  refine aw_getI dX4_fault_3 gfX4_19 ex1 ?_
  refine aw_isub dX4_fault_6 ?_
  have hq := Option.some.inj hf
  subst hq
  exact aw_iret hr dX4_fault_7 ⟨rfl, rfl, rfl⟩
theorem k_X4_fault {l0 : Nat} {h0 : Hp} {q : Int32 × Hp} (hf : f_X4_fault l0 h0 = some q) : ck h0 l0 4 = some () := by
  unfold f_X4_fault at hf
  obtain ⟨u0, e0, hf⟩ := b_some hf
  exact e0
theorem dX4_is_0 : decode cX4_is 0 = .ok (.aload_n 0, 1) := by decide +kernel
theorem dX4_is_1 : decode cX4_is 1 = .ok (.getfield 25, 3) := by decide +kernel
theorem dX4_is_4 : decode cX4_is 4 = .ok (.iconst 1, 1) := by decide +kernel
theorem dX4_is_5 : decode cX4_is 5 = .ok (.if_icmp .ne 19, 3) := by decide +kernel
theorem dX4_is_8 : decode cX4_is 8 = .ok (.aload_n 0, 1) := by decide +kernel
theorem dX4_is_9 : decode cX4_is 9 = .ok (.getfield 22, 3) := by decide +kernel
theorem dX4_is_12 : decode cX4_is 12 = .ok (.aload_n 0, 1) := by decide +kernel
theorem dX4_is_13 : decode cX4_is 13 = .ok (.getfield 19, 3) := by decide +kernel
theorem dX4_is_16 : decode cX4_is 16 = .ok (.isub, 1) := by decide +kernel
theorem dX4_is_17 : decode cX4_is 17 = .ok (.aload_n 1, 1) := by decide +kernel
theorem dX4_is_18 : decode cX4_is 18 = .ok (.invokevirtual 39, 3) := by decide +kernel
theorem dX4_is_21 : decode cX4_is 21 = .ok (.if_icmp .eq 5, 3) := by decide +kernel
theorem dX4_is_24 : decode cX4_is 24 = .ok (.iconst 0, 1) := by decide +kernel
theorem dX4_is_25 : decode cX4_is 25 = .ok (.ireturn, 1) := by decide +kernel
theorem dX4_is_26 : decode cX4_is 26 = .ok (.iconst 0, 1) := by decide +kernel
theorem dX4_is_27 : decode cX4_is 27 = .ok (.istore_n 2, 1) := by decide +kernel
theorem dX4_is_28 : decode cX4_is 28 = .ok (.iload_n 2, 1) := by decide +kernel
theorem dX4_is_29 : decode cX4_is 29 = .ok (.aload_n 1, 1) := by decide +kernel
theorem dX4_is_30 : decode cX4_is 30 = .ok (.invokevirtual 39, 3) := by decide +kernel
theorem dX4_is_33 : decode cX4_is 33 = .ok (.if_icmp .ge 30, 3) := by decide +kernel
theorem dX4_is_36 : decode cX4_is 36 = .ok (.aload_n 0, 1) := by decide +kernel
theorem dX4_is_37 : decode cX4_is 37 = .ok (.getfield 9, 3) := by decide +kernel
theorem dX4_is_40 : decode cX4_is 40 = .ok (.aload_n 0, 1) := by decide +kernel
theorem dX4_is_41 : decode cX4_is 41 = .ok (.getfield 19, 3) := by decide +kernel
theorem dX4_is_44 : decode cX4_is 44 = .ok (.iload_n 2, 1) := by decide +kernel
theorem dX4_is_45 : decode cX4_is 45 = .ok (.iadd, 1) := by decide +kernel
theorem dX4_is_46 : decode cX4_is 46 = .ok (.iaload, 1) := by decide +kernel
theorem dX4_is_47 : decode cX4_is 47 = .ok (.aload_n 1, 1) := by decide +kernel
theorem dX4_is_48 : decode cX4_is 48 = .ok (.iload_n 2, 1) := by decide +kernel
theorem dX4_is_49 : decode cX4_is 49 = .ok (.invokevirtual 45, 3) := by decide +kernel
theorem dX4_is_52 : decode cX4_is 52 = .ok (.if_icmp .eq 5, 3) := by decide +kernel
theorem dX4_is_55 : decode cX4_is 55 = .ok (.iconst 0, 1) := by decide +kernel
theorem dX4_is_56 : decode cX4_is 56 = .ok (.ireturn, 1) := by decide +kernel
theorem dX4_is_57 : decode cX4_is 57 = .ok (.iinc 2 1, 3) := by decide +kernel
theorem dX4_is_60 : decode cX4_is 60 = .ok (.goto (-32), 3) := by decide +kernel
theorem dX4_is_63 : decode cX4_is 63 = .ok (.iconst 1, 1) := by decide +kernel
theorem dX4_is_64 : decode cX4_is 64 = .ok (.ireturn, 1) := by decide +kernel
def f_X4_is_28 (k28 : Nat × Nat × Int32 → Hp → Option (Int32 × Hp)) (v : Nat × Nat × Int32) (h0 : Hp) : Option (Int32 × Hp) :=
  match v with
  | (l0, l1, l2) => (fS_length l1 h0).bind fun q1 => if q1.1 ≤ l2 then (some ((1 : Int32), q1.2)) else ((gR q1.2 l0 4 0).bind fun r3 => (gI q1.2 l0 4 2).bind fun x4 => (aL q1.2 r3 (x4 + l2)).bind fun x5 => (fS_charAt l1 l2 q1.2).bind fun q6 => if x5 = q6.1 then ((some (l2 + 1)).bind fun x8 => k28 (l0, l1, x8) q6.2) else (some ((0 : Int32), q6.2)))
set_option maxRecDepth 100000 in
set_option maxHeartbeats 4000000 in
theorem c_X4_is_28 {X : Cx} {adr : Nat → Nat} {q : Int32 × Hp} (hr : (mth X).sig.returnType = (some .boolean)) (n : Nat) : ∀ v h0, lp (f_X4_is_28) n v h0 = some q → AW X cX4_is 3 RX4 (rmd 5 0 0) (Qmet X 0 0 (Qe (some (.int q.1)) q.2 adr)) 0 0 adr h0 28 [(0, .ref v.1), (1, .ref v.2.1), (2, .int v.2.2)] [] := by
  refine aw_lp (fun k28 hk28 v h0 hf => ?_) n
  obtain ⟨l0, l1, l2⟩ := v
  unfold f_X4_is_28 at hf
  dsimp only at hf
  show AW X cX4_is 3 RX4 (rmd 5 0 0) (Qmet X 0 0 (Qe (some (.int q.1)) q.2 adr)) 0 0 adr h0 28 [(0, .ref l0), (1, .ref l1), (2, .int l2)] []
  refine aw_iload_n 2 dX4_is_28 rfl rfl ?_
  refine aw_aload_n 1 dX4_is_29 rfl rfl ?_
  obtain ⟨q1, eq1, hf⟩ := b_some hf
  refine aw_cK (as := []) (kS_length eq1) dX4_is_30 moJ0_length_8abf5 voJ0_length_8abf5 rfl mlX4_39 (rm_ok (by omega) (by decide)) ⟨Nat.le_refl _, Nat.le_refl _⟩ (Nat.le_of_ble_eq_true rfl) rfl (cS_length eq1) ?_
  refine aw_icmp_ge (tgt := 63) dX4_is_33 (by decide) (fun c2 => ?_) (fun c2 => ?_)
  · have hf := i_pos c2 hf
    refine aw_iconst (v := 1) dX4_is_63 (by decide) ?_
    have hq := Option.some.inj hf
    subst hq
    exact aw_zret hr (by decide) dX4_is_64 ⟨rfl, rfl, rfl⟩
  · have hf := i_neg c2 hf
    refine aw_aload_n 0 dX4_is_36 rfl rfl ?_
    obtain ⟨r3, er3, hf⟩ := b_some hf
    refine aw_getR dX4_is_37 gfX4_9 er3 ?_
    refine aw_aload_n 0 dX4_is_40 rfl rfl ?_
    obtain ⟨x4, ex4, hf⟩ := b_some hf
    refine aw_getI dX4_is_41 gfX4_19 ex4 ?_
    refine aw_iload_n 2 dX4_is_44 rfl rfl ?_
    refine aw_iadd dX4_is_45 ?_
    obtain ⟨x5, ex5, hf⟩ := b_some hf
    refine aw_iald dX4_is_46 ex5 ?_
    refine aw_aload_n 1 dX4_is_47 rfl rfl ?_
    refine aw_iload_n 2 dX4_is_48 rfl rfl ?_
    obtain ⟨q6, eq6, hf⟩ := b_some hf
    refine aw_cK (as := [.int l2]) (kS_charAt eq6) dX4_is_49 moJ0_charAt_5068e voJ0_charAt_5068e rfl mlX4_45 (rm_ok (by omega) (by decide)) ⟨Nat.le_refl _, Nat.le_refl _⟩ (Nat.le_of_ble_eq_true rfl) rfl (cS_charAt eq6) ?_
    refine aw_icmp_eq (tgt := 57) dX4_is_52 (by decide) (fun c7 => ?_) (fun c7 => ?_)
    · have hf := i_pos c7 hf
      obtain ⟨x8, ex8, hf⟩ := b_some hf
      refine aw_iinc (v := x8) (L' := [(2, .int x8), (0, .ref l0), (1, .ref l1)]) 2 dX4_is_57 rfl (Option.some.inj ex8) (by decide) rfl ?_
      refine aw_goto (tgt := 28) dX4_is_60 (by decide) ?_
      exact aw_sub [1, 2, 0] rfl (hk28 _ _ hf)
    · have hf := i_neg c7 hf
      refine aw_iconst (v := 0) dX4_is_55 (by decide) ?_
      have hq := Option.some.inj hf
      subst hq
      exact aw_zret hr (by decide) dX4_is_56 ⟨rfl, rfl, rfl⟩
def f_X4_is (l0 : Nat) (l1 : Nat) (h0 : Hp) : Option (Int32 × Hp) :=
  (ck h0 l0 4).bind fun _ => (gI h0 l0 4 4).bind fun x1 => if x1 = (1 : Int32) then ((gI h0 l0 4 3).bind fun x3 => (gI h0 l0 4 2).bind fun x4 => (fS_length l1 h0).bind fun q5 => if (x3 - x4) = q5.1 then (lp (f_X4_is_28) 600 (l0, l1, (0 : Int32)) q5.2) else (some ((0 : Int32), q5.2))) else (some ((0 : Int32), h0))
set_option maxRecDepth 100000 in
set_option maxHeartbeats 4000000 in
theorem c_X4_is {l0 : Nat} {l1 : Nat} {h0 : Hp} {q : Int32 × Hp} (hf : f_X4_is l0 l1 h0 = some q) : Mt 5 yX4_is cX4_is 3 (some .boolean) [.ref l0, .ref l1] h0 (some (.int q.1)) q.2 := by
  refine MtQ.of (by decide) (Nat.le_of_ble_eq_true rfl) (fun X adr hr hn => ?_)
  unfold f_X4_is at hf
  show AW X cX4_is 3 RX4 (rmd 5 0 0) (Qmet X 0 0 (Qe (some (.int q.1)) q.2 adr)) 0 0 adr h0 0 [(0, .ref l0), (1, .ref l1)] []
  obtain ⟨u0, e0, hf⟩ := b_some hf
  refine aw_aload_n 0 dX4_is_0 rfl rfl ?_
  obtain ⟨x1, ex1, hf⟩ := b_some hf
  refine aw_getI dX4_is_1 gfX4_25 ex1 ?_
  refine aw_iconst (v := 1) dX4_is_4 (by decide) ?_
  refine aw_icmp_ne (tgt := 24) dX4_is_5 (by decide) (fun c2 => ?_) (fun c2 => ?_)
  · have hf := i_neg c2 hf
    refine aw_iconst (v := 0) dX4_is_24 (by decide) ?_
    have hq := Option.some.inj hf
    subst hq
    exact aw_zret hr (by decide) dX4_is_25 ⟨rfl, rfl, rfl⟩
  · have hf := i_pos c2 hf
    refine aw_aload_n 0 dX4_is_8 rfl rfl ?_
    obtain ⟨x3, ex3, hf⟩ := b_some hf
    refine aw_getI dX4_is_9 gfX4_22 ex3 ?_
    refine aw_aload_n 0 dX4_is_12 rfl rfl ?_
    obtain ⟨x4, ex4, hf⟩ := b_some hf
    refine aw_getI dX4_is_13 gfX4_19 ex4 ?_
    refine aw_isub dX4_is_16 ?_
    refine aw_aload_n 1 dX4_is_17 rfl rfl ?_
    obtain ⟨q5, eq5, hf⟩ := b_some hf
    refine aw_cK (as := []) (kS_length eq5) dX4_is_18 moJ0_length_8abf5 voJ0_length_8abf5 rfl mlX4_39 (rm_ok (by omega) (by decide)) ⟨Nat.le_refl _, Nat.le_refl _⟩ (Nat.le_of_ble_eq_true rfl) rfl (cS_length eq5) ?_
    refine aw_icmp_eq (tgt := 26) dX4_is_21 (by decide) (fun c6 => ?_) (fun c6 => ?_)
    · have hf := i_pos c6 hf
      refine aw_iconst (v := 0) dX4_is_26 (by decide) ?_
      refine aw_istore_n (L' := [(2, .int (0 : Int32)), (0, .ref l0), (1, .ref l1)]) dX4_is_27 rfl (by decide) rfl ?_
      exact aw_sub [1, 2, 0] rfl (c_X4_is_28 hr 600 _ _ hf)
    · have hf := i_neg c6 hf
      refine aw_iconst (v := 0) dX4_is_24 (by decide) ?_
      have hq := Option.some.inj hf
      subst hq
      exact aw_zret hr (by decide) dX4_is_25 ⟨rfl, rfl, rfl⟩
theorem k_X4_is {l0 : Nat} {l1 : Nat} {h0 : Hp} {q : Int32 × Hp} (hf : f_X4_is l0 l1 h0 = some q) : ck h0 l0 4 = some () := by
  unfold f_X4_is at hf
  obtain ⟨u0, e0, hf⟩ := b_some hf
  exact e0
theorem dX4_isName_0 : decode cX4_isName 0 = .ok (.aload_n 0, 1) := by decide +kernel
theorem dX4_isName_1 : decode cX4_isName 1 = .ok (.getfield 25, 3) := by decide +kernel
theorem dX4_isName_4 : decode cX4_isName 4 = .ok (.iconst 1, 1) := by decide +kernel
theorem dX4_isName_5 : decode cX4_isName 5 = .ok (.if_icmp .ne 17, 3) := by decide +kernel
theorem dX4_isName_8 : decode cX4_isName 8 = .ok (.aload_n 0, 1) := by decide +kernel
theorem dX4_isName_9 : decode cX4_isName 9 = .ok (.getfield 22, 3) := by decide +kernel
theorem dX4_isName_12 : decode cX4_isName 12 = .ok (.aload_n 0, 1) := by decide +kernel
theorem dX4_isName_13 : decode cX4_isName 13 = .ok (.getfield 19, 3) := by decide +kernel
theorem dX4_isName_16 : decode cX4_isName 16 = .ok (.isub, 1) := by decide +kernel
theorem dX4_isName_17 : decode cX4_isName 17 = .ok (.bipush 6, 2) := by decide +kernel
theorem dX4_isName_19 : decode cX4_isName 19 = .ok (.if_icmp .le 5, 3) := by decide +kernel
theorem dX4_isName_22 : decode cX4_isName 22 = .ok (.iconst 0, 1) := by decide +kernel
theorem dX4_isName_23 : decode cX4_isName 23 = .ok (.ireturn, 1) := by decide +kernel
theorem dX4_isName_24 : decode cX4_isName 24 = .ok (.aload_n 0, 1) := by decide +kernel
theorem dX4_isName_25 : decode cX4_isName 25 = .ok (.ldc 49, 2) := by decide +kernel
theorem dX4_isName_27 : decode cX4_isName 27 = .ok (.invokevirtual 51, 3) := by decide +kernel
theorem dX4_isName_30 : decode cX4_isName 30 = .ok (.ifCond .ne 43, 3) := by decide +kernel
theorem dX4_isName_33 : decode cX4_isName 33 = .ok (.aload_n 0, 1) := by decide +kernel
theorem dX4_isName_34 : decode cX4_isName 34 = .ok (.ldc 55, 2) := by decide +kernel
theorem dX4_isName_36 : decode cX4_isName 36 = .ok (.invokevirtual 51, 3) := by decide +kernel
theorem dX4_isName_39 : decode cX4_isName 39 = .ok (.ifCond .ne 34, 3) := by decide +kernel
theorem dX4_isName_42 : decode cX4_isName 42 = .ok (.aload_n 0, 1) := by decide +kernel
theorem dX4_isName_43 : decode cX4_isName 43 = .ok (.ldc 57, 2) := by decide +kernel
theorem dX4_isName_45 : decode cX4_isName 45 = .ok (.invokevirtual 51, 3) := by decide +kernel
theorem dX4_isName_48 : decode cX4_isName 48 = .ok (.ifCond .ne 25, 3) := by decide +kernel
theorem dX4_isName_51 : decode cX4_isName 51 = .ok (.aload_n 0, 1) := by decide +kernel
theorem dX4_isName_52 : decode cX4_isName 52 = .ok (.ldc 59, 2) := by decide +kernel
theorem dX4_isName_54 : decode cX4_isName 54 = .ok (.invokevirtual 51, 3) := by decide +kernel
theorem dX4_isName_57 : decode cX4_isName 57 = .ok (.ifCond .ne 16, 3) := by decide +kernel
theorem dX4_isName_60 : decode cX4_isName 60 = .ok (.aload_n 0, 1) := by decide +kernel
theorem dX4_isName_61 : decode cX4_isName 61 = .ok (.ldc 61, 2) := by decide +kernel
theorem dX4_isName_63 : decode cX4_isName 63 = .ok (.invokevirtual 51, 3) := by decide +kernel
theorem dX4_isName_66 : decode cX4_isName 66 = .ok (.ifCond .ne 7, 3) := by decide +kernel
theorem dX4_isName_69 : decode cX4_isName 69 = .ok (.iconst 1, 1) := by decide +kernel
theorem dX4_isName_70 : decode cX4_isName 70 = .ok (.goto 4, 3) := by decide +kernel
theorem dX4_isName_73 : decode cX4_isName 73 = .ok (.iconst 0, 1) := by decide +kernel
theorem dX4_isName_74 : decode cX4_isName 74 = .ok (.ireturn, 1) := by decide +kernel
def f_X4_isName (l0 : Nat) (h0 : Hp) : Option (Int32 × Hp) :=
  (ck h0 l0 4).bind fun _ => (gI h0 l0 4 4).bind fun x1 => if x1 = (1 : Int32) then ((gI h0 l0 4 3).bind fun x3 => (gI h0 l0 4 2).bind fun x4 => if (x3 - x4) ≤ (6 : Int32) then ((f_X4_is l0 (1010 + 0) h0).bind fun q6 => if q6.1 = 0 then ((f_X4_is l0 (1010 + 1) q6.2).bind fun q8 => if q8.1 = 0 then ((f_X4_is l0 (1010 + 2) q8.2).bind fun q10 => if q10.1 = 0 then ((f_X4_is l0 (1010 + 3) q10.2).bind fun q12 => if q12.1 = 0 then ((f_X4_is l0 (1010 + 4) q12.2).bind fun q14 => if q14.1 = 0 then (some ((1 : Int32), q14.2)) else (some ((0 : Int32), q14.2))) else (some ((0 : Int32), q12.2))) else (some ((0 : Int32), q10.2))) else (some ((0 : Int32), q8.2))) else (some ((0 : Int32), q6.2))) else (some ((0 : Int32), h0))) else (some ((0 : Int32), h0))
set_option maxRecDepth 100000 in
set_option maxHeartbeats 4000000 in
theorem c_X4_isName {l0 : Nat} {h0 : Hp} {q : Int32 × Hp} (hf : f_X4_isName l0 h0 = some q) : Mt 6 yX4_isName cX4_isName 1 (some .boolean) [.ref l0] h0 (some (.int q.1)) q.2 := by
  refine MtQ.of (by decide) (Nat.le_of_ble_eq_true rfl) (fun X adr hr hn => ?_)
  unfold f_X4_isName at hf
  show AW X cX4_isName 1 RX4 (rmd 6 0 0) (Qmet X 0 0 (Qe (some (.int q.1)) q.2 adr)) 0 0 adr h0 0 [(0, .ref l0)] []
  obtain ⟨u0, e0, hf⟩ := b_some hf
  refine aw_aload_n 0 dX4_isName_0 rfl rfl ?_
  obtain ⟨x1, ex1, hf⟩ := b_some hf
  refine aw_getI dX4_isName_1 gfX4_25 ex1 ?_
  refine aw_iconst (v := 1) dX4_isName_4 (by decide) ?_
  refine aw_icmp_ne (tgt := 22) dX4_isName_5 (by decide) (fun c2 => ?_) (fun c2 => ?_)
  · have hf := i_neg c2 hf
    refine aw_iconst (v := 0) dX4_isName_22 (by decide) ?_
    have hq := Option.some.inj hf
    subst hq
    exact aw_zret hr (by decide) dX4_isName_23 ⟨rfl, rfl, rfl⟩
  · have hf := i_pos c2 hf
    refine aw_aload_n 0 dX4_isName_8 rfl rfl ?_
    obtain ⟨x3, ex3, hf⟩ := b_some hf
    refine aw_getI dX4_isName_9 gfX4_22 ex3 ?_
    refine aw_aload_n 0 dX4_isName_12 rfl rfl ?_
    obtain ⟨x4, ex4, hf⟩ := b_some hf
    refine aw_getI dX4_isName_13 gfX4_19 ex4 ?_
    refine aw_isub dX4_isName_16 ?_
    refine aw_bipush (v := 6) dX4_isName_17 (by decide) ?_
    refine aw_icmp_le (tgt := 24) dX4_isName_19 (by decide) (fun c5 => ?_) (fun c5 => ?_)
    · have hf := i_pos c5 hf
      refine aw_aload_n 0 dX4_isName_24 rfl rfl ?_
      refine aw_ldcS dX4_isName_25 ksX4_49 ?_
      obtain ⟨q6, eq6, hf⟩ := b_some hf
      refine aw_cV (as := [.ref (1010 + 0)]) dX4_isName_27 moX4_is voX4_is mlX4_51 (k_X4_is eq6) rfl (rm_ok (by omega) (by decide)) ⟨Nat.le_refl _, Nat.le_refl _⟩ (Nat.le_of_ble_eq_true rfl) rfl (c_X4_is eq6) ?_
      refine aw_if_ne (tgt := 73) dX4_isName_30 (by decide) (fun c7 => ?_) (fun c7 => ?_)
      · have hf := i_neg c7 hf
        refine aw_iconst (v := 0) dX4_isName_73 (by decide) ?_
        have hq := Option.some.inj hf
        subst hq
        exact aw_zret hr (by decide) dX4_isName_74 ⟨rfl, rfl, rfl⟩
      · have hf := i_pos c7 hf
        refine aw_aload_n 0 dX4_isName_33 rfl rfl ?_
        refine aw_ldcS dX4_isName_34 ksX4_55 ?_
        obtain ⟨q8, eq8, hf⟩ := b_some hf
        refine aw_cV (as := [.ref (1010 + 1)]) dX4_isName_36 moX4_is voX4_is mlX4_51 (k_X4_is eq8) rfl (rm_ok (by omega) (by decide)) ⟨Nat.le_refl _, Nat.le_refl _⟩ (Nat.le_of_ble_eq_true rfl) rfl (c_X4_is eq8) ?_
        refine aw_if_ne (tgt := 73) dX4_isName_39 (by decide) (fun c9 => ?_) (fun c9 => ?_)
        · have hf := i_neg c9 hf
          refine aw_iconst (v := 0) dX4_isName_73 (by decide) ?_
          have hq := Option.some.inj hf
          subst hq
          exact aw_zret hr (by decide) dX4_isName_74 ⟨rfl, rfl, rfl⟩
        · have hf := i_pos c9 hf
          refine aw_aload_n 0 dX4_isName_42 rfl rfl ?_
          refine aw_ldcS dX4_isName_43 ksX4_57 ?_
          obtain ⟨q10, eq10, hf⟩ := b_some hf
          refine aw_cV (as := [.ref (1010 + 2)]) dX4_isName_45 moX4_is voX4_is mlX4_51 (k_X4_is eq10) rfl (rm_ok (by omega) (by decide)) ⟨Nat.le_refl _, Nat.le_refl _⟩ (Nat.le_of_ble_eq_true rfl) rfl (c_X4_is eq10) ?_
          refine aw_if_ne (tgt := 73) dX4_isName_48 (by decide) (fun c11 => ?_) (fun c11 => ?_)
          · have hf := i_neg c11 hf
            refine aw_iconst (v := 0) dX4_isName_73 (by decide) ?_
            have hq := Option.some.inj hf
            subst hq
            exact aw_zret hr (by decide) dX4_isName_74 ⟨rfl, rfl, rfl⟩
          · have hf := i_pos c11 hf
            refine aw_aload_n 0 dX4_isName_51 rfl rfl ?_
            refine aw_ldcS dX4_isName_52 ksX4_59 ?_
            obtain ⟨q12, eq12, hf⟩ := b_some hf
            refine aw_cV (as := [.ref (1010 + 3)]) dX4_isName_54 moX4_is voX4_is mlX4_51 (k_X4_is eq12) rfl (rm_ok (by omega) (by decide)) ⟨Nat.le_refl _, Nat.le_refl _⟩ (Nat.le_of_ble_eq_true rfl) rfl (c_X4_is eq12) ?_
            refine aw_if_ne (tgt := 73) dX4_isName_57 (by decide) (fun c13 => ?_) (fun c13 => ?_)
            · have hf := i_neg c13 hf
              refine aw_iconst (v := 0) dX4_isName_73 (by decide) ?_
              have hq := Option.some.inj hf
              subst hq
              exact aw_zret hr (by decide) dX4_isName_74 ⟨rfl, rfl, rfl⟩
            · have hf := i_pos c13 hf
              refine aw_aload_n 0 dX4_isName_60 rfl rfl ?_
              refine aw_ldcS dX4_isName_61 ksX4_61 ?_
              obtain ⟨q14, eq14, hf⟩ := b_some hf
              refine aw_cV (as := [.ref (1010 + 4)]) dX4_isName_63 moX4_is voX4_is mlX4_51 (k_X4_is eq14) rfl (rm_ok (by omega) (by decide)) ⟨Nat.le_refl _, Nat.le_refl _⟩ (Nat.le_of_ble_eq_true rfl) rfl (c_X4_is eq14) ?_
              refine aw_if_ne (tgt := 73) dX4_isName_66 (by decide) (fun c15 => ?_) (fun c15 => ?_)
              · have hf := i_neg c15 hf
                refine aw_iconst (v := 0) dX4_isName_73 (by decide) ?_
                have hq := Option.some.inj hf
                subst hq
                exact aw_zret hr (by decide) dX4_isName_74 ⟨rfl, rfl, rfl⟩
              · have hf := i_pos c15 hf
                refine aw_iconst (v := 1) dX4_isName_69 (by decide) ?_
                refine aw_goto (tgt := 74) dX4_isName_70 (by decide) ?_
                have hq := Option.some.inj hf
                subst hq
                exact aw_zret hr (by decide) dX4_isName_74 ⟨rfl, rfl, rfl⟩
    · have hf := i_neg c5 hf
      refine aw_iconst (v := 0) dX4_isName_22 (by decide) ?_
      have hq := Option.some.inj hf
      subst hq
      exact aw_zret hr (by decide) dX4_isName_23 ⟨rfl, rfl, rfl⟩
theorem k_X4_isName {l0 : Nat} {h0 : Hp} {q : Int32 × Hp} (hf : f_X4_isName l0 h0 = some q) : ck h0 l0 4 = some () := by
  unfold f_X4_isName at hf
  obtain ⟨u0, e0, hf⟩ := b_some hf
  exact e0
theorem dX4_number_0 : decode cX4_number 0 = .ok (.aload_n 0, 1) := by decide +kernel
theorem dX4_number_1 : decode cX4_number 1 = .ok (.invokevirtual 36, 3) := by decide +kernel
theorem dX4_number_4 : decode cX4_number 4 = .ok (.aload_n 0, 1) := by decide +kernel
theorem dX4_number_5 : decode cX4_number 5 = .ok (.getfield 25, 3) := by decide +kernel
theorem dX4_number_8 : decode cX4_number 8 = .ok (.iconst 2, 1) := by decide +kernel
theorem dX4_number_9 : decode cX4_number 9 = .ok (.if_icmp .ne 16, 3) := by decide +kernel
theorem dX4_number_12 : decode cX4_number 12 = .ok (.aload_n 0, 1) := by decide +kernel
theorem dX4_number_13 : decode cX4_number 13 = .ok (.getfield 22, 3) := by decide +kernel
theorem dX4_number_16 : decode cX4_number 16 = .ok (.aload_n 0, 1) := by decide +kernel
theorem dX4_number_17 : decode cX4_number 17 = .ok (.getfield 19, 3) := by decide +kernel
theorem dX4_number_20 : decode cX4_number 20 = .ok (.isub, 1) := by decide +kernel
theorem dX4_number_21 : decode cX4_number 21 = .ok (.iconst 2, 1) := by decide +kernel
theorem dX4_number_22 : decode cX4_number 22 = .ok (.if_icmp .le 5, 3) := by decide +kernel
theorem dX4_number_25 : decode cX4_number 25 = .ok (.iconst (-1), 1) := by decide +kernel
theorem dX4_number_26 : decode cX4_number 26 = .ok (.ireturn, 1) := by decide +kernel
theorem dX4_number_27 : decode cX4_number 27 = .ok (.iconst 0, 1) := by decide +kernel
theorem dX4_number_28 : decode cX4_number 28 = .ok (.istore_n 3, 1) := by decide +kernel
theorem dX4_number_29 : decode cX4_number 29 = .ok (.aload_n 0, 1) := by decide +kernel
theorem dX4_number_30 : decode cX4_number 30 = .ok (.getfield 19, 3) := by decide +kernel
theorem dX4_number_33 : decode cX4_number 33 = .ok (.istore 4, 2) := by decide +kernel
theorem dX4_number_35 : decode cX4_number 35 = .ok (.iload 4, 2) := by decide +kernel
theorem dX4_number_37 : decode cX4_number 37 = .ok (.aload_n 0, 1) := by decide +kernel
theorem dX4_number_38 : decode cX4_number 38 = .ok (.getfield 22, 3) := by decide +kernel
theorem dX4_number_41 : decode cX4_number 41 = .ok (.if_icmp .ge 25, 3) := by decide +kernel
theorem dX4_number_44 : decode cX4_number 44 = .ok (.iload_n 3, 1) := by decide +kernel
theorem dX4_number_45 : decode cX4_number 45 = .ok (.bipush 10, 2) := by decide +kernel
theorem dX4_number_47 : decode cX4_number 47 = .ok (.imul, 1) := by decide +kernel
theorem dX4_number_48 : decode cX4_number 48 = .ok (.aload_n 0, 1) := by decide +kernel
theorem dX4_number_49 : decode cX4_number 49 = .ok (.getfield 9, 3) := by decide +kernel
theorem dX4_number_52 : decode cX4_number 52 = .ok (.iload 4, 2) := by decide +kernel
theorem dX4_number_54 : decode cX4_number 54 = .ok (.iaload, 1) := by decide +kernel
theorem dX4_number_55 : decode cX4_number 55 = .ok (.iadd, 1) := by decide +kernel
theorem dX4_number_56 : decode cX4_number 56 = .ok (.bipush 48, 2) := by decide +kernel
theorem dX4_number_58 : decode cX4_number 58 = .ok (.isub, 1) := by decide +kernel
theorem dX4_number_59 : decode cX4_number 59 = .ok (.istore_n 3, 1) := by decide +kernel
theorem dX4_number_60 : decode cX4_number 60 = .ok (.iinc 4 1, 3) := by decide +kernel
theorem dX4_number_63 : decode cX4_number 63 = .ok (.goto (-28), 3) := by decide +kernel
theorem dX4_number_66 : decode cX4_number 66 = .ok (.iload_n 3, 1) := by decide +kernel
theorem dX4_number_67 : decode cX4_number 67 = .ok (.iload_n 1, 1) := by decide +kernel
theorem dX4_number_68 : decode cX4_number 68 = .ok (.if_icmp .lt 12, 3) := by decide +kernel
theorem dX4_number_71 : decode cX4_number 71 = .ok (.iload_n 3, 1) := by decide +kernel
theorem dX4_number_72 : decode cX4_number 72 = .ok (.iload_n 2, 1) := by decide +kernel
theorem dX4_number_73 : decode cX4_number 73 = .ok (.if_icmp .gt 7, 3) := by decide +kernel
theorem dX4_number_76 : decode cX4_number 76 = .ok (.iload_n 3, 1) := by decide +kernel
theorem dX4_number_77 : decode cX4_number 77 = .ok (.goto 4, 3) := by decide +kernel
theorem dX4_number_80 : decode cX4_number 80 = .ok (.iconst (-1), 1) := by decide +kernel
theorem dX4_number_81 : decode cX4_number 81 = .ok (.ireturn, 1) := by decide +kernel
def f_X4_number_35 (k35 : Nat × Int32 × Int32 × Int32 × Int32 → Hp → Option (Int32 × Hp)) (v : Nat × Int32 × Int32 × Int32 × Int32) (h0 : Hp) : Option (Int32 × Hp) :=
  match v with
  | (l0, l1, l2, l3, l4) => (gI h0 l0 4 3).bind fun x1 => if x1 ≤ l4 then (if l3 < l1 then (some ((-1 : Int32), h0)) else (if l2 < l3 then (some ((-1 : Int32), h0)) else (some (l3, h0)))) else ((gR h0 l0 4 0).bind fun r5 => (aL h0 r5 l4).bind fun x6 => (some (((l3 * (10 : Int32)) + x6) - (48 : Int32))).bind fun x7 => (some (l4 + 1)).bind fun x8 => k35 (l0, l1, l2, x7, x8) h0)
set_option maxRecDepth 100000 in
set_option maxHeartbeats 4000000 in
theorem c_X4_number_35 {X : Cx} {adr : Nat → Nat} {q : Int32 × Hp} (hr : (mth X).sig.returnType = (some .int)) (n : Nat) : ∀ v h0, lp (f_X4_number_35) n v h0 = some q → AW X cX4_number 5 RX4 (rmd 3 0 0) (Qmet X 0 0 (Qe (some (.int q.1)) q.2 adr)) 0 0 adr h0 35 [(0, .ref v.1), (1, .int v.2.1), (2, .int v.2.2.1), (3, .int v.2.2.2.1), (4, .int v.2.2.2.2)] [] := by
  refine aw_lp (fun k35 hk35 v h0 hf => ?_) n
  obtain ⟨l0, l1, l2, l3, l4⟩ := v
  unfold f_X4_number_35 at hf
  dsimp only at hf
  show AW X cX4_number 5 RX4 (rmd 3 0 0) (Qmet X 0 0 (Qe (some (.int q.1)) q.2 adr)) 0 0 adr h0 35 [(0, .ref l0), (1, .int l1), (2, .int l2), (3, .int l3), (4, .int l4)] []
  refine aw_iload 4 dX4_number_35 rfl ?_
  refine aw_aload_n 0 dX4_number_37 rfl rfl ?_
  obtain ⟨x1, ex1, hf⟩ := b_some hf
  refine aw_getI dX4_number_38 gfX4_22 ex1 ?_
  refine aw_icmp_ge (tgt := 66) dX4_number_41 (by decide) (fun c2 => ?_) (fun c2 => ?_)
  · have hf := i_pos c2 hf
    refine aw_iload_n 3 dX4_number_66 rfl rfl ?_
    refine aw_iload_n 1 dX4_number_67 rfl rfl ?_
    refine aw_icmp_lt (tgt := 80) dX4_number_68 (by decide) (fun c3 => ?_) (fun c3 => ?_)
    · have hf := i_pos c3 hf
      refine aw_iconst (v := -1) dX4_number_80 (by decide) ?_
      have hq := Option.some.inj hf
      subst hq
      exact aw_iret hr dX4_number_81 ⟨rfl, rfl, rfl⟩
    · have hf := i_neg c3 hf
      refine aw_iload_n 3 dX4_number_71 rfl rfl ?_
      refine aw_iload_n 2 dX4_number_72 rfl rfl ?_
      refine aw_icmp_gt (tgt := 80) dX4_number_73 (by decide) (fun c4 => ?_) (fun c4 => ?_)
      · have hf := i_pos c4 hf
        refine aw_iconst (v := -1) dX4_number_80 (by decide) ?_
        have hq := Option.some.inj hf
        subst hq
        exact aw_iret hr dX4_number_81 ⟨rfl, rfl, rfl⟩
      · have hf := i_neg c4 hf
        refine aw_iload_n 3 dX4_number_76 rfl rfl ?_
        refine aw_goto (tgt := 81) dX4_number_77 (by decide) ?_
        have hq := Option.some.inj hf
        subst hq
        exact aw_iret hr dX4_number_81 ⟨rfl, rfl, rfl⟩
  · have hf := i_neg c2 hf
    refine aw_iload_n 3 dX4_number_44 rfl rfl ?_
    refine aw_bipush (v := 10) dX4_number_45 (by decide) ?_
    refine aw_imul dX4_number_47 ?_
    refine aw_aload_n 0 dX4_number_48 rfl rfl ?_
    obtain ⟨r5, er5, hf⟩ := b_some hf
    refine aw_getR dX4_number_49 gfX4_9 er5 ?_
    refine aw_iload 4 dX4_number_52 rfl ?_
    obtain ⟨x6, ex6, hf⟩ := b_some hf
    refine aw_iald dX4_number_54 ex6 ?_
    refine aw_iadd dX4_number_55 ?_
    refine aw_bipush (v := 48) dX4_number_56 (by decide) ?_
    refine aw_isub dX4_number_58 ?_
    obtain ⟨x7, ex7, hf⟩ := b_some hf
    refine aw_nm ex7 ?_
    refine aw_istore_n (L' := [(3, .int x7), (0, .ref l0), (1, .int l1), (2, .int l2), (4, .int l4)]) dX4_number_59 rfl (by decide) rfl ?_
    obtain ⟨x8, ex8, hf⟩ := b_some hf
    refine aw_iinc (v := x8) (L' := [(4, .int x8), (3, .int x7), (0, .ref l0), (1, .int l1), (2, .int l2)]) 4 dX4_number_60 rfl (Option.some.inj ex8) (by decide) rfl ?_
    refine aw_goto (tgt := 35) dX4_number_63 (by decide) ?_
    exact aw_sub [2, 3, 4, 1, 0] rfl (hk35 _ _ hf)
def f_X4_number (l0 : Nat) (l1 : Int32) (l2 : Int32) (h0 : Hp) : Option (Int32 × Hp) :=
  (ck h0 l0 4).bind fun _ => (f_X4_step l0 h0).bind fun q1 => (gI q1.2 l0 4 4).bind fun x2 => if x2 = (2 : Int32) then ((gI q1.2 l0 4 3).bind fun x4 => (gI q1.2 l0 4 2).bind fun x5 => if (x4 - x5) ≤ (2 : Int32) then ((gI q1.2 l0 4 2).bind fun x7 => lp (f_X4_number_35) 600 (l0, l1, l2, (0 : Int32), x7) q1.2) else (some ((-1 : Int32), q1.2))) else (some ((-1 : Int32), q1.2))
set_option maxRecDepth 100000 in
set_option maxHeartbeats 4000000 in
theorem c_X4_number {l0 : Nat} {l1 : Int32} {l2 : Int32} {h0 : Hp} {q : Int32 × Hp} (hf : f_X4_number l0 l1 l2 h0 = some q) : Mt 3 yX4_number cX4_number 5 (some .int) [.ref l0, .int l1, .int l2] h0 (some (.int q.1)) q.2 := by
  refine MtQ.of (by decide) (Nat.le_of_ble_eq_true rfl) (fun X adr hr hn => ?_)
  unfold f_X4_number at hf
  show AW X cX4_number 5 RX4 (rmd 3 0 0) (Qmet X 0 0 (Qe (some (.int q.1)) q.2 adr)) 0 0 adr h0 0 [(0, .ref l0), (1, .int l1), (2, .int l2)] []
  obtain ⟨u0, e0, hf⟩ := b_some hf
  refine aw_aload_n 0 dX4_number_0 rfl rfl ?_
  obtain ⟨q1, eq1, hf⟩ := b_some hf
  refine aw_cV0 (as := []) dX4_number_1 moX4_step voX4_step mlX4_36 (k_X4_step eq1) rfl (rm_ok (by omega) (by decide)) ⟨Nat.le_refl _, Nat.le_refl _⟩ (Nat.le_of_ble_eq_true rfl) rfl (c_X4_step eq1) ?_
  refine aw_aload_n 0 dX4_number_4 rfl rfl ?_
  obtain ⟨x2, ex2, hf⟩ := b_some hf
  refine aw_getI dX4_number_5 gfX4_25 ex2 ?_
  refine aw_iconst (v := 2) dX4_number_8 (by decide) ?_
  refine aw_icmp_ne (tgt := 25) dX4_number_9 (by decide) (fun c3 => ?_) (fun c3 => ?_)
  · have hf := i_neg c3 hf
    refine aw_iconst (v := -1) dX4_number_25 (by decide) ?_
    have hq := Option.some.inj hf
    subst hq
    exact aw_iret hr dX4_number_26 ⟨rfl, rfl, rfl⟩
  · have hf := i_pos c3 hf
    refine aw_aload_n 0 dX4_number_12 rfl rfl ?_
    obtain ⟨x4, ex4, hf⟩ := b_some hf
    refine aw_getI dX4_number_13 gfX4_22 ex4 ?_
    refine aw_aload_n 0 dX4_number_16 rfl rfl ?_
    obtain ⟨x5, ex5, hf⟩ := b_some hf
    refine aw_getI dX4_number_17 gfX4_19 ex5 ?_
    refine aw_isub dX4_number_20 ?_
    refine aw_iconst (v := 2) dX4_number_21 (by decide) ?_
    refine aw_icmp_le (tgt := 27) dX4_number_22 (by decide) (fun c6 => ?_) (fun c6 => ?_)
    · have hf := i_pos c6 hf
      refine aw_iconst (v := 0) dX4_number_27 (by decide) ?_
      refine aw_istore_n (L' := [(3, .int (0 : Int32)), (0, .ref l0), (1, .int l1), (2, .int l2)]) dX4_number_28 rfl (by decide) rfl ?_
      refine aw_aload_n 1 dX4_number_29 rfl rfl ?_
      obtain ⟨x7, ex7, hf⟩ := b_some hf
      refine aw_getI dX4_number_30 gfX4_19 ex7 ?_
      refine aw_istore (L' := [(4, .int x7), (3, .int (0 : Int32)), (0, .ref l0), (1, .int l1), (2, .int l2)]) dX4_number_33 (by decide) rfl ?_
      exact aw_sub [2, 3, 4, 1, 0] rfl (c_X4_number_35 hr 600 _ _ hf)
    · have hf := i_neg c6 hf
      refine aw_iconst (v := -1) dX4_number_25 (by decide) ?_
      have hq := Option.some.inj hf
      subst hq
      exact aw_iret hr dX4_number_26 ⟨rfl, rfl, rfl⟩
theorem k_X4_number {l0 : Nat} {l1 : Int32} {l2 : Int32} {h0 : Hp} {q : Int32 × Hp} (hf : f_X4_number l0 l1 l2 h0 = some q) : ck h0 l0 4 = some () := by
  unfold f_X4_number at hf
  obtain ⟨u0, e0, hf⟩ := b_some hf
  exact e0
theorem dX5_isAsTold_0 : decode cX5_isAsTold 0 = .ok (.iconst 0, 1) := by decide +kernel
theorem dX5_isAsTold_1 : decode cX5_isAsTold 1 = .ok (.istore_n 2, 1) := by decide +kernel
theorem dX5_isAsTold_2 : decode cX5_isAsTold 2 = .ok (.iload_n 2, 1) := by decide +kernel
theorem dX5_isAsTold_3 : decode cX5_isAsTold 3 = .ok (.aload_n 1, 1) := by decide +kernel
theorem dX5_isAsTold_4 : decode cX5_isAsTold 4 = .ok (.getfield 62, 3) := by decide +kernel
theorem dX5_isAsTold_7 : decode cX5_isAsTold 7 = .ok (.if_icmp .ge 32, 3) := by decide +kernel
theorem dX5_isAsTold_10 : decode cX5_isAsTold 10 = .ok (.iload_n 2, 1) := by decide +kernel
theorem dX5_isAsTold_11 : decode cX5_isAsTold 11 = .ok (.bipush 6, 2) := by decide +kernel
theorem dX5_isAsTold_13 : decode cX5_isAsTold 13 = .ok (.if_icmp .ge 26, 3) := by decide +kernel
theorem dX5_isAsTold_16 : decode cX5_isAsTold 16 = .ok (.aload_n 0, 1) := by decide +kernel
theorem dX5_isAsTold_17 : decode cX5_isAsTold 17 = .ok (.getfield 9, 3) := by decide +kernel
theorem dX5_isAsTold_20 : decode cX5_isAsTold 20 = .ok (.iload_n 2, 1) := by decide +kernel
theorem dX5_isAsTold_21 : decode cX5_isAsTold 21 = .ok (.iaload, 1) := by decide +kernel
theorem dX5_isAsTold_22 : decode cX5_isAsTold 22 = .ok (.aload_n 1, 1) := by decide +kernel
theorem dX5_isAsTold_23 : decode cX5_isAsTold 23 = .ok (.getfield 65, 3) := by decide +kernel
theorem dX5_isAsTold_26 : decode cX5_isAsTold 26 = .ok (.iload_n 2, 1) := by decide +kernel
theorem dX5_isAsTold_27 : decode cX5_isAsTold 27 = .ok (.iaload, 1) := by decide +kernel
theorem dX5_isAsTold_28 : decode cX5_isAsTold 28 = .ok (.if_icmp .eq 5, 3) := by decide +kernel
theorem dX5_isAsTold_31 : decode cX5_isAsTold 31 = .ok (.iconst 0, 1) := by decide +kernel
theorem dX5_isAsTold_32 : decode cX5_isAsTold 32 = .ok (.ireturn, 1) := by decide +kernel
theorem dX5_isAsTold_33 : decode cX5_isAsTold 33 = .ok (.iinc 2 1, 3) := by decide +kernel
theorem dX5_isAsTold_36 : decode cX5_isAsTold 36 = .ok (.goto (-34), 3) := by decide +kernel
theorem dX5_isAsTold_39 : decode cX5_isAsTold 39 = .ok (.iconst 1, 1) := by decide +kernel
theorem dX5_isAsTold_40 : decode cX5_isAsTold 40 = .ok (.ireturn, 1) := by decide +kernel
def f_X5_isAsTold_2 (k2 : Nat × Nat × Int32 → Hp → Option (Int32 × Hp)) (v : Nat × Nat × Int32) (h0 : Hp) : Option (Int32 × Hp) :=
  match v with
  | (l0, l1, l2) => (gI h0 l1 2 2).bind fun x1 => if x1 ≤ l2 then (some ((1 : Int32), h0)) else (if (6 : Int32) ≤ l2 then (some ((1 : Int32), h0)) else ((gR h0 l0 5 0).bind fun r4 => (aL h0 r4 l2).bind fun x5 => (gR h0 l1 2 0).bind fun r6 => (aL h0 r6 l2).bind fun x7 => if x5 = x7 then ((some (l2 + 1)).bind fun x9 => k2 (l0, l1, x9) h0) else (some ((0 : Int32), h0))))
set_option maxRecDepth 100000 in
set_option maxHeartbeats 4000000 in
theorem c_X5_isAsTold_2 {X : Cx} {adr : Nat → Nat} {q : Int32 × Hp} (hr : (mth X).sig.returnType = (some .boolean)) (n : Nat) : ∀ v h0, lp (f_X5_isAsTold_2) n v h0 = some q → AW X cX5_isAsTold 3 RX5 (rmd 1 0 0) (Qmet X 0 0 (Qe (some (.int q.1)) q.2 adr)) 0 0 adr h0 2 [(0, .ref v.1), (1, .ref v.2.1), (2, .int v.2.2)] [] := by
  refine aw_lp (fun k2 hk2 v h0 hf => ?_) n
  obtain ⟨l0, l1, l2⟩ := v
  unfold f_X5_isAsTold_2 at hf
  dsimp only at hf
  show AW X cX5_isAsTold 3 RX5 (rmd 1 0 0) (Qmet X 0 0 (Qe (some (.int q.1)) q.2 adr)) 0 0 adr h0 2 [(0, .ref l0), (1, .ref l1), (2, .int l2)] []
  refine aw_iload_n 2 dX5_isAsTold_2 rfl rfl ?_
  refine aw_aload_n 1 dX5_isAsTold_3 rfl rfl ?_
  obtain ⟨x1, ex1, hf⟩ := b_some hf
  refine aw_getI dX5_isAsTold_4 gfX5_62 ex1 ?_
  refine aw_icmp_ge (tgt := 39) dX5_isAsTold_7 (by decide) (fun c2 => ?_) (fun c2 => ?_)
  · have hf := i_pos c2 hf
    refine aw_iconst (v := 1) dX5_isAsTold_39 (by decide) ?_
    have hq := Option.some.inj hf
    subst hq
    exact aw_zret hr (by decide) dX5_isAsTold_40 ⟨rfl, rfl, rfl⟩
  · have hf := i_neg c2 hf
    refine aw_iload_n 2 dX5_isAsTold_10 rfl rfl ?_
    refine aw_bipush (v := 6) dX5_isAsTold_11 (by decide) ?_
    refine aw_icmp_ge (tgt := 39) dX5_isAsTold_13 (by decide) (fun c3 => ?_) (fun c3 => ?_)
    · have hf := i_pos c3 hf
      refine aw_iconst (v := 1) dX5_isAsTold_39 (by decide) ?_
      have hq := Option.some.inj hf
      subst hq
      exact aw_zret hr (by decide) dX5_isAsTold_40 ⟨rfl, rfl, rfl⟩
    · have hf := i_neg c3 hf
      refine aw_aload_n 0 dX5_isAsTold_16 rfl rfl ?_
      obtain ⟨r4, er4, hf⟩ := b_some hf
      refine aw_getR dX5_isAsTold_17 gfX5_9 er4 ?_
      refine aw_iload_n 2 dX5_isAsTold_20 rfl rfl ?_
      obtain ⟨x5, ex5, hf⟩ := b_some hf
      refine aw_iald dX5_isAsTold_21 ex5 ?_
      refine aw_aload_n 1 dX5_isAsTold_22 rfl rfl ?_
      obtain ⟨r6, er6, hf⟩ := b_some hf
      refine aw_getR dX5_isAsTold_23 gfX5_65 er6 ?_
      refine aw_iload_n 2 dX5_isAsTold_26 rfl rfl ?_
      obtain ⟨x7, ex7, hf⟩ := b_some hf
      refine aw_iald dX5_isAsTold_27 ex7 ?_
      refine aw_icmp_eq (tgt := 33) dX5_isAsTold_28 (by decide) (fun c8 => ?_) (fun c8 => ?_)
      · have hf := i_pos c8 hf
        obtain ⟨x9, ex9, hf⟩ := b_some hf
        refine aw_iinc (v := x9) (L' := [(2, .int x9), (0, .ref l0), (1, .ref l1)]) 2 dX5_isAsTold_33 rfl (Option.some.inj ex9) (by decide) rfl ?_
        refine aw_goto (tgt := 2) dX5_isAsTold_36 (by decide) ?_
        exact aw_sub [1, 2, 0] rfl (hk2 _ _ hf)
      · have hf := i_neg c8 hf
        refine aw_iconst (v := 0) dX5_isAsTold_31 (by decide) ?_
        have hq := Option.some.inj hf
        subst hq
        exact aw_zret hr (by decide) dX5_isAsTold_32 ⟨rfl, rfl, rfl⟩
def f_X5_isAsTold (l0 : Nat) (l1 : Nat) (h0 : Hp) : Option (Int32 × Hp) :=
  (ck h0 l0 5).bind fun _ => lp (f_X5_isAsTold_2) 600 (l0, l1, (0 : Int32)) h0
set_option maxRecDepth 100000 in
set_option maxHeartbeats 4000000 in
theorem c_X5_isAsTold {l0 : Nat} {l1 : Nat} {h0 : Hp} {q : Int32 × Hp} (hf : f_X5_isAsTold l0 l1 h0 = some q) : Mt 1 yX5_isAsTold cX5_isAsTold 3 (some .boolean) [.ref l0, .ref l1] h0 (some (.int q.1)) q.2 := by
  refine MtQ.of (by decide) (Nat.le_of_ble_eq_true rfl) (fun X adr hr hn => ?_)
  unfold f_X5_isAsTold at hf
  show AW X cX5_isAsTold 3 RX5 (rmd 1 0 0) (Qmet X 0 0 (Qe (some (.int q.1)) q.2 adr)) 0 0 adr h0 0 [(0, .ref l0), (1, .ref l1)] []
  obtain ⟨u0, e0, hf⟩ := b_some hf
  refine aw_iconst (v := 0) dX5_isAsTold_0 (by decide) ?_
  refine aw_istore_n (L' := [(2, .int (0 : Int32)), (0, .ref l0), (1, .ref l1)]) dX5_isAsTold_1 rfl (by decide) rfl ?_
  exact aw_sub [1, 2, 0] rfl (c_X5_isAsTold_2 hr 600 _ _ hf)
theorem k_X5_isAsTold {l0 : Nat} {l1 : Nat} {h0 : Hp} {q : Int32 × Hp} (hf : f_X5_isAsTold l0 l1 h0 = some q) : ck h0 l0 5 = some () := by
  unfold f_X5_isAsTold at hf
  obtain ⟨u0, e0, hf⟩ := b_some hf
  exact e0
theorem dX5_isNew_0 : decode cX5_isNew 0 = .ok (.lconst 0, 1) := by decide +kernel
theorem dX5_isNew_1 : decode cX5_isNew 1 = .ok (.lstore_n 1, 1) := by decide +kernel
theorem dX5_isNew_2 : decode cX5_isNew 2 = .ok (.iconst 0, 1) := by decide +kernel
theorem dX5_isNew_3 : decode cX5_isNew 3 = .ok (.istore_n 3, 1) := by decide +kernel
theorem dX5_isNew_4 : decode cX5_isNew 4 = .ok (.iload_n 3, 1) := by decide +kernel
theorem dX5_isNew_5 : decode cX5_isNew 5 = .ok (.bipush 6, 2) := by decide +kernel
theorem dX5_isNew_7 : decode cX5_isNew 7 = .ok (.if_icmp .ge 22, 3) := by decide +kernel
theorem dX5_isNew_10 : decode cX5_isNew 10 = .ok (.lload_n 1, 1) := by decide +kernel
theorem dX5_isNew_11 : decode cX5_isNew 11 = .ok (.bipush 6, 2) := by decide +kernel
theorem dX5_isNew_13 : decode cX5_isNew 13 = .ok (.lshl, 1) := by decide +kernel
theorem dX5_isNew_14 : decode cX5_isNew 14 = .ok (.aload_n 0, 1) := by decide +kernel
theorem dX5_isNew_15 : decode cX5_isNew 15 = .ok (.getfield 9, 3) := by decide +kernel
theorem dX5_isNew_18 : decode cX5_isNew 18 = .ok (.iload_n 3, 1) := by decide +kernel
theorem dX5_isNew_19 : decode cX5_isNew 19 = .ok (.iaload, 1) := by decide +kernel
theorem dX5_isNew_20 : decode cX5_isNew 20 = .ok (.i2l, 1) := by decide +kernel
theorem dX5_isNew_21 : decode cX5_isNew 21 = .ok (.lor, 1) := by decide +kernel
theorem dX5_isNew_22 : decode cX5_isNew 22 = .ok (.lstore_n 1, 1) := by decide +kernel
theorem dX5_isNew_23 : decode cX5_isNew 23 = .ok (.iinc 3 1, 3) := by decide +kernel
theorem dX5_isNew_26 : decode cX5_isNew 26 = .ok (.goto (-22), 3) := by decide +kernel
theorem dX5_isNew_29 : decode cX5_isNew 29 = .ok (.iconst 0, 1) := by decide +kernel
theorem dX5_isNew_30 : decode cX5_isNew 30 = .ok (.istore_n 3, 1) := by decide +kernel
theorem dX5_isNew_31 : decode cX5_isNew 31 = .ok (.iload_n 3, 1) := by decide +kernel
theorem dX5_isNew_32 : decode cX5_isNew 32 = .ok (.aload_n 0, 1) := by decide +kernel
theorem dX5_isNew_33 : decode cX5_isNew 33 = .ok (.getfield 28, 3) := by decide +kernel
theorem dX5_isNew_36 : decode cX5_isNew 36 = .ok (.if_icmp .ge 22, 3) := by decide +kernel
theorem dX5_isNew_39 : decode cX5_isNew 39 = .ok (.aload_n 0, 1) := by decide +kernel
theorem dX5_isNew_40 : decode cX5_isNew 40 = .ok (.getfield 18, 3) := by decide +kernel
theorem dX5_isNew_43 : decode cX5_isNew 43 = .ok (.iload_n 3, 1) := by decide +kernel
theorem dX5_isNew_44 : decode cX5_isNew 44 = .ok (.laload, 1) := by decide +kernel
theorem dX5_isNew_45 : decode cX5_isNew 45 = .ok (.lload_n 1, 1) := by decide +kernel
theorem dX5_isNew_46 : decode cX5_isNew 46 = .ok (.lcmp, 1) := by decide +kernel
theorem dX5_isNew_47 : decode cX5_isNew 47 = .ok (.ifCond .ne 5, 3) := by decide +kernel
theorem dX5_isNew_50 : decode cX5_isNew 50 = .ok (.iconst 0, 1) := by decide +kernel
theorem dX5_isNew_51 : decode cX5_isNew 51 = .ok (.ireturn, 1) := by decide +kernel
theorem dX5_isNew_52 : decode cX5_isNew 52 = .ok (.iinc 3 1, 3) := by decide +kernel
theorem dX5_isNew_55 : decode cX5_isNew 55 = .ok (.goto (-24), 3) := by decide +kernel
theorem dX5_isNew_58 : decode cX5_isNew 58 = .ok (.aload_n 0, 1) := by decide +kernel
theorem dX5_isNew_59 : decode cX5_isNew 59 = .ok (.getfield 28, 3) := by decide +kernel
theorem dX5_isNew_62 : decode cX5_isNew 62 = .ok (.bipush 81, 2) := by decide +kernel
theorem dX5_isNew_64 : decode cX5_isNew 64 = .ok (.if_icmp .lt 5, 3) := by decide +kernel
theorem dX5_isNew_67 : decode cX5_isNew 67 = .ok (.iconst 0, 1) := by decide +kernel
theorem dX5_isNew_68 : decode cX5_isNew 68 = .ok (.ireturn, 1) := by decide +kernel
theorem dX5_isNew_69 : decode cX5_isNew 69 = .ok (.aload_n 0, 1) := by decide +kernel
theorem dX5_isNew_70 : decode cX5_isNew 70 = .ok (.getfield 18, 3) := by decide +kernel
theorem dX5_isNew_73 : decode cX5_isNew 73 = .ok (.aload_n 0, 1) := by decide +kernel
theorem dX5_isNew_74 : decode cX5_isNew 74 = .ok (.getfield 28, 3) := by decide +kernel
theorem dX5_isNew_77 : decode cX5_isNew 77 = .ok (.lload_n 1, 1) := by decide +kernel
theorem dX5_isNew_78 : decode cX5_isNew 78 = .ok (.lastore, 1) := by decide +kernel
theorem dX5_isNew_79 : decode cX5_isNew 79 = .ok (.aload_n 0, 1) := by decide +kernel
theorem dX5_isNew_80 : decode cX5_isNew 80 = .ok (.dup, 1) := by decide +kernel
theorem dX5_isNew_81 : decode cX5_isNew 81 = .ok (.getfield 28, 3) := by decide +kernel
theorem dX5_isNew_84 : decode cX5_isNew 84 = .ok (.iconst 1, 1) := by decide +kernel
theorem dX5_isNew_85 : decode cX5_isNew 85 = .ok (.iadd, 1) := by decide +kernel
theorem dX5_isNew_86 : decode cX5_isNew 86 = .ok (.putfield 28, 3) := by decide +kernel
theorem dX5_isNew_89 : decode cX5_isNew 89 = .ok (.iconst 1, 1) := by decide +kernel
theorem dX5_isNew_90 : decode cX5_isNew 90 = .ok (.ireturn, 1) := by decide +kernel
def f_X5_isNew_31 (k31 : Nat × Int64 × Int32 → Hp → Option (Int32 × Hp)) (v : Nat × Int64 × Int32) (h0 : Hp) : Option (Int32 × Hp) :=
  match v with
  | (l0, l1, l3) => (gI h0 l0 5 4).bind fun x1 => if x1 ≤ l3 then ((gI h0 l0 5 4).bind fun x3 => if x3 < (81 : Int32) then ((gR h0 l0 5 2).bind fun r5 => (gI h0 l0 5 4).bind fun x6 => (lS h0 r5 x6 l1).bind fun h7 => (gI h7 l0 5 4).bind fun x8 => (pI h7 l0 5 4 (x8 + (1 : Int32))).bind fun h9 => some ((1 : Int32), h9)) else (some ((0 : Int32), h0))) else ((gR h0 l0 5 2).bind fun r10 => (lL h0 r10 l3).bind fun x11 => if (lg_cmp x11 l1) = 0 then (some ((0 : Int32), h0)) else ((some (l3 + 1)).bind fun x13 => k31 (l0, l1, x13) h0))
set_option maxRecDepth 100000 in
set_option maxHeartbeats 4000000 in
theorem c_X5_isNew_31 {X : Cx} {adr : Nat → Nat} {q : Int32 × Hp} (hr : (mth X).sig.returnType = (some .boolean)) (n : Nat) : ∀ v h0, lp (f_X5_isNew_31) n v h0 = some q → AW X cX5_isNew 4 RX5 (rmd 1 0 0) (Qmet X 0 0 (Qe (some (.int q.1)) q.2 adr)) 0 0 adr h0 31 [(0, .ref v.1), (1, .long v.2.1), (3, .int v.2.2)] [] := by
  refine aw_lp (fun k31 hk31 v h0 hf => ?_) n
  obtain ⟨l0, l1, l3⟩ := v
  unfold f_X5_isNew_31 at hf
  dsimp only at hf
  show AW X cX5_isNew 4 RX5 (rmd 1 0 0) (Qmet X 0 0 (Qe (some (.int q.1)) q.2 adr)) 0 0 adr h0 31 [(0, .ref l0), (1, .long l1), (3, .int l3)] []
  refine aw_iload_n 2 dX5_isNew_31 rfl rfl ?_
  refine aw_aload_n 0 dX5_isNew_32 rfl rfl ?_
  obtain ⟨x1, ex1, hf⟩ := b_some hf
  refine aw_getI dX5_isNew_33 gfX5_28 ex1 ?_
  refine aw_icmp_ge (tgt := 58) dX5_isNew_36 (by decide) (fun c2 => ?_) (fun c2 => ?_)
  · have hf := i_pos c2 hf
    refine aw_aload_n 0 dX5_isNew_58 rfl rfl ?_
    obtain ⟨x3, ex3, hf⟩ := b_some hf
    refine aw_getI dX5_isNew_59 gfX5_28 ex3 ?_
    refine aw_bipush (v := 81) dX5_isNew_62 (by decide) ?_
    refine aw_icmp_lt (tgt := 69) dX5_isNew_64 (by decide) (fun c4 => ?_) (fun c4 => ?_)
    · have hf := i_pos c4 hf
      refine aw_aload_n 0 dX5_isNew_69 rfl rfl ?_
      obtain ⟨r5, er5, hf⟩ := b_some hf
      refine aw_getR dX5_isNew_70 gfX5_18 er5 ?_
      refine aw_aload_n 0 dX5_isNew_73 rfl rfl ?_
      obtain ⟨x6, ex6, hf⟩ := b_some hf
      refine aw_getI dX5_isNew_74 gfX5_28 ex6 ?_
      refine aw_lload_n 1 dX5_isNew_77 rfl rfl ?_
      obtain ⟨h7, eh7, hf⟩ := b_some hf
      refine aw_last dX5_isNew_78 eh7 ?_
      refine aw_aload_n 0 dX5_isNew_79 rfl rfl ?_
      refine aw_dup dX5_isNew_80 rfl ?_
      obtain ⟨x8, ex8, hf⟩ := b_some hf
      refine aw_getI dX5_isNew_81 gfX5_28 ex8 ?_
      refine aw_iconst (v := 1) dX5_isNew_84 (by decide) ?_
      refine aw_iadd dX5_isNew_85 ?_
      obtain ⟨h9, eh9, hf⟩ := b_some hf
      refine aw_putI dX5_isNew_86 pfX5_28 eh9 ?_
      refine aw_iconst (v := 1) dX5_isNew_89 (by decide) ?_
      have hq := Option.some.inj hf
      subst hq
      exact aw_zret hr (by decide) dX5_isNew_90 ⟨rfl, rfl, rfl⟩
    · have hf := i_neg c4 hf
      refine aw_iconst (v := 0) dX5_isNew_67 (by decide) ?_
      have hq := Option.some.inj hf
      subst hq
      exact aw_zret hr (by decide) dX5_isNew_68 ⟨rfl, rfl, rfl⟩
  · have hf := i_neg c2 hf
    refine aw_aload_n 0 dX5_isNew_39 rfl rfl ?_
    obtain ⟨r10, er10, hf⟩ := b_some hf
    refine aw_getR dX5_isNew_40 gfX5_18 er10 ?_
    refine aw_iload_n 2 dX5_isNew_43 rfl rfl ?_
    obtain ⟨x11, ex11, hf⟩ := b_some hf
    refine aw_lald dX5_isNew_44 ex11 ?_
    refine aw_lload_n 1 dX5_isNew_45 rfl rfl ?_
    refine aw_lcmp dX5_isNew_46 ?_
    refine aw_if_ne (tgt := 52) dX5_isNew_47 (by decide) (fun c12 => ?_) (fun c12 => ?_)
    · have hf := i_neg c12 hf
      obtain ⟨x13, ex13, hf⟩ := b_some hf
      refine aw_iinc (v := x13) (L' := [(3, .int x13), (0, .ref l0), (1, .long l1)]) 2 dX5_isNew_52 rfl (Option.some.inj ex13) (by decide) rfl ?_
      refine aw_goto (tgt := 31) dX5_isNew_55 (by decide) ?_
      exact aw_sub [1, 2, 0] rfl (hk31 _ _ hf)
    · have hf := i_pos c12 hf
      refine aw_iconst (v := 0) dX5_isNew_50 (by decide) ?_
      have hq := Option.some.inj hf
      subst hq
      exact aw_zret hr (by decide) dX5_isNew_51 ⟨rfl, rfl, rfl⟩
def f_X5_isNew_4 (k4 : Nat × Int64 × Int32 → Hp → Option (Int32 × Hp)) (v : Nat × Int64 × Int32) (h0 : Hp) : Option (Int32 × Hp) :=
  match v with
  | (l0, l1, l3) => if (6 : Int32) ≤ l3 then (lp (f_X5_isNew_31) 600 (l0, l1, (0 : Int32)) h0) else ((gR h0 l0 5 0).bind fun r2 => (aL h0 r2 l3).bind fun x3 => (some ((l1 <<< (Int32.toInt64 (6 : Int32) &&& 63)) ||| (Int32.toInt64 x3))).bind fun x4 => (some (l3 + 1)).bind fun x5 => k4 (l0, x4, x5) h0)
set_option maxRecDepth 100000 in
set_option maxHeartbeats 4000000 in
theorem c_X5_isNew_4 {X : Cx} {adr : Nat → Nat} {q : Int32 × Hp} (hr : (mth X).sig.returnType = (some .boolean)) (n : Nat) : ∀ v h0, lp (f_X5_isNew_4) n v h0 = some q → AW X cX5_isNew 4 RX5 (rmd 1 0 0) (Qmet X 0 0 (Qe (some (.int q.1)) q.2 adr)) 0 0 adr h0 4 [(0, .ref v.1), (1, .long v.2.1), (3, .int v.2.2)] [] := by
  refine aw_lp (fun k4 hk4 v h0 hf => ?_) n
  obtain ⟨l0, l1, l3⟩ := v
  unfold f_X5_isNew_4 at hf
  dsimp only at hf
  show AW X cX5_isNew 4 RX5 (rmd 1 0 0) (Qmet X 0 0 (Qe (some (.int q.1)) q.2 adr)) 0 0 adr h0 4 [(0, .ref l0), (1, .long l1), (3, .int l3)] []
  refine aw_iload_n 2 dX5_isNew_4 rfl rfl ?_
  refine aw_bipush (v := 6) dX5_isNew_5 (by decide) ?_
  refine aw_icmp_ge (tgt := 29) dX5_isNew_7 (by decide) (fun c1 => ?_) (fun c1 => ?_)
  · have hf := i_pos c1 hf
    refine aw_iconst (v := 0) dX5_isNew_29 (by decide) ?_
    refine aw_istore_n (L' := [(3, .int (0 : Int32)), (0, .ref l0), (1, .long l1)]) dX5_isNew_30 rfl (by decide) rfl ?_
    exact aw_sub [1, 2, 0] rfl (c_X5_isNew_31 hr 600 _ _ hf)
  · have hf := i_neg c1 hf
    refine aw_lload_n 1 dX5_isNew_10 rfl rfl ?_
    refine aw_bipush (v := 6) dX5_isNew_11 (by decide) ?_
    refine aw_lshl dX5_isNew_13 ?_
    refine aw_aload_n 0 dX5_isNew_14 rfl rfl ?_
    obtain ⟨r2, er2, hf⟩ := b_some hf
    refine aw_getR dX5_isNew_15 gfX5_9 er2 ?_
    refine aw_iload_n 2 dX5_isNew_18 rfl rfl ?_
    obtain ⟨x3, ex3, hf⟩ := b_some hf
    refine aw_iald dX5_isNew_19 ex3 ?_
    refine aw_i2l dX5_isNew_20 ?_
    refine aw_lor dX5_isNew_21 ?_
    obtain ⟨x4, ex4, hf⟩ := b_some hf
    refine aw_nml ex4 ?_
    refine aw_lstore_n (L' := [(1, .long x4), (0, .ref l0), (3, .int l3)]) dX5_isNew_22 rfl (by decide) rfl ?_
    obtain ⟨x5, ex5, hf⟩ := b_some hf
    refine aw_iinc (v := x5) (L' := [(3, .int x5), (1, .long x4), (0, .ref l0)]) 2 dX5_isNew_23 rfl (Option.some.inj ex5) (by decide) rfl ?_
    refine aw_goto (tgt := 4) dX5_isNew_26 (by decide) ?_
    exact aw_sub [2, 1, 0] rfl (hk4 _ _ hf)
def f_X5_isNew (l0 : Nat) (h0 : Hp) : Option (Int32 × Hp) :=
  (ck h0 l0 5).bind fun _ => lp (f_X5_isNew_4) 600 (l0, (0 : Int64), (0 : Int32)) h0
set_option maxRecDepth 100000 in
set_option maxHeartbeats 4000000 in
theorem c_X5_isNew {l0 : Nat} {h0 : Hp} {q : Int32 × Hp} (hf : f_X5_isNew l0 h0 = some q) : Mt 1 yX5_isNew cX5_isNew 4 (some .boolean) [.ref l0] h0 (some (.int q.1)) q.2 := by
  refine MtQ.of (by decide) (Nat.le_of_ble_eq_true rfl) (fun X adr hr hn => ?_)
  unfold f_X5_isNew at hf
  show AW X cX5_isNew 4 RX5 (rmd 1 0 0) (Qmet X 0 0 (Qe (some (.int q.1)) q.2 adr)) 0 0 adr h0 0 [(0, .ref l0)] []
  obtain ⟨u0, e0, hf⟩ := b_some hf
  refine aw_lconst (v := 0) dX5_isNew_0 (by decide) ?_
  refine aw_lstore_n (L' := [(1, .long (0 : Int64)), (0, .ref l0)]) dX5_isNew_1 rfl (by decide) rfl ?_
  refine aw_iconst (v := 0) dX5_isNew_2 (by decide) ?_
  refine aw_istore_n (L' := [(3, .int (0 : Int32)), (1, .long (0 : Int64)), (0, .ref l0)]) dX5_isNew_3 rfl (by decide) rfl ?_
  exact aw_sub [2, 1, 0] rfl (c_X5_isNew_4 hr 600 _ _ hf)
theorem k_X5_isNew {l0 : Nat} {h0 : Hp} {q : Int32 × Hp} (hf : f_X5_isNew l0 h0 = some q) : ck h0 l0 5 = some () := by
  unfold f_X5_isNew at hf
  obtain ⟨u0, e0, hf⟩ := b_some hf
  exact e0
theorem dX5_from_0 : decode cX5_from 0 = .ok (.iload_n 1, 1) := by decide +kernel
theorem dX5_from_1 : decode cX5_from 1 = .ok (.aload_n 0, 1) := by decide +kernel
theorem dX5_from_2 : decode cX5_from 2 = .ok (.getfield 32, 3) := by decide +kernel
theorem dX5_from_5 : decode cX5_from 5 = .ok (.if_icmp .lt 31, 3) := by decide +kernel
theorem dX5_from_8 : decode cX5_from 8 = .ok (.aload_n 3, 1) := by decide +kernel
theorem dX5_from_9 : decode cX5_from 9 = .ok (.ifnonnull 13, 3) := by decide +kernel
theorem dX5_from_12 : decode cX5_from 12 = .ok (.aload_n 0, 1) := by decide +kernel
theorem dX5_from_13 : decode cX5_from 13 = .ok (.invokevirtual 42, 3) := by decide +kernel
theorem dX5_from_16 : decode cX5_from 16 = .ok (.ifCond .eq 18, 3) := by decide +kernel
theorem dX5_from_19 : decode cX5_from 19 = .ok (.goto 11, 3) := by decide +kernel
theorem dX5_from_22 : decode cX5_from 22 = .ok (.aload_n 0, 1) := by decide +kernel
theorem dX5_from_23 : decode cX5_from 23 = .ok (.aload_n 3, 1) := by decide +kernel
theorem dX5_from_24 : decode cX5_from 24 = .ok (.invokevirtual 46, 3) := by decide +kernel
theorem dX5_from_27 : decode cX5_from 27 = .ok (.ifCond .eq 7, 3) := by decide +kernel
theorem dX5_from_30 : decode cX5_from 30 = .ok (.iconst 1, 1) := by decide +kernel
theorem dX5_from_31 : decode cX5_from 31 = .ok (.goto 4, 3) := by decide +kernel
theorem dX5_from_34 : decode cX5_from 34 = .ok (.iconst 0, 1) := by decide +kernel
theorem dX5_from_35 : decode cX5_from 35 = .ok (.ireturn, 1) := by decide +kernel
theorem dX5_from_36 : decode cX5_from 36 = .ok (.iconst 0, 1) := by decide +kernel
theorem dX5_from_37 : decode cX5_from 37 = .ok (.istore 4, 2) := by decide +kernel
theorem dX5_from_39 : decode cX5_from 39 = .ok (.aload_n 2, 1) := by decide +kernel
theorem dX5_from_40 : decode cX5_from 40 = .ok (.invokevirtual 50, 3) := by decide +kernel
theorem dX5_from_43 : decode cX5_from 43 = .ok (.istore 5, 2) := by decide +kernel
theorem dX5_from_45 : decode cX5_from 45 = .ok (.iload 5, 2) := by decide +kernel
theorem dX5_from_47 : decode cX5_from 47 = .ok (.iconst 2, 1) := by decide +kernel
theorem dX5_from_48 : decode cX5_from 48 = .ok (.if_icmp .gt 57, 3) := by decide +kernel
theorem dX5_from_51 : decode cX5_from 51 = .ok (.aload_n 2, 1) := by decide +kernel
theorem dX5_from_52 : decode cX5_from 52 = .ok (.aload_n 0, 1) := by decide +kernel
theorem dX5_from_53 : decode cX5_from 53 = .ok (.getfield 9, 3) := by decide +kernel
theorem dX5_from_56 : decode cX5_from 56 = .ok (.aload_n 0, 1) := by decide +kernel
theorem dX5_from_57 : decode cX5_from 57 = .ok (.getfield 15, 3) := by decide +kernel
theorem dX5_from_60 : decode cX5_from 60 = .ok (.iload_n 1, 1) := by decide +kernel
theorem dX5_from_61 : decode cX5_from 61 = .ok (.iaload, 1) := by decide +kernel
theorem dX5_from_62 : decode cX5_from 62 = .ok (.iload 5, 2) := by decide +kernel
theorem dX5_from_64 : decode cX5_from 64 = .ok (.iconst 1, 1) := by decide +kernel
theorem dX5_from_65 : decode cX5_from 65 = .ok (.invokevirtual 54, 3) := by decide +kernel
theorem dX5_from_68 : decode cX5_from 68 = .ok (.iload 4, 2) := by decide +kernel
theorem dX5_from_70 : decode cX5_from 70 = .ok (.aload_n 0, 1) := by decide +kernel
theorem dX5_from_71 : decode cX5_from 71 = .ok (.iload_n 1, 1) := by decide +kernel
theorem dX5_from_72 : decode cX5_from 72 = .ok (.iconst 1, 1) := by decide +kernel
theorem dX5_from_73 : decode cX5_from 73 = .ok (.iadd, 1) := by decide +kernel
theorem dX5_from_74 : decode cX5_from 74 = .ok (.aload_n 2, 1) := by decide +kernel
theorem dX5_from_75 : decode cX5_from 75 = .ok (.aload_n 3, 1) := by decide +kernel
theorem dX5_from_76 : decode cX5_from 76 = .ok (.invokevirtual 58, 3) := by decide +kernel
theorem dX5_from_79 : decode cX5_from 79 = .ok (.iadd, 1) := by decide +kernel
theorem dX5_from_80 : decode cX5_from 80 = .ok (.istore 4, 2) := by decide +kernel
theorem dX5_from_82 : decode cX5_from 82 = .ok (.aload_n 2, 1) := by decide +kernel
theorem dX5_from_83 : decode cX5_from 83 = .ok (.aload_n 0, 1) := by decide +kernel
theorem dX5_from_84 : decode cX5_from 84 = .ok (.getfield 9, 3) := by decide +kernel
theorem dX5_from_87 : decode cX5_from 87 = .ok (.aload_n 0, 1) := by decide +kernel
theorem dX5_from_88 : decode cX5_from 88 = .ok (.getfield 15, 3) := by decide +kernel
theorem dX5_from_91 : decode cX5_from 91 = .ok (.iload_n 1, 1) := by decide +kernel
theorem dX5_from_92 : decode cX5_from 92 = .ok (.iaload, 1) := by decide +kernel
theorem dX5_from_93 : decode cX5_from 93 = .ok (.iload 5, 2) := by decide +kernel
theorem dX5_from_95 : decode cX5_from 95 = .ok (.iconst (-1), 1) := by decide +kernel
theorem dX5_from_96 : decode cX5_from 96 = .ok (.invokevirtual 54, 3) := by decide +kernel
theorem dX5_from_99 : decode cX5_from 99 = .ok (.iinc 5 1, 3) := by decide +kernel
theorem dX5_from_102 : decode cX5_from 102 = .ok (.goto (-57), 3) := by decide +kernel
theorem dX5_from_105 : decode cX5_from 105 = .ok (.iload 4, 2) := by decide +kernel
theorem dX5_from_107 : decode cX5_from 107 = .ok (.ireturn, 1) := by decide +kernel
def f_X5_fromN_45 (ks : Nat × Int32 × Nat → Hp → Option (Int32 × Hp)) (k45 : Nat × Int32 × Nat × Int32 × Int32 → Hp → Option (Int32 × Hp)) (v : Nat × Int32 × Nat × Int32 × Int32) (h0 : Hp) : Option (Int32 × Hp) :=
  match v with
  | (l0, l1, l2, l4, l5) => if (2 : Int32) < l5 then (some (l4, h0)) else ((gR h0 l0 5 0).bind fun r2 => (gR h0 l0 5 1).bind fun r3 => (aL h0 r3 l1).bind fun x4 => (f_X0_award l2 r2 x4 l5 (1 : Int32) h0).bind fun q5 => (ck q5.2 l0 5).bind fun u7 => (ks (l0, (l1 + (1 : Int32)), l2) q5.2).bind fun q6 => (some (l4 + q6.1)).bind fun x8 => (gR q6.2 l0 5 0).bind fun r9 => (gR q6.2 l0 5 1).bind fun r10 => (aL q6.2 r10 l1).bind fun x11 => (f_X0_award l2 r9 x11 l5 (-1 : Int32) q6.2).bind fun q12 => (some (l5 + 1)).bind fun x13 => k45 (l0, l1, l2, x8, x13) q12.2)
set_option maxRecDepth 100000 in
set_option maxHeartbeats 4000000 in
theorem c_X5_fromN_45 {X : Cx} {adr : Nat → Nat} {q : Int32 × Hp} {d : Nat} (hdd : 1 ≤ d) {ks : Nat × Int32 × Nat → Hp → Option (Int32 × Hp)} (hks : ∀ a h p, ks a h = some p → Mt d yX5_from cX5_from 6 (some .int) [.ref a.1, .int a.2.1, .ref a.2.2, .null] h (some (.int p.1)) p.2) (hr : (mth X).sig.returnType = (some .int)) (n : Nat) : ∀ v h0, lp (f_X5_fromN_45 ks) n v h0 = some q → AW X cX5_from 6 RX5 (rmd (d + 1) 0 0) (Qmet X 0 0 (Qe (some (.int q.1)) q.2 adr)) 0 0 adr h0 45 [(0, .ref v.1), (1, .int v.2.1), (2, .ref v.2.2.1), (3, .null), (4, .int v.2.2.2.1), (5, .int v.2.2.2.2)] [] := by
  refine aw_lp (fun k45 hk45 v h0 hf => ?_) n
  obtain ⟨l0, l1, l2, l4, l5⟩ := v
  unfold f_X5_fromN_45 at hf
  dsimp only at hf
  show AW X cX5_from 6 RX5 (rmd (d + 1) 0 0) (Qmet X 0 0 (Qe (some (.int q.1)) q.2 adr)) 0 0 adr h0 45 [(0, .ref l0), (1, .int l1), (2, .ref l2), (3, .null), (4, .int l4), (5, .int l5)] []
  refine aw_iload 5 dX5_from_45 rfl ?_
  refine aw_iconst (v := 2) dX5_from_47 (by decide) ?_
  refine aw_icmp_gt (tgt := 105) dX5_from_48 (by decide) (fun c1 => ?_) (fun c1 => ?_)
  · have hf := i_pos c1 hf
    refine aw_iload 4 dX5_from_105 rfl ?_
    have hq := Option.some.inj hf
    subst hq
    exact aw_iret hr dX5_from_107 ⟨rfl, rfl, rfl⟩
  · have hf := i_neg c1 hf
    refine aw_aload_n 2 dX5_from_51 rfl rfl ?_
    refine aw_aload_n 0 dX5_from_52 rfl rfl ?_
    obtain ⟨r2, er2, hf⟩ := b_some hf
    refine aw_getR dX5_from_53 gfX5_9 er2 ?_
    refine aw_aload_n 0 dX5_from_56 rfl rfl ?_
    obtain ⟨r3, er3, hf⟩ := b_some hf
    refine aw_getR dX5_from_57 gfX5_15 er3 ?_
    refine aw_iload_n 1 dX5_from_60 rfl rfl ?_
    obtain ⟨x4, ex4, hf⟩ := b_some hf
    refine aw_iald dX5_from_61 ex4 ?_
    refine aw_iload 5 dX5_from_62 rfl ?_
    refine aw_iconst (v := 1) dX5_from_64 (by decide) ?_
    obtain ⟨q5, eq5, hf⟩ := b_some hf
    refine aw_cV0 (as := [.ref r2, .int x4, .int l5, .int (1 : Int32)]) dX5_from_65 moX0_award voX0_award mlX5_54 (k_X0_award eq5) rfl (rm_ok (by omega) (by decide)) ⟨Nat.le_refl _, Nat.le_refl _⟩ (Nat.le_of_ble_eq_true rfl) rfl (c_X0_award eq5) ?_
    refine aw_iload 4 dX5_from_68 rfl ?_
    refine aw_aload_n 0 dX5_from_70 rfl rfl ?_
    refine aw_iload_n 1 dX5_from_71 rfl rfl ?_
    refine aw_iconst (v := 1) dX5_from_72 (by decide) ?_
    refine aw_iadd dX5_from_73 ?_
    refine aw_aload_n 2 dX5_from_74 rfl rfl ?_
    refine aw_aload_nN 3 dX5_from_75 rfl rfl ?_
    obtain ⟨u7, eu7, hf⟩ := b_some hf
    obtain ⟨q6, eq6, hf⟩ := b_some hf
    refine aw_cV (as := [.int (l1 + (1 : Int32)), .ref l2, .null]) dX5_from_76 moX5_from voX5_from mlX5_58 eu7 rfl (rm_ok (by omega) (by decide)) ⟨Nat.le_refl _, Nat.le_refl _⟩ (Nat.le_of_ble_eq_true rfl) rfl (hks _ _ _ eq6) ?_
    refine aw_iadd dX5_from_79 ?_
    obtain ⟨x8, ex8, hf⟩ := b_some hf
    refine aw_nm ex8 ?_
    refine aw_istore (L' := [(4, .int x8), (0, .ref l0), (1, .int l1), (2, .ref l2), (3, .null), (5, .int l5)]) dX5_from_80 (by decide) rfl ?_
    refine aw_aload_n 3 dX5_from_82 rfl rfl ?_
    refine aw_aload_n 1 dX5_from_83 rfl rfl ?_
    obtain ⟨r9, er9, hf⟩ := b_some hf
    refine aw_getR dX5_from_84 gfX5_9 er9 ?_
    refine aw_aload_n 1 dX5_from_87 rfl rfl ?_
    obtain ⟨r10, er10, hf⟩ := b_some hf
    refine aw_getR dX5_from_88 gfX5_15 er10 ?_
    refine aw_iload_n 2 dX5_from_91 rfl rfl ?_
    obtain ⟨x11, ex11, hf⟩ := b_some hf
    refine aw_iald dX5_from_92 ex11 ?_
    refine aw_iload 5 dX5_from_93 rfl ?_
    refine aw_iconst (v := -1) dX5_from_95 (by decide) ?_
    obtain ⟨q12, eq12, hf⟩ := b_some hf
    refine aw_cV0 (as := [.ref r9, .int x11, .int l5, .int (-1 : Int32)]) dX5_from_96 moX0_award voX0_award mlX5_54 (k_X0_award eq12) rfl (rm_ok (by omega) (by decide)) ⟨Nat.le_refl _, Nat.le_refl _⟩ (Nat.le_of_ble_eq_true rfl) rfl (c_X0_award eq12) ?_
    obtain ⟨x13, ex13, hf⟩ := b_some hf
    refine aw_iinc (v := x13) (L' := [(5, .int x13), (4, .int x8), (0, .ref l0), (1, .int l1), (2, .ref l2), (3, .null)]) 5 dX5_from_99 rfl (Option.some.inj ex13) (by decide) rfl ?_
    refine aw_goto (tgt := 45) dX5_from_102 (by decide) ?_
    exact aw_sub [2, 3, 4, 5, 1, 0] rfl (hk45 _ _ hf)
def f_X5_fromN_r (ks : Nat × Int32 × Nat → Hp → Option (Int32 × Hp)) (l0 : Nat) (l1 : Int32) (l2 : Nat) (h0 : Hp) : Option (Int32 × Hp) :=
  (ck h0 l0 5).bind fun _ => (gI h0 l0 5 3).bind fun x1 => if l1 < x1 then ((f_X0_firstResult l2 h0).bind fun q3 => lp (f_X5_fromN_45 ks) 600 (l0, l1, l2, (0 : Int32), q3.1) q3.2) else ((f_X5_isNew l0 h0).bind fun q4 => if q4.1 = 0 then (some ((0 : Int32), q4.2)) else (some ((1 : Int32), q4.2)))
set_option maxRecDepth 100000 in
set_option maxHeartbeats 4000000 in
theorem c_X5_fromN_r {d : Nat} (hdd : 1 ≤ d) {ks : Nat × Int32 × Nat → Hp → Option (Int32 × Hp)} (hks : ∀ a h p, ks a h = some p → Mt d yX5_from cX5_from 6 (some .int) [.ref a.1, .int a.2.1, .ref a.2.2, .null] h (some (.int p.1)) p.2) {l0 : Nat} {l1 : Int32} {l2 : Nat} {h0 : Hp} {q : Int32 × Hp} (hf : f_X5_fromN_r ks l0 l1 l2 h0 = some q) : Mt (d + 1) yX5_from cX5_from 6 (some .int) [.ref l0, .int l1, .ref l2, .null] h0 (some (.int q.1)) q.2 := by
  refine MtQ.of (by decide) (Nat.le_of_ble_eq_true rfl) (fun X adr hr hn => ?_)
  unfold f_X5_fromN_r at hf
  show AW X cX5_from 6 RX5 (rmd (d + 1) 0 0) (Qmet X 0 0 (Qe (some (.int q.1)) q.2 adr)) 0 0 adr h0 0 [(0, .ref l0), (1, .int l1), (2, .ref l2), (3, .null)] []
  obtain ⟨u0, e0, hf⟩ := b_some hf
  refine aw_iload_n 1 dX5_from_0 rfl rfl ?_
  refine aw_aload_n 0 dX5_from_1 rfl rfl ?_
  obtain ⟨x1, ex1, hf⟩ := b_some hf
  refine aw_getI dX5_from_2 gfX5_32 ex1 ?_
  refine aw_icmp_lt (tgt := 36) dX5_from_5 (by decide) (fun c2 => ?_) (fun c2 => ?_)
  · have hf := i_pos c2 hf
    refine aw_iconst (v := 0) dX5_from_36 (by decide) ?_
    refine aw_istore (L' := [(4, .int (0 : Int32)), (0, .ref l0), (1, .int l1), (2, .ref l2), (3, .null)]) dX5_from_37 (by decide) rfl ?_
    refine aw_aload_n 3 dX5_from_39 rfl rfl ?_
    obtain ⟨q3, eq3, hf⟩ := b_some hf
    refine aw_cV (as := []) dX5_from_40 moX0_firstResult voX0_firstResult mlX5_50 (k_X0_firstResult eq3) rfl (rm_ok (by omega) (by decide)) ⟨Nat.le_refl _, Nat.le_refl _⟩ (Nat.le_of_ble_eq_true rfl) rfl (c_X0_firstResult eq3) ?_
    refine aw_istore (L' := [(5, .int q3.1), (4, .int (0 : Int32)), (0, .ref l0), (1, .int l1), (2, .ref l2), (3, .null)]) dX5_from_43 (by decide) rfl ?_
    exact aw_sub [2, 3, 4, 5, 1, 0] rfl (c_X5_fromN_45 hdd hks hr 600 _ _ hf)
  · have hf := i_neg c2 hf
    refine aw_aload_nN 3 dX5_from_8 rfl rfl ?_
    refine aw_ifnonnullN dX5_from_9 ?_
    refine aw_aload_n 0 dX5_from_12 rfl rfl ?_
    obtain ⟨q4, eq4, hf⟩ := b_some hf
    refine aw_cV (as := []) dX5_from_13 moX5_isNew voX5_isNew mlX5_42 (k_X5_isNew eq4) rfl (rm_ok (by omega) (by decide)) ⟨Nat.le_refl _, Nat.le_refl _⟩ (Nat.le_of_ble_eq_true rfl) rfl (c_X5_isNew eq4) ?_
    refine aw_if_eq (tgt := 34) dX5_from_16 (by decide) (fun c5 => ?_) (fun c5 => ?_)
    · have hf := i_pos c5 hf
      refine aw_iconst (v := 0) dX5_from_34 (by decide) ?_
      have hq := Option.some.inj hf
      subst hq
      exact aw_iret hr dX5_from_35 ⟨rfl, rfl, rfl⟩
    · have hf := i_neg c5 hf
      refine aw_goto (tgt := 30) dX5_from_19 (by decide) ?_
      refine aw_iconst (v := 1) dX5_from_30 (by decide) ?_
      refine aw_goto (tgt := 35) dX5_from_31 (by decide) ?_
      have hq := Option.some.inj hf
      subst hq
      exact aw_iret hr dX5_from_35 ⟨rfl, rfl, rfl⟩
def f_X5_fromN (n : Nat) (l0 : Nat) (l1 : Int32) (l2 : Nat) (h0 : Hp) : Option (Int32 × Hp) := lp (fun ks a h => f_X5_fromN_r ks a.1 a.2.1 a.2.2 h) n (l0, l1, l2) h0
theorem c_X5_fromN_l : ∀ (n : Nat) (a : Nat × Int32 × Nat) (h : Hp) (p : Int32 × Hp), lp (fun ks a h => f_X5_fromN_r ks a.1 a.2.1 a.2.2 h) n a h = some p → Mt (1 + 1 * n) yX5_from cX5_from 6 (some .int) [.ref a.1, .int a.2.1, .ref a.2.2, .null] h (some (.int p.1)) p.2
  | 0, _, _, _, hf => by cases hf
  | n + 1, a, h, p, hf => c_X5_fromN_r (d := 1 + 1 * n) (Nat.le_add_right _ _) (c_X5_fromN_l n) hf
theorem c_X5_fromN (n : Nat) {l0 : Nat} {l1 : Int32} {l2 : Nat} {h0 : Hp} {q : Int32 × Hp} (hf : f_X5_fromN n l0 l1 l2 h0 = some q) : Mt (1 + 1 * n) yX5_from cX5_from 6 (some .int) [.ref l0, .int l1, .ref l2, .null] h0 (some (.int q.1)) q.2 := c_X5_fromN_l n _ h0 q hf
theorem k_X5_fromN {n : Nat} {l0 : Nat} {l1 : Int32} {l2 : Nat} {h0 : Hp} {q : Int32 × Hp} (hf : f_X5_fromN n l0 l1 l2 h0 = some q) : ck h0 l0 5 = some () := by
  cases n with
  | zero => cases hf
  | succ n =>
    obtain ⟨u0, e0, hf⟩ := b_some (show (ck h0 l0 5).bind _ = some q from hf)
    exact e0
def f_X5_fromS_45 (ks : Nat × Int32 × Nat × Nat → Hp → Option (Int32 × Hp)) (k45 : Nat × Int32 × Nat × Nat × Int32 × Int32 → Hp → Option (Int32 × Hp)) (v : Nat × Int32 × Nat × Nat × Int32 × Int32) (h0 : Hp) : Option (Int32 × Hp) :=
  match v with
  | (l0, l1, l2, l3, l4, l5) => if (2 : Int32) < l5 then (some (l4, h0)) else ((gR h0 l0 5 0).bind fun r2 => (gR h0 l0 5 1).bind fun r3 => (aL h0 r3 l1).bind fun x4 => (f_X0_award l2 r2 x4 l5 (1 : Int32) h0).bind fun q5 => (ck q5.2 l0 5).bind fun u7 => (ks (l0, (l1 + (1 : Int32)), l2, l3) q5.2).bind fun q6 => (some (l4 + q6.1)).bind fun x8 => (gR q6.2 l0 5 0).bind fun r9 => (gR q6.2 l0 5 1).bind fun r10 => (aL q6.2 r10 l1).bind fun x11 => (f_X0_award l2 r9 x11 l5 (-1 : Int32) q6.2).bind fun q12 => (some (l5 + 1)).bind fun x13 => k45 (l0, l1, l2, l3, x8, x13) q12.2)
set_option maxRecDepth 100000 in
set_option maxHeartbeats 4000000 in
theorem c_X5_fromS_45 {X : Cx} {adr : Nat → Nat} {q : Int32 × Hp} {d : Nat} (hdd : 1 ≤ d) {ks : Nat × Int32 × Nat × Nat → Hp → Option (Int32 × Hp)} (hks : ∀ a h p, ks a h = some p → Mt d yX5_from cX5_from 6 (some .int) [.ref a.1, .int a.2.1, .ref a.2.2.1, .ref a.2.2.2] h (some (.int p.1)) p.2) (hr : (mth X).sig.returnType = (some .int)) (n : Nat) : ∀ v h0, lp (f_X5_fromS_45 ks) n v h0 = some q → AW X cX5_from 6 RX5 (rmd (d + 1) 0 0) (Qmet X 0 0 (Qe (some (.int q.1)) q.2 adr)) 0 0 adr h0 45 [(0, .ref v.1), (1, .int v.2.1), (2, .ref v.2.2.1), (3, .ref v.2.2.2.1), (4, .int v.2.2.2.2.1), (5, .int v.2.2.2.2.2)] [] := by
  refine aw_lp (fun k45 hk45 v h0 hf => ?_) n
  obtain ⟨l0, l1, l2, l3, l4, l5⟩ := v
  unfold f_X5_fromS_45 at hf
  dsimp only at hf
  show AW X cX5_from 6 RX5 (rmd (d + 1) 0 0) (Qmet X 0 0 (Qe (some (.int q.1)) q.2 adr)) 0 0 adr h0 45 [(0, .ref l0), (1, .int l1), (2, .ref l2), (3, .ref l3), (4, .int l4), (5, .int l5)] []
  refine aw_iload 5 dX5_from_45 rfl ?_
  refine aw_iconst (v := 2) dX5_from_47 (by decide) ?_
  refine aw_icmp_gt (tgt := 105) dX5_from_48 (by decide) (fun c1 => ?_) (fun c1 => ?_)
  · have hf := i_pos c1 hf
    refine aw_iload 4 dX5_from_105 rfl ?_
    have hq := Option.some.inj hf
    subst hq
    exact aw_iret hr dX5_from_107 ⟨rfl, rfl, rfl⟩
  · have hf := i_neg c1 hf
    refine aw_aload_n 2 dX5_from_51 rfl rfl ?_
    refine aw_aload_n 0 dX5_from_52 rfl rfl ?_
    obtain ⟨r2, er2, hf⟩ := b_some hf
    refine aw_getR dX5_from_53 gfX5_9 er2 ?_
    refine aw_aload_n 0 dX5_from_56 rfl rfl ?_
    obtain ⟨r3, er3, hf⟩ := b_some hf
    refine aw_getR dX5_from_57 gfX5_15 er3 ?_
    refine aw_iload_n 1 dX5_from_60 rfl rfl ?_
    obtain ⟨x4, ex4, hf⟩ := b_some hf
    refine aw_iald dX5_from_61 ex4 ?_
    refine aw_iload 5 dX5_from_62 rfl ?_
    refine aw_iconst (v := 1) dX5_from_64 (by decide) ?_
    obtain ⟨q5, eq5, hf⟩ := b_some hf
    refine aw_cV0 (as := [.ref r2, .int x4, .int l5, .int (1 : Int32)]) dX5_from_65 moX0_award voX0_award mlX5_54 (k_X0_award eq5) rfl (rm_ok (by omega) (by decide)) ⟨Nat.le_refl _, Nat.le_refl _⟩ (Nat.le_of_ble_eq_true rfl) rfl (c_X0_award eq5) ?_
    refine aw_iload 4 dX5_from_68 rfl ?_
    refine aw_aload_n 0 dX5_from_70 rfl rfl ?_
    refine aw_iload_n 1 dX5_from_71 rfl rfl ?_
    refine aw_iconst (v := 1) dX5_from_72 (by decide) ?_
    refine aw_iadd dX5_from_73 ?_
    refine aw_aload_n 2 dX5_from_74 rfl rfl ?_
    refine aw_aload_n 3 dX5_from_75 rfl rfl ?_
    obtain ⟨u7, eu7, hf⟩ := b_some hf
    obtain ⟨q6, eq6, hf⟩ := b_some hf
    refine aw_cV (as := [.int (l1 + (1 : Int32)), .ref l2, .ref l3]) dX5_from_76 moX5_from voX5_from mlX5_58 eu7 rfl (rm_ok (by omega) (by decide)) ⟨Nat.le_refl _, Nat.le_refl _⟩ (Nat.le_of_ble_eq_true rfl) rfl (hks _ _ _ eq6) ?_
    refine aw_iadd dX5_from_79 ?_
    obtain ⟨x8, ex8, hf⟩ := b_some hf
    refine aw_nm ex8 ?_
    refine aw_istore (L' := [(4, .int x8), (0, .ref l0), (1, .int l1), (2, .ref l2), (3, .ref l3), (5, .int l5)]) dX5_from_80 (by decide) rfl ?_
    refine aw_aload_n 3 dX5_from_82 rfl rfl ?_
    refine aw_aload_n 1 dX5_from_83 rfl rfl ?_
    obtain ⟨r9, er9, hf⟩ := b_some hf
    refine aw_getR dX5_from_84 gfX5_9 er9 ?_
    refine aw_aload_n 1 dX5_from_87 rfl rfl ?_
    obtain ⟨r10, er10, hf⟩ := b_some hf
    refine aw_getR dX5_from_88 gfX5_15 er10 ?_
    refine aw_iload_n 2 dX5_from_91 rfl rfl ?_
    obtain ⟨x11, ex11, hf⟩ := b_some hf
    refine aw_iald dX5_from_92 ex11 ?_
    refine aw_iload 5 dX5_from_93 rfl ?_
    refine aw_iconst (v := -1) dX5_from_95 (by decide) ?_
    obtain ⟨q12, eq12, hf⟩ := b_some hf
    refine aw_cV0 (as := [.ref r9, .int x11, .int l5, .int (-1 : Int32)]) dX5_from_96 moX0_award voX0_award mlX5_54 (k_X0_award eq12) rfl (rm_ok (by omega) (by decide)) ⟨Nat.le_refl _, Nat.le_refl _⟩ (Nat.le_of_ble_eq_true rfl) rfl (c_X0_award eq12) ?_
    obtain ⟨x13, ex13, hf⟩ := b_some hf
    refine aw_iinc (v := x13) (L' := [(5, .int x13), (4, .int x8), (0, .ref l0), (1, .int l1), (2, .ref l2), (3, .ref l3)]) 5 dX5_from_99 rfl (Option.some.inj ex13) (by decide) rfl ?_
    refine aw_goto (tgt := 45) dX5_from_102 (by decide) ?_
    exact aw_sub [2, 3, 4, 5, 1, 0] rfl (hk45 _ _ hf)
def f_X5_fromS_r (ks : Nat × Int32 × Nat × Nat → Hp → Option (Int32 × Hp)) (l0 : Nat) (l1 : Int32) (l2 : Nat) (l3 : Nat) (h0 : Hp) : Option (Int32 × Hp) :=
  (ck h0 l0 5).bind fun _ => (gI h0 l0 5 3).bind fun x1 => if l1 < x1 then ((f_X0_firstResult l2 h0).bind fun q3 => lp (f_X5_fromS_45 ks) 600 (l0, l1, l2, l3, (0 : Int32), q3.1) q3.2) else ((f_X5_isAsTold l0 l3 h0).bind fun q4 => if q4.1 = 0 then (some ((0 : Int32), q4.2)) else (some ((1 : Int32), q4.2)))
set_option maxRecDepth 100000 in
set_option maxHeartbeats 4000000 in
theorem c_X5_fromS_r {d : Nat} (hdd : 1 ≤ d) {ks : Nat × Int32 × Nat × Nat → Hp → Option (Int32 × Hp)} (hks : ∀ a h p, ks a h = some p → Mt d yX5_from cX5_from 6 (some .int) [.ref a.1, .int a.2.1, .ref a.2.2.1, .ref a.2.2.2] h (some (.int p.1)) p.2) {l0 : Nat} {l1 : Int32} {l2 : Nat} {l3 : Nat} {h0 : Hp} {q : Int32 × Hp} (hf : f_X5_fromS_r ks l0 l1 l2 l3 h0 = some q) : Mt (d + 1) yX5_from cX5_from 6 (some .int) [.ref l0, .int l1, .ref l2, .ref l3] h0 (some (.int q.1)) q.2 := by
  refine MtQ.of (by decide) (Nat.le_of_ble_eq_true rfl) (fun X adr hr hn => ?_)
  unfold f_X5_fromS_r at hf
  show AW X cX5_from 6 RX5 (rmd (d + 1) 0 0) (Qmet X 0 0 (Qe (some (.int q.1)) q.2 adr)) 0 0 adr h0 0 [(0, .ref l0), (1, .int l1), (2, .ref l2), (3, .ref l3)] []
  obtain ⟨u0, e0, hf⟩ := b_some hf
  refine aw_iload_n 1 dX5_from_0 rfl rfl ?_
  refine aw_aload_n 0 dX5_from_1 rfl rfl ?_
  obtain ⟨x1, ex1, hf⟩ := b_some hf
  refine aw_getI dX5_from_2 gfX5_32 ex1 ?_
  refine aw_icmp_lt (tgt := 36) dX5_from_5 (by decide) (fun c2 => ?_) (fun c2 => ?_)
  · have hf := i_pos c2 hf
    refine aw_iconst (v := 0) dX5_from_36 (by decide) ?_
    refine aw_istore (L' := [(4, .int (0 : Int32)), (0, .ref l0), (1, .int l1), (2, .ref l2), (3, .ref l3)]) dX5_from_37 (by decide) rfl ?_
    refine aw_aload_n 3 dX5_from_39 rfl rfl ?_
    obtain ⟨q3, eq3, hf⟩ := b_some hf
    refine aw_cV (as := []) dX5_from_40 moX0_firstResult voX0_firstResult mlX5_50 (k_X0_firstResult eq3) rfl (rm_ok (by omega) (by decide)) ⟨Nat.le_refl _, Nat.le_refl _⟩ (Nat.le_of_ble_eq_true rfl) rfl (c_X0_firstResult eq3) ?_
    refine aw_istore (L' := [(5, .int q3.1), (4, .int (0 : Int32)), (0, .ref l0), (1, .int l1), (2, .ref l2), (3, .ref l3)]) dX5_from_43 (by decide) rfl ?_
    exact aw_sub [2, 3, 4, 5, 1, 0] rfl (c_X5_fromS_45 hdd hks hr 600 _ _ hf)
  · have hf := i_neg c2 hf
    refine aw_aload_n 3 dX5_from_8 rfl rfl ?_
    refine aw_ifnonnull (tgt := 22) dX5_from_9 (by decide) ?_
    refine aw_aload_n 0 dX5_from_22 rfl rfl ?_
    refine aw_aload_n 3 dX5_from_23 rfl rfl ?_
    obtain ⟨q4, eq4, hf⟩ := b_some hf
    refine aw_cV (as := [.ref l3]) dX5_from_24 moX5_isAsTold voX5_isAsTold mlX5_46 (k_X5_isAsTold eq4) rfl (rm_ok (by omega) (by decide)) ⟨Nat.le_refl _, Nat.le_refl _⟩ (Nat.le_of_ble_eq_true rfl) rfl (c_X5_isAsTold eq4) ?_
    refine aw_if_eq (tgt := 34) dX5_from_27 (by decide) (fun c5 => ?_) (fun c5 => ?_)
    · have hf := i_pos c5 hf
      refine aw_iconst (v := 0) dX5_from_34 (by decide) ?_
      have hq := Option.some.inj hf
      subst hq
      exact aw_iret hr dX5_from_35 ⟨rfl, rfl, rfl⟩
    · have hf := i_neg c5 hf
      refine aw_iconst (v := 1) dX5_from_30 (by decide) ?_
      refine aw_goto (tgt := 35) dX5_from_31 (by decide) ?_
      have hq := Option.some.inj hf
      subst hq
      exact aw_iret hr dX5_from_35 ⟨rfl, rfl, rfl⟩
def f_X5_fromS (n : Nat) (l0 : Nat) (l1 : Int32) (l2 : Nat) (l3 : Nat) (h0 : Hp) : Option (Int32 × Hp) := lp (fun ks a h => f_X5_fromS_r ks a.1 a.2.1 a.2.2.1 a.2.2.2 h) n (l0, l1, l2, l3) h0
theorem c_X5_fromS_l : ∀ (n : Nat) (a : Nat × Int32 × Nat × Nat) (h : Hp) (p : Int32 × Hp), lp (fun ks a h => f_X5_fromS_r ks a.1 a.2.1 a.2.2.1 a.2.2.2 h) n a h = some p → Mt (1 + 1 * n) yX5_from cX5_from 6 (some .int) [.ref a.1, .int a.2.1, .ref a.2.2.1, .ref a.2.2.2] h (some (.int p.1)) p.2
  | 0, _, _, _, hf => by cases hf
  | n + 1, a, h, p, hf => c_X5_fromS_r (d := 1 + 1 * n) (Nat.le_add_right _ _) (c_X5_fromS_l n) hf
theorem c_X5_fromS (n : Nat) {l0 : Nat} {l1 : Int32} {l2 : Nat} {l3 : Nat} {h0 : Hp} {q : Int32 × Hp} (hf : f_X5_fromS n l0 l1 l2 l3 h0 = some q) : Mt (1 + 1 * n) yX5_from cX5_from 6 (some .int) [.ref l0, .int l1, .ref l2, .ref l3] h0 (some (.int q.1)) q.2 := c_X5_fromS_l n _ h0 q hf
theorem k_X5_fromS {n : Nat} {l0 : Nat} {l1 : Int32} {l2 : Nat} {l3 : Nat} {h0 : Hp} {q : Int32 × Hp} (hf : f_X5_fromS n l0 l1 l2 l3 h0 = some q) : ck h0 l0 5 = some () := by
  cases n with
  | zero => cases hf
  | succ n =>
    obtain ⟨u0, e0, hf⟩ := b_some (show (ck h0 l0 5).bind _ = some q from hf)
    exact e0
theorem dX5_open_0 : decode cX5_open 0 = .ok (.aload_n 1, 1) := by decide +kernel
theorem dX5_open_1 : decode cX5_open 1 = .ok (.aload_n 0, 1) := by decide +kernel
theorem dX5_open_2 : decode cX5_open 2 = .ok (.getfield 9, 3) := by decide +kernel
theorem dX5_open_5 : decode cX5_open 5 = .ok (.invokevirtual 22, 3) := by decide +kernel
theorem dX5_open_8 : decode cX5_open 8 = .ok (.aload_n 0, 1) := by decide +kernel
theorem dX5_open_9 : decode cX5_open 9 = .ok (.iconst 0, 1) := by decide +kernel
theorem dX5_open_10 : decode cX5_open 10 = .ok (.putfield 28, 3) := by decide +kernel
theorem dX5_open_13 : decode cX5_open 13 = .ok (.aload_n 0, 1) := by decide +kernel
theorem dX5_open_14 : decode cX5_open 14 = .ok (.iconst 0, 1) := by decide +kernel
theorem dX5_open_15 : decode cX5_open 15 = .ok (.putfield 32, 3) := by decide +kernel
theorem dX5_open_18 : decode cX5_open 18 = .ok (.iconst 0, 1) := by decide +kernel
theorem dX5_open_19 : decode cX5_open 19 = .ok (.istore_n 2, 1) := by decide +kernel
theorem dX5_open_20 : decode cX5_open 20 = .ok (.iload_n 2, 1) := by decide +kernel
theorem dX5_open_21 : decode cX5_open 21 = .ok (.aload_n 1, 1) := by decide +kernel
theorem dX5_open_22 : decode cX5_open 22 = .ok (.getfield 35, 3) := by decide +kernel
theorem dX5_open_25 : decode cX5_open 25 = .ok (.if_icmp .ge 40, 3) := by decide +kernel
theorem dX5_open_28 : decode cX5_open 28 = .ok (.aload_n 1, 1) := by decide +kernel
theorem dX5_open_29 : decode cX5_open 29 = .ok (.iload_n 2, 1) := by decide +kernel
theorem dX5_open_30 : decode cX5_open 30 = .ok (.invokevirtual 38, 3) := by decide +kernel
theorem dX5_open_33 : decode cX5_open 33 = .ok (.ifCond .ne 6, 3) := by decide +kernel
theorem dX5_open_36 : decode cX5_open 36 = .ok (.goto 23, 3) := by decide +kernel
theorem dX5_open_39 : decode cX5_open 39 = .ok (.aload_n 0, 1) := by decide +kernel
theorem dX5_open_40 : decode cX5_open 40 = .ok (.getfield 15, 3) := by decide +kernel
theorem dX5_open_43 : decode cX5_open 43 = .ok (.aload_n 0, 1) := by decide +kernel
theorem dX5_open_44 : decode cX5_open 44 = .ok (.getfield 32, 3) := by decide +kernel
theorem dX5_open_47 : decode cX5_open 47 = .ok (.iload_n 2, 1) := by decide +kernel
theorem dX5_open_48 : decode cX5_open 48 = .ok (.iastore, 1) := by decide +kernel
theorem dX5_open_49 : decode cX5_open 49 = .ok (.aload_n 0, 1) := by decide +kernel
theorem dX5_open_50 : decode cX5_open 50 = .ok (.dup, 1) := by decide +kernel
theorem dX5_open_51 : decode cX5_open 51 = .ok (.getfield 32, 3) := by decide +kernel
theorem dX5_open_54 : decode cX5_open 54 = .ok (.iconst 1, 1) := by decide +kernel
theorem dX5_open_55 : decode cX5_open 55 = .ok (.iadd, 1) := by decide +kernel
theorem dX5_open_56 : decode cX5_open 56 = .ok (.putfield 32, 3) := by decide +kernel
theorem dX5_open_59 : decode cX5_open 59 = .ok (.iinc 2 1, 3) := by decide +kernel
theorem dX5_open_62 : decode cX5_open 62 = .ok (.goto (-42), 3) := by decide +kernel
theorem dX5_open_65 : decode cX5_open 65 = .ok (.return_, 1) := by decide +kernel
def f_X5_open_20 (k20 : Nat × Nat × Int32 → Hp → Option (Unit × Hp)) (v : Nat × Nat × Int32) (h0 : Hp) : Option (Unit × Hp) :=
  match v with
  | (l0, l1, l2) => (gI h0 l1 0 1).bind fun x1 => if x1 ≤ l2 then (some ((), h0)) else ((f_X0_isLeft l1 l2 h0).bind fun q3 => if q3.1 = 0 then ((some (l2 + 1)).bind fun x11 => k20 (l0, l1, x11) q3.2) else ((gR q3.2 l0 5 1).bind fun r5 => (gI q3.2 l0 5 3).bind fun x6 => (aS q3.2 r5 x6 l2).bind fun h7 => (gI h7 l0 5 3).bind fun x8 => (pI h7 l0 5 3 (x8 + (1 : Int32))).bind fun h9 => (some (l2 + 1)).bind fun x10 => k20 (l0, l1, x10) h9))
set_option maxRecDepth 100000 in
set_option maxHeartbeats 4000000 in
theorem c_X5_open_20 {X : Cx} {adr : Nat → Nat} {q : Unit × Hp} (hr : (mth X).sig.returnType = none) (n : Nat) : ∀ v h0, lp (f_X5_open_20) n v h0 = some q → AW X cX5_open 3 RX5 (rmd 3 0 0) (Qmet X 0 0 (Qe none q.2 adr)) 0 0 adr h0 20 [(0, .ref v.1), (1, .ref v.2.1), (2, .int v.2.2)] [] := by
  refine aw_lp (fun k20 hk20 v h0 hf => ?_) n
  obtain ⟨l0, l1, l2⟩ := v
  unfold f_X5_open_20 at hf
  dsimp only at hf
  show AW X cX5_open 3 RX5 (rmd 3 0 0) (Qmet X 0 0 (Qe none q.2 adr)) 0 0 adr h0 20 [(0, .ref l0), (1, .ref l1), (2, .int l2)] []
  refine aw_iload_n 2 dX5_open_20 rfl rfl ?_
  refine aw_aload_n 1 dX5_open_21 rfl rfl ?_
  obtain ⟨x1, ex1, hf⟩ := b_some hf
  refine aw_getI dX5_open_22 gfX5_35 ex1 ?_
  refine aw_icmp_ge (tgt := 65) dX5_open_25 (by decide) (fun c2 => ?_) (fun c2 => ?_)
  · have hf := i_pos c2 hf
    have hq := Option.some.inj hf
    subst hq
    exact aw_vret hr dX5_open_65 ⟨rfl, rfl, rfl⟩
  · have hf := i_neg c2 hf
    refine aw_aload_n 1 dX5_open_28 rfl rfl ?_
    refine aw_iload_n 2 dX5_open_29 rfl rfl ?_
    obtain ⟨q3, eq3, hf⟩ := b_some hf
    refine aw_cV (as := [.int l2]) dX5_open_30 moX0_isLeft voX0_isLeft mlX5_38 (k_X0_isLeft eq3) rfl (rm_ok (by omega) (by decide)) ⟨Nat.le_refl _, Nat.le_refl _⟩ (Nat.le_of_ble_eq_true rfl) rfl (c_X0_isLeft eq3) ?_
    refine aw_if_ne (tgt := 39) dX5_open_33 (by decide) (fun c4 => ?_) (fun c4 => ?_)
    · have hf := i_neg c4 hf
      refine aw_aload_n 0 dX5_open_39 rfl rfl ?_
      obtain ⟨r5, er5, hf⟩ := b_some hf
      refine aw_getR dX5_open_40 gfX5_15 er5 ?_
      refine aw_aload_n 0 dX5_open_43 rfl rfl ?_
      obtain ⟨x6, ex6, hf⟩ := b_some hf
      refine aw_getI dX5_open_44 gfX5_32 ex6 ?_
      refine aw_iload_n 2 dX5_open_47 rfl rfl ?_
      obtain ⟨h7, eh7, hf⟩ := b_some hf
      refine aw_iast dX5_open_48 eh7 ?_
      refine aw_aload_n 0 dX5_open_49 rfl rfl ?_
      refine aw_dup dX5_open_50 rfl ?_
      obtain ⟨x8, ex8, hf⟩ := b_some hf
      refine aw_getI dX5_open_51 gfX5_32 ex8 ?_
      refine aw_iconst (v := 1) dX5_open_54 (by decide) ?_
      refine aw_iadd dX5_open_55 ?_
      obtain ⟨h9, eh9, hf⟩ := b_some hf
      refine aw_putI dX5_open_56 pfX5_32 eh9 ?_
      obtain ⟨x10, ex10, hf⟩ := b_some hf
      refine aw_iinc (v := x10) (L' := [(2, .int x10), (0, .ref l0), (1, .ref l1)]) 2 dX5_open_59 rfl (Option.some.inj ex10) (by decide) rfl ?_
      refine aw_goto (tgt := 20) dX5_open_62 (by decide) ?_
      exact aw_sub [1, 2, 0] rfl (hk20 _ _ hf)
    · have hf := i_pos c4 hf
      refine aw_goto (tgt := 59) dX5_open_36 (by decide) ?_
      obtain ⟨x11, ex11, hf⟩ := b_some hf
      refine aw_iinc (v := x11) (L' := [(2, .int x11), (0, .ref l0), (1, .ref l1)]) 2 dX5_open_59 rfl (Option.some.inj ex11) (by decide) rfl ?_
      refine aw_goto (tgt := 20) dX5_open_62 (by decide) ?_
      exact aw_sub [1, 2, 0] rfl (hk20 _ _ hf)
def f_X5_open (l0 : Nat) (l1 : Nat) (h0 : Hp) : Option (Unit × Hp) :=
  (ck h0 l0 5).bind fun _ => (gR h0 l0 5 0).bind fun r1 => (f_X0_pointsInto l1 r1 h0).bind fun q2 => (pI q2.2 l0 5 4 (0 : Int32)).bind fun h3 => (pI h3 l0 5 3 (0 : Int32)).bind fun h4 => lp (f_X5_open_20) 600 (l0, l1, (0 : Int32)) h4
set_option maxRecDepth 100000 in
set_option maxHeartbeats 4000000 in
theorem c_X5_open {l0 : Nat} {l1 : Nat} {h0 : Hp} {q : Unit × Hp} (hf : f_X5_open l0 l1 h0 = some q) : Mt 3 yX5_open cX5_open 3 none [.ref l0, .ref l1] h0 none q.2 := by
  refine MtQ.of (by decide) (Nat.le_of_ble_eq_true rfl) (fun X adr hr hn => ?_)
  unfold f_X5_open at hf
  show AW X cX5_open 3 RX5 (rmd 3 0 0) (Qmet X 0 0 (Qe none q.2 adr)) 0 0 adr h0 0 [(0, .ref l0), (1, .ref l1)] []
  obtain ⟨u0, e0, hf⟩ := b_some hf
  refine aw_aload_n 1 dX5_open_0 rfl rfl ?_
  refine aw_aload_n 0 dX5_open_1 rfl rfl ?_
  obtain ⟨r1, er1, hf⟩ := b_some hf
  refine aw_getR dX5_open_2 gfX5_9 er1 ?_
  obtain ⟨q2, eq2, hf⟩ := b_some hf
  refine aw_cV0 (as := [.ref r1]) dX5_open_5 moX0_pointsInto voX0_pointsInto mlX5_22 (k_X0_pointsInto eq2) rfl (rm_ok (by omega) (by decide)) ⟨Nat.le_refl _, Nat.le_refl _⟩ (Nat.le_of_ble_eq_true rfl) rfl (c_X0_pointsInto eq2) ?_
  refine aw_aload_n 0 dX5_open_8 rfl rfl ?_
  refine aw_iconst (v := 0) dX5_open_9 (by decide) ?_
  obtain ⟨h3, eh3, hf⟩ := b_some hf
  refine aw_putI dX5_open_10 pfX5_28 eh3 ?_
  refine aw_aload_n 0 dX5_open_13 rfl rfl ?_
  refine aw_iconst (v := 0) dX5_open_14 (by decide) ?_
  obtain ⟨h4, eh4, hf⟩ := b_some hf
  refine aw_putI dX5_open_15 pfX5_32 eh4 ?_
  refine aw_iconst (v := 0) dX5_open_18 (by decide) ?_
  refine aw_istore_n (L' := [(2, .int (0 : Int32)), (0, .ref l0), (1, .ref l1)]) dX5_open_19 rfl (by decide) rfl ?_
  exact aw_sub [1, 2, 0] rfl (c_X5_open_20 hr 600 _ _ hf)
theorem k_X5_open {l0 : Nat} {l1 : Nat} {h0 : Hp} {q : Unit × Hp} (hf : f_X5_open l0 l1 h0 = some q) : ck h0 l0 5 = some () := by
  unfold f_X5_open at hf
  obtain ⟨u0, e0, hf⟩ := b_some hf
  exact e0
theorem dX6_canWin_0 : decode cX6_canWin 0 = .ok (.aload_n 0, 1) := by decide +kernel
theorem dX6_canWin_1 : decode cX6_canWin 1 = .ok (.getfield 32, 3) := by decide +kernel
theorem dX6_canWin_4 : decode cX6_canWin 4 = .ok (.aload_n 1, 1) := by decide +kernel
theorem dX6_canWin_5 : decode cX6_canWin 5 = .ok (.iload_n 2, 1) := by decide +kernel
theorem dX6_canWin_6 : decode cX6_canWin 6 = .ok (.invokevirtual 155, 3) := by decide +kernel
theorem dX6_canWin_9 : decode cX6_canWin 9 = .ok (.ifCond .le 5, 3) := by decide +kernel
theorem dX6_canWin_12 : decode cX6_canWin 12 = .ok (.iconst 0, 1) := by decide +kernel
theorem dX6_canWin_13 : decode cX6_canWin 13 = .ok (.ireturn, 1) := by decide +kernel
theorem dX6_canWin_14 : decode cX6_canWin 14 = .ok (.aload_n 1, 1) := by decide +kernel
theorem dX6_canWin_15 : decode cX6_canWin 15 = .ok (.getfield 90, 3) := by decide +kernel
theorem dX6_canWin_18 : decode cX6_canWin 18 = .ok (.iconst 2, 1) := by decide +kernel
theorem dX6_canWin_19 : decode cX6_canWin 19 = .ok (.if_icmp .eq 5, 3) := by decide +kernel
theorem dX6_canWin_22 : decode cX6_canWin 22 = .ok (.iconst 1, 1) := by decide +kernel
theorem dX6_canWin_23 : decode cX6_canWin 23 = .ok (.ireturn, 1) := by decide +kernel
theorem dX6_canWin_24 : decode cX6_canWin 24 = .ok (.aload_n 0, 1) := by decide +kernel
theorem dX6_canWin_25 : decode cX6_canWin 25 = .ok (.getfield 39, 3) := by decide +kernel
theorem dX6_canWin_28 : decode cX6_canWin 28 = .ok (.aload_n 1, 1) := by decide +kernel
theorem dX6_canWin_29 : decode cX6_canWin 29 = .ok (.iload_n 2, 1) := by decide +kernel
theorem dX6_canWin_30 : decode cX6_canWin 30 = .ok (.aload_n 1, 1) := by decide +kernel
theorem dX6_canWin_31 : decode cX6_canWin 31 = .ok (.iload_n 2, 1) := by decide +kernel
theorem dX6_canWin_32 : decode cX6_canWin 32 = .ok (.invokevirtual 119, 3) := by decide +kernel
theorem dX6_canWin_35 : decode cX6_canWin 35 = .ok (.invokevirtual 164, 3) := by decide +kernel
theorem dX6_canWin_38 : decode cX6_canWin 38 = .ok (.aload_n 0, 1) := by decide +kernel
theorem dX6_canWin_39 : decode cX6_canWin 39 = .ok (.getfield 39, 3) := by decide +kernel
theorem dX6_canWin_42 : decode cX6_canWin 42 = .ok (.invokevirtual 168, 3) := by decide +kernel
theorem dX6_canWin_45 : decode cX6_canWin 45 = .ok (.ireturn, 1) := by decide +kernel
def f_X6_canWin (l0 : Nat) (l1 : Nat) (l2 : Int32) (h0 : Hp) : Option (Int32 × Hp) :=
  (ck h0 l0 6).bind fun _ => (gR h0 l0 6 4).bind fun r1 => (f_X3_find r1 l1 l2 h0).bind fun q2 => if q2.1 ≤ 0 then ((gI q2.2 l1 0 2).bind fun x4 => if x4 = (2 : Int32) then ((gR q2.2 l0 6 5).bind fun r6 => (f_X0_leftOf l1 l2 q2.2).bind fun q7 => (f_X1_open r6 l1 l2 q7.1 q7.2).bind fun q8 => (gR q8.2 l0 6 5).bind fun r9 => (f_X1_canEnd r9 q8.2).bind fun q10 => (bz q10.1).bind fun u11 => some (q10.1, q10.2)) else (some ((1 : Int32), q2.2))) else (some ((0 : Int32), q2.2))
set_option maxRecDepth 100000 in
set_option maxHeartbeats 4000000 in
theorem c_X6_canWin {l0 : Nat} {l1 : Nat} {l2 : Int32} {h0 : Hp} {q : Int32 × Hp} (hf : f_X6_canWin l0 l1 l2 h0 = some q) : Mt 27 yX6_canWin cX6_canWin 3 (some .boolean) [.ref l0, .ref l1, .int l2] h0 (some (.int q.1)) q.2 := by
  refine MtQ.of (by decide) (Nat.le_of_ble_eq_true rfl) (fun X adr hr hn => ?_)
  unfold f_X6_canWin at hf
  show AW X cX6_canWin 3 RX6 (rmd 27 0 0) (Qmet X 0 0 (Qe (some (.int q.1)) q.2 adr)) 0 0 adr h0 0 [(0, .ref l0), (1, .ref l1), (2, .int l2)] []
  obtain ⟨u0, e0, hf⟩ := b_some hf
  refine aw_aload_n 0 dX6_canWin_0 rfl rfl ?_
  obtain ⟨r1, er1, hf⟩ := b_some hf
  refine aw_getR dX6_canWin_1 gfX6_32 er1 ?_
  refine aw_aload_n 1 dX6_canWin_4 rfl rfl ?_
  refine aw_iload_n 2 dX6_canWin_5 rfl rfl ?_
  obtain ⟨q2, eq2, hf⟩ := b_some hf
  refine aw_cV (as := [.ref l1, .int l2]) dX6_canWin_6 moX3_find voX3_find mlX6_155 (k_X3_find eq2) rfl (rm_ok (by omega) (by decide)) ⟨Nat.le_refl _, Nat.le_refl _⟩ (Nat.le_of_ble_eq_true rfl) rfl (c_X3_find eq2) ?_
  refine aw_if_le (tgt := 14) dX6_canWin_9 (by decide) (fun c3 => ?_) (fun c3 => ?_)
  · have hf := i_pos c3 hf
    refine aw_aload_n 1 dX6_canWin_14 rfl rfl ?_
    obtain ⟨x4, ex4, hf⟩ := b_some hf
    refine aw_getI dX6_canWin_15 gfX6_90 ex4 ?_
    refine aw_iconst (v := 2) dX6_canWin_18 (by decide) ?_
    refine aw_icmp_eq (tgt := 24) dX6_canWin_19 (by decide) (fun c5 => ?_) (fun c5 => ?_)
    · have hf := i_pos c5 hf
      refine aw_aload_n 0 dX6_canWin_24 rfl rfl ?_
      obtain ⟨r6, er6, hf⟩ := b_some hf
      refine aw_getR dX6_canWin_25 gfX6_39 er6 ?_
      refine aw_aload_n 1 dX6_canWin_28 rfl rfl ?_
      refine aw_iload_n 2 dX6_canWin_29 rfl rfl ?_
      refine aw_aload_n 1 dX6_canWin_30 rfl rfl ?_
      refine aw_iload_n 2 dX6_canWin_31 rfl rfl ?_
      obtain ⟨q7, eq7, hf⟩ := b_some hf
      refine aw_cV (as := [.int l2]) dX6_canWin_32 moX0_leftOf voX0_leftOf mlX6_119 (k_X0_leftOf eq7) rfl (rm_ok (by omega) (by decide)) ⟨Nat.le_refl _, Nat.le_refl _⟩ (Nat.le_of_ble_eq_true rfl) rfl (c_X0_leftOf eq7) ?_
      obtain ⟨q8, eq8, hf⟩ := b_some hf
      refine aw_cV0 (as := [.ref l1, .int l2, .int q7.1]) dX6_canWin_35 moX1_open voX1_open mlX6_164 (k_X1_open eq8) rfl (rm_ok (by omega) (by decide)) ⟨Nat.le_refl _, Nat.le_refl _⟩ (Nat.le_of_ble_eq_true rfl) rfl (c_X1_open eq8) ?_
      refine aw_aload_n 0 dX6_canWin_38 rfl rfl ?_
      obtain ⟨r9, er9, hf⟩ := b_some hf
      refine aw_getR dX6_canWin_39 gfX6_39 er9 ?_
      obtain ⟨q10, eq10, hf⟩ := b_some hf
      refine aw_cV (as := []) dX6_canWin_42 moX1_canEnd voX1_canEnd mlX6_168 (k_X1_canEnd eq10) rfl (rm_ok (by omega) (by decide)) ⟨Nat.le_refl _, Nat.le_refl _⟩ (Nat.le_of_ble_eq_true rfl) rfl (c_X1_canEnd eq10) ?_
      obtain ⟨u11, eu11, hf⟩ := b_some hf
      have hq := Option.some.inj hf
      subst hq
      exact aw_zret hr (bz_nar eu11) dX6_canWin_45 ⟨rfl, rfl, rfl⟩
    · have hf := i_neg c5 hf
      refine aw_iconst (v := 1) dX6_canWin_22 (by decide) ?_
      have hq := Option.some.inj hf
      subst hq
      exact aw_zret hr (by decide) dX6_canWin_23 ⟨rfl, rfl, rfl⟩
  · have hf := i_neg c3 hf
    refine aw_iconst (v := 0) dX6_canWin_12 (by decide) ?_
    have hq := Option.some.inj hf
    subst hq
    exact aw_zret hr (by decide) dX6_canWin_13 ⟨rfl, rfl, rfl⟩
theorem k_X6_canWin {l0 : Nat} {l1 : Nat} {l2 : Int32} {h0 : Hp} {q : Int32 × Hp} (hf : f_X6_canWin l0 l1 l2 h0 = some q) : ck h0 l0 6 = some () := by
  unfold f_X6_canWin at hf
  obtain ⟨u0, e0, hf⟩ := b_some hf
  exact e0
theorem dX6_whoCanWin_0 : decode cX6_whoCanWin 0 = .ok (.iconst 0, 1) := by decide +kernel
theorem dX6_whoCanWin_1 : decode cX6_whoCanWin 1 = .ok (.istore_n 2, 1) := by decide +kernel
theorem dX6_whoCanWin_2 : decode cX6_whoCanWin 2 = .ok (.iconst 0, 1) := by decide +kernel
theorem dX6_whoCanWin_3 : decode cX6_whoCanWin 3 = .ok (.istore_n 3, 1) := by decide +kernel
theorem dX6_whoCanWin_4 : decode cX6_whoCanWin 4 = .ok (.iload_n 3, 1) := by decide +kernel
theorem dX6_whoCanWin_5 : decode cX6_whoCanWin 5 = .ok (.aload_n 1, 1) := by decide +kernel
theorem dX6_whoCanWin_6 : decode cX6_whoCanWin 6 = .ok (.getfield 215, 3) := by decide +kernel
theorem dX6_whoCanWin_9 : decode cX6_whoCanWin 9 = .ok (.if_icmp .ge 24, 3) := by decide +kernel
theorem dX6_whoCanWin_12 : decode cX6_whoCanWin 12 = .ok (.aload_n 0, 1) := by decide +kernel
theorem dX6_whoCanWin_13 : decode cX6_whoCanWin 13 = .ok (.aload_n 1, 1) := by decide +kernel
theorem dX6_whoCanWin_14 : decode cX6_whoCanWin 14 = .ok (.iload_n 3, 1) := by decide +kernel
theorem dX6_whoCanWin_15 : decode cX6_whoCanWin 15 = .ok (.invokevirtual 144, 3) := by decide +kernel
theorem dX6_whoCanWin_18 : decode cX6_whoCanWin 18 = .ok (.ifCond .eq 9, 3) := by decide +kernel
theorem dX6_whoCanWin_21 : decode cX6_whoCanWin 21 = .ok (.iload_n 2, 1) := by decide +kernel
theorem dX6_whoCanWin_22 : decode cX6_whoCanWin 22 = .ok (.iconst 1, 1) := by decide +kernel
theorem dX6_whoCanWin_23 : decode cX6_whoCanWin 23 = .ok (.iload_n 3, 1) := by decide +kernel
theorem dX6_whoCanWin_24 : decode cX6_whoCanWin 24 = .ok (.ishl, 1) := by decide +kernel
theorem dX6_whoCanWin_25 : decode cX6_whoCanWin 25 = .ok (.ior, 1) := by decide +kernel
theorem dX6_whoCanWin_26 : decode cX6_whoCanWin 26 = .ok (.istore_n 2, 1) := by decide +kernel
theorem dX6_whoCanWin_27 : decode cX6_whoCanWin 27 = .ok (.iinc 3 1, 3) := by decide +kernel
theorem dX6_whoCanWin_30 : decode cX6_whoCanWin 30 = .ok (.goto (-26), 3) := by decide +kernel
theorem dX6_whoCanWin_33 : decode cX6_whoCanWin 33 = .ok (.iload_n 2, 1) := by decide +kernel
theorem dX6_whoCanWin_34 : decode cX6_whoCanWin 34 = .ok (.ireturn, 1) := by decide +kernel
def f_X6_whoCanWin_4 (k4 : Nat × Nat × Int32 × Int32 → Hp → Option (Int32 × Hp)) (v : Nat × Nat × Int32 × Int32) (h0 : Hp) : Option (Int32 × Hp) :=
  match v with
  | (l0, l1, l2, l3) => (gI h0 l1 0 0).bind fun x1 => if x1 ≤ l3 then (some (l2, h0)) else ((f_X6_canWin l0 l1 l3 h0).bind fun q3 => if q3.1 = 0 then ((some (l3 + 1)).bind fun x5 => k4 (l0, l1, l2, x5) q3.2) else ((some (l2 ||| ((1 : Int32) <<< (l3 &&& 31)))).bind fun x6 => (some (l3 + 1)).bind fun x7 => k4 (l0, l1, x6, x7) q3.2))
set_option maxRecDepth 100000 in
set_option maxHeartbeats 4000000 in
theorem c_X6_whoCanWin_4 {X : Cx} {adr : Nat → Nat} {q : Int32 × Hp} (hr : (mth X).sig.returnType = (some .int)) (n : Nat) : ∀ v h0, lp (f_X6_whoCanWin_4) n v h0 = some q → AW X cX6_whoCanWin 4 RX6 (rmd 28 0 0) (Qmet X 0 0 (Qe (some (.int q.1)) q.2 adr)) 0 0 adr h0 4 [(0, .ref v.1), (1, .ref v.2.1), (2, .int v.2.2.1), (3, .int v.2.2.2)] [] := by
  refine aw_lp (fun k4 hk4 v h0 hf => ?_) n
  obtain ⟨l0, l1, l2, l3⟩ := v
  unfold f_X6_whoCanWin_4 at hf
  dsimp only at hf
  show AW X cX6_whoCanWin 4 RX6 (rmd 28 0 0) (Qmet X 0 0 (Qe (some (.int q.1)) q.2 adr)) 0 0 adr h0 4 [(0, .ref l0), (1, .ref l1), (2, .int l2), (3, .int l3)] []
  refine aw_iload_n 3 dX6_whoCanWin_4 rfl rfl ?_
  refine aw_aload_n 1 dX6_whoCanWin_5 rfl rfl ?_
  obtain ⟨x1, ex1, hf⟩ := b_some hf
  refine aw_getI dX6_whoCanWin_6 gfX6_215 ex1 ?_
  refine aw_icmp_ge (tgt := 33) dX6_whoCanWin_9 (by decide) (fun c2 => ?_) (fun c2 => ?_)
  · have hf := i_pos c2 hf
    refine aw_iload_n 2 dX6_whoCanWin_33 rfl rfl ?_
    have hq := Option.some.inj hf
    subst hq
    exact aw_iret hr dX6_whoCanWin_34 ⟨rfl, rfl, rfl⟩
  · have hf := i_neg c2 hf
    refine aw_aload_n 0 dX6_whoCanWin_12 rfl rfl ?_
    refine aw_aload_n 1 dX6_whoCanWin_13 rfl rfl ?_
    refine aw_iload_n 3 dX6_whoCanWin_14 rfl rfl ?_
    obtain ⟨q3, eq3, hf⟩ := b_some hf
    refine aw_cV (as := [.ref l1, .int l3]) dX6_whoCanWin_15 moX6_canWin voX6_canWin mlX6_144 (k_X6_canWin eq3) rfl (rm_ok (by omega) (by decide)) ⟨Nat.le_refl _, Nat.le_refl _⟩ (Nat.le_of_ble_eq_true rfl) rfl (c_X6_canWin eq3) ?_
    refine aw_if_eq (tgt := 27) dX6_whoCanWin_18 (by decide) (fun c4 => ?_) (fun c4 => ?_)
    · have hf := i_pos c4 hf
      obtain ⟨x5, ex5, hf⟩ := b_some hf
      refine aw_iinc (v := x5) (L' := [(3, .int x5), (0, .ref l0), (1, .ref l1), (2, .int l2)]) 3 dX6_whoCanWin_27 rfl (Option.some.inj ex5) (by decide) rfl ?_
      refine aw_goto (tgt := 4) dX6_whoCanWin_30 (by decide) ?_
      exact aw_sub [1, 2, 3, 0] rfl (hk4 _ _ hf)
    · have hf := i_neg c4 hf
      refine aw_iload_n 2 dX6_whoCanWin_21 rfl rfl ?_
      refine aw_iconst (v := 1) dX6_whoCanWin_22 (by decide) ?_
      refine aw_iload_n 3 dX6_whoCanWin_23 rfl rfl ?_
      refine aw_ishl dX6_whoCanWin_24 ?_
      refine aw_ior dX6_whoCanWin_25 ?_
      obtain ⟨x6, ex6, hf⟩ := b_some hf
      refine aw_nm ex6 ?_
      refine aw_istore_n (L' := [(2, .int x6), (0, .ref l0), (1, .ref l1), (3, .int l3)]) dX6_whoCanWin_26 rfl (by decide) rfl ?_
      obtain ⟨x7, ex7, hf⟩ := b_some hf
      refine aw_iinc (v := x7) (L' := [(3, .int x7), (2, .int x6), (0, .ref l0), (1, .ref l1)]) 3 dX6_whoCanWin_27 rfl (Option.some.inj ex7) (by decide) rfl ?_
      refine aw_goto (tgt := 4) dX6_whoCanWin_30 (by decide) ?_
      exact aw_sub [2, 3, 1, 0] rfl (hk4 _ _ hf)
def f_X6_whoCanWin (l0 : Nat) (l1 : Nat) (h0 : Hp) : Option (Int32 × Hp) :=
  (ck h0 l0 6).bind fun _ => lp (f_X6_whoCanWin_4) 600 (l0, l1, (0 : Int32), (0 : Int32)) h0
set_option maxRecDepth 100000 in
set_option maxHeartbeats 4000000 in
theorem c_X6_whoCanWin {l0 : Nat} {l1 : Nat} {h0 : Hp} {q : Int32 × Hp} (hf : f_X6_whoCanWin l0 l1 h0 = some q) : Mt 28 yX6_whoCanWin cX6_whoCanWin 4 (some .int) [.ref l0, .ref l1] h0 (some (.int q.1)) q.2 := by
  refine MtQ.of (by decide) (Nat.le_of_ble_eq_true rfl) (fun X adr hr hn => ?_)
  unfold f_X6_whoCanWin at hf
  show AW X cX6_whoCanWin 4 RX6 (rmd 28 0 0) (Qmet X 0 0 (Qe (some (.int q.1)) q.2 adr)) 0 0 adr h0 0 [(0, .ref l0), (1, .ref l1)] []
  obtain ⟨u0, e0, hf⟩ := b_some hf
  refine aw_iconst (v := 0) dX6_whoCanWin_0 (by decide) ?_
  refine aw_istore_n (L' := [(2, .int (0 : Int32)), (0, .ref l0), (1, .ref l1)]) dX6_whoCanWin_1 rfl (by decide) rfl ?_
  refine aw_iconst (v := 0) dX6_whoCanWin_2 (by decide) ?_
  refine aw_istore_n (L' := [(3, .int (0 : Int32)), (2, .int (0 : Int32)), (0, .ref l0), (1, .ref l1)]) dX6_whoCanWin_3 rfl (by decide) rfl ?_
  exact aw_sub [2, 3, 1, 0] rfl (c_X6_whoCanWin_4 hr 600 _ _ hf)
theorem k_X6_whoCanWin {l0 : Nat} {l1 : Nat} {h0 : Hp} {q : Int32 × Hp} (hf : f_X6_whoCanWin l0 l1 h0 = some q) : ck h0 l0 6 = some () := by
  unfold f_X6_whoCanWin at hf
  obtain ⟨u0, e0, hf⟩ := b_some hf
  exact e0
theorem dX6_all_0 : decode cX6_all 0 = .ok (.aload_n 0, 1) := by decide +kernel
theorem dX6_all_1 : decode cX6_all 1 = .ok (.aload_n 0, 1) := by decide +kernel
theorem dX6_all_2 : decode cX6_all 2 = .ok (.getfield 19, 3) := by decide +kernel
theorem dX6_all_5 : decode cX6_all 5 = .ok (.invokevirtual 148, 3) := by decide +kernel
theorem dX6_all_8 : decode cX6_all 8 = .ok (.ireturn, 1) := by decide +kernel
def f_X6_all (l0 : Nat) (h0 : Hp) : Option (Int32 × Hp) :=
  (ck h0 l0 6).bind fun _ => (gR h0 l0 6 1).bind fun r1 => (f_X6_whoCanWin l0 r1 h0).bind fun q2 => some (q2.1, q2.2)
set_option maxRecDepth 100000 in
set_option maxHeartbeats 4000000 in
theorem c_X6_all {l0 : Nat} {h0 : Hp} {q : Int32 × Hp} (hf : f_X6_all l0 h0 = some q) : Mt 29 yX6_all cX6_all 1 (some .int) [.ref l0] h0 (some (.int q.1)) q.2 := by
  refine MtQ.of (by decide) (Nat.le_of_ble_eq_true rfl) (fun X adr hr hn => ?_)
  unfold f_X6_all at hf
  show AW X cX6_all 1 RX6 (rmd 29 0 0) (Qmet X 0 0 (Qe (some (.int q.1)) q.2 adr)) 0 0 adr h0 0 [(0, .ref l0)] []
  obtain ⟨u0, e0, hf⟩ := b_some hf
  refine aw_aload_n 0 dX6_all_0 rfl rfl ?_
  refine aw_aload_n 0 dX6_all_1 rfl rfl ?_
  obtain ⟨r1, er1, hf⟩ := b_some hf
  refine aw_getR dX6_all_2 gfX6_19 er1 ?_
  obtain ⟨q2, eq2, hf⟩ := b_some hf
  refine aw_cV (as := [.ref r1]) dX6_all_5 moX6_whoCanWin voX6_whoCanWin mlX6_148 (k_X6_whoCanWin eq2) rfl (rm_ok (by omega) (by decide)) ⟨Nat.le_refl _, Nat.le_refl _⟩ (Nat.le_of_ble_eq_true rfl) rfl (c_X6_whoCanWin eq2) ?_
  have hq := Option.some.inj hf
  subst hq
  exact aw_iret hr dX6_all_8 ⟨rfl, rfl, rfl⟩
theorem k_X6_all {l0 : Nat} {h0 : Hp} {q : Int32 × Hp} (hf : f_X6_all l0 h0 = some q) : ck h0 l0 6 = some () := by
  unfold f_X6_all at hf
  obtain ⟨u0, e0, hf⟩ := b_some hf
  exact e0
theorem dX6_back_0 : decode cX6_back 0 = .ok (.aload_n 0, 1) := by decide +kernel
theorem dX6_back_1 : decode cX6_back 1 = .ok (.getfield 241, 3) := by decide +kernel
theorem dX6_back_4 : decode cX6_back 4 = .ok (.ifCond .ne 6, 3) := by decide +kernel
theorem dX6_back_7 : decode cX6_back 7 = .ok (.bipush (-3), 2) := by decide +kernel
theorem dX6_back_9 : decode cX6_back 9 = .ok (.ireturn, 1) := by decide +kernel
theorem dX6_back_10 : decode cX6_back 10 = .ok (.aload_n 0, 1) := by decide +kernel
theorem dX6_back_11 : decode cX6_back 11 = .ok (.getfield 19, 3) := by decide +kernel
theorem dX6_back_14 : decode cX6_back 14 = .ok (.aload_n 0, 1) := by decide +kernel
theorem dX6_back_15 : decode cX6_back 15 = .ok (.getfield 23, 3) := by decide +kernel
theorem dX6_back_18 : decode cX6_back 18 = .ok (.invokevirtual 190, 3) := by decide +kernel
theorem dX6_back_21 : decode cX6_back 21 = .ok (.aload_n 0, 1) := by decide +kernel
theorem dX6_back_22 : decode cX6_back 22 = .ok (.getfield 19, 3) := by decide +kernel
theorem dX6_back_25 : decode cX6_back 25 = .ok (.getfield 135, 3) := by decide +kernel
theorem dX6_back_28 : decode cX6_back 28 = .ok (.ireturn, 1) := by decide +kernel
def f_X6_back (l0 : Nat) (h0 : Hp) : Option (Int32 × Hp) :=
  (ck h0 l0 6).bind fun _ => (gI h0 l0 6 9).bind fun x1 => if x1 = 0 then (some ((-3 : Int32), h0)) else ((gR h0 l0 6 1).bind fun r3 => (gR h0 l0 6 2).bind fun r4 => (f_X0_takeFrom r3 r4 h0).bind fun q5 => (gR q5.2 l0 6 1).bind fun r6 => (gI q5.2 r6 0 1).bind fun x7 => some (x7, q5.2))
set_option maxRecDepth 100000 in
set_option maxHeartbeats 4000000 in
theorem c_X6_back {l0 : Nat} {h0 : Hp} {q : Int32 × Hp} (hf : f_X6_back l0 h0 = some q) : Mt 3 yX6_back cX6_back 1 (some .int) [.ref l0] h0 (some (.int q.1)) q.2 := by
  refine MtQ.of (by decide) (Nat.le_of_ble_eq_true rfl) (fun X adr hr hn => ?_)
  unfold f_X6_back at hf
  show AW X cX6_back 1 RX6 (rmd 3 0 0) (Qmet X 0 0 (Qe (some (.int q.1)) q.2 adr)) 0 0 adr h0 0 [(0, .ref l0)] []
  obtain ⟨u0, e0, hf⟩ := b_some hf
  refine aw_aload_n 0 dX6_back_0 rfl rfl ?_
  obtain ⟨x1, ex1, hf⟩ := b_some hf
  refine aw_getI dX6_back_1 gfX6_241 ex1 ?_
  refine aw_if_ne (tgt := 10) dX6_back_4 (by decide) (fun c2 => ?_) (fun c2 => ?_)
  · have hf := i_neg c2 hf
    refine aw_aload_n 0 dX6_back_10 rfl rfl ?_
    obtain ⟨r3, er3, hf⟩ := b_some hf
    refine aw_getR dX6_back_11 gfX6_19 er3 ?_
    refine aw_aload_n 0 dX6_back_14 rfl rfl ?_
    obtain ⟨r4, er4, hf⟩ := b_some hf
    refine aw_getR dX6_back_15 gfX6_23 er4 ?_
    obtain ⟨q5, eq5, hf⟩ := b_some hf
    refine aw_cV0 (as := [.ref r4]) dX6_back_18 moX0_takeFrom voX0_takeFrom mlX6_190 (k_X0_takeFrom eq5) rfl (rm_ok (by omega) (by decide)) ⟨Nat.le_refl _, Nat.le_refl _⟩ (Nat.le_of_ble_eq_true rfl) rfl (c_X0_takeFrom eq5) ?_
    refine aw_aload_n 0 dX6_back_21 rfl rfl ?_
    obtain ⟨r6, er6, hf⟩ := b_some hf
    refine aw_getR dX6_back_22 gfX6_19 er6 ?_
    obtain ⟨x7, ex7, hf⟩ := b_some hf
    refine aw_getI dX6_back_25 gfX6_135 ex7 ?_
    have hq := Option.some.inj hf
    subst hq
    exact aw_iret hr dX6_back_28 ⟨rfl, rfl, rfl⟩
  · have hf := i_pos c2 hf
    refine aw_bipush (v := -3) dX6_back_7 (by decide) ?_
    have hq := Option.some.inj hf
    subst hq
    exact aw_iret hr dX6_back_9 ⟨rfl, rfl, rfl⟩
theorem k_X6_back {l0 : Nat} {h0 : Hp} {q : Int32 × Hp} (hf : f_X6_back l0 h0 = some q) : ck h0 l0 6 = some () := by
  unfold f_X6_back at hf
  obtain ⟨u0, e0, hf⟩ := b_some hf
  exact e0
