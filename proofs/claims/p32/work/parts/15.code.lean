theorem dX7_comesTeam_0 : decode cX7_comesTeam 0 = .ok (.aload_n 0, 1) := by decide +kernel
theorem dX7_comesTeam_1 : decode cX7_comesTeam 1 = .ok (.getfield 146, 3) := by decide +kernel
theorem dX7_comesTeam_4 : decode cX7_comesTeam 4 = .ok (.istore_n 1, 1) := by decide +kernel
theorem dX7_comesTeam_5 : decode cX7_comesTeam 5 = .ok (.aload_n 0, 1) := by decide +kernel
theorem dX7_comesTeam_6 : decode cX7_comesTeam 6 = .ok (.getfield 149, 3) := by decide +kernel
theorem dX7_comesTeam_9 : decode cX7_comesTeam 9 = .ok (.aload_n 0, 1) := by decide +kernel
theorem dX7_comesTeam_10 : decode cX7_comesTeam 10 = .ok (.getfield 146, 3) := by decide +kernel
theorem dX7_comesTeam_13 : decode cX7_comesTeam 13 = .ok (.isub, 1) := by decide +kernel
theorem dX7_comesTeam_14 : decode cX7_comesTeam 14 = .ok (.istore_n 2, 1) := by decide +kernel
theorem dX7_comesTeam_15 : decode cX7_comesTeam 15 = .ok (.aload_n 0, 1) := by decide +kernel
theorem dX7_comesTeam_16 : decode cX7_comesTeam 16 = .ok (.invokevirtual 186, 3) := by decide +kernel
theorem dX7_comesTeam_19 : decode cX7_comesTeam 19 = .ok (.ifCond .ne 8, 3) := by decide +kernel
theorem dX7_comesTeam_22 : decode cX7_comesTeam 22 = .ok (.aload_n 0, 1) := by decide +kernel
theorem dX7_comesTeam_23 : decode cX7_comesTeam 23 = .ok (.invokevirtual 167, 3) := by decide +kernel
theorem dX7_comesTeam_26 : decode cX7_comesTeam 26 = .ok (.ireturn, 1) := by decide +kernel
theorem dX7_comesTeam_27 : decode cX7_comesTeam 27 = .ok (.aload_n 0, 1) := by decide +kernel
theorem dX7_comesTeam_28 : decode cX7_comesTeam 28 = .ok (.iconst 0, 1) := by decide +kernel
theorem dX7_comesTeam_29 : decode cX7_comesTeam 29 = .ok (.putfield 129, 3) := by decide +kernel
theorem dX7_comesTeam_32 : decode cX7_comesTeam 32 = .ok (.aload_n 0, 1) := by decide +kernel
theorem dX7_comesTeam_33 : decode cX7_comesTeam 33 = .ok (.getfield 9, 3) := by decide +kernel
theorem dX7_comesTeam_36 : decode cX7_comesTeam 36 = .ok (.iconst 0, 1) := by decide +kernel
theorem dX7_comesTeam_37 : decode cX7_comesTeam 37 = .ok (.iaload, 1) := by decide +kernel
theorem dX7_comesTeam_38 : decode cX7_comesTeam 38 = .ok (.istore_n 3, 1) := by decide +kernel
theorem dX7_comesTeam_39 : decode cX7_comesTeam 39 = .ok (.iload_n 3, 1) := by decide +kernel
theorem dX7_comesTeam_40 : decode cX7_comesTeam 40 = .ok (.bipush 6, 2) := by decide +kernel
theorem dX7_comesTeam_42 : decode cX7_comesTeam 42 = .ok (.if_icmp .ne 6, 3) := by decide +kernel
theorem dX7_comesTeam_45 : decode cX7_comesTeam 45 = .ok (.bipush (-4), 2) := by decide +kernel
theorem dX7_comesTeam_47 : decode cX7_comesTeam 47 = .ok (.ireturn, 1) := by decide +kernel
theorem dX7_comesTeam_48 : decode cX7_comesTeam 48 = .ok (.aload_n 0, 1) := by decide +kernel
theorem dX7_comesTeam_49 : decode cX7_comesTeam 49 = .ok (.getfield 9, 3) := by decide +kernel
theorem dX7_comesTeam_52 : decode cX7_comesTeam 52 = .ok (.iconst 3, 1) := by decide +kernel
theorem dX7_comesTeam_53 : decode cX7_comesTeam 53 = .ok (.iload_n 3, 1) := by decide +kernel
theorem dX7_comesTeam_54 : decode cX7_comesTeam 54 = .ok (.iadd, 1) := by decide +kernel
theorem dX7_comesTeam_55 : decode cX7_comesTeam 55 = .ok (.iconst 0, 1) := by decide +kernel
theorem dX7_comesTeam_56 : decode cX7_comesTeam 56 = .ok (.iastore, 1) := by decide +kernel
theorem dX7_comesTeam_57 : decode cX7_comesTeam 57 = .ok (.aload_n 0, 1) := by decide +kernel
theorem dX7_comesTeam_58 : decode cX7_comesTeam 58 = .ok (.getfield 9, 3) := by decide +kernel
theorem dX7_comesTeam_61 : decode cX7_comesTeam 61 = .ok (.bipush 9, 2) := by decide +kernel
theorem dX7_comesTeam_63 : decode cX7_comesTeam 63 = .ok (.iload_n 3, 1) := by decide +kernel
theorem dX7_comesTeam_64 : decode cX7_comesTeam 64 = .ok (.iadd, 1) := by decide +kernel
theorem dX7_comesTeam_65 : decode cX7_comesTeam 65 = .ok (.iload_n 2, 1) := by decide +kernel
theorem dX7_comesTeam_66 : decode cX7_comesTeam 66 = .ok (.iastore, 1) := by decide +kernel
theorem dX7_comesTeam_67 : decode cX7_comesTeam 67 = .ok (.iconst 0, 1) := by decide +kernel
theorem dX7_comesTeam_68 : decode cX7_comesTeam 68 = .ok (.istore 4, 2) := by decide +kernel
theorem dX7_comesTeam_70 : decode cX7_comesTeam 70 = .ok (.iload 4, 2) := by decide +kernel
theorem dX7_comesTeam_72 : decode cX7_comesTeam 72 = .ok (.iload_n 2, 1) := by decide +kernel
theorem dX7_comesTeam_73 : decode cX7_comesTeam 73 = .ok (.if_icmp .ge 33, 3) := by decide +kernel
theorem dX7_comesTeam_76 : decode cX7_comesTeam 76 = .ok (.aload_n 0, 1) := by decide +kernel
theorem dX7_comesTeam_77 : decode cX7_comesTeam 77 = .ok (.getfield 9, 3) := by decide +kernel
theorem dX7_comesTeam_80 : decode cX7_comesTeam 80 = .ok (.bipush 15, 2) := by decide +kernel
theorem dX7_comesTeam_82 : decode cX7_comesTeam 82 = .ok (.bipush 6, 2) := by decide +kernel
theorem dX7_comesTeam_84 : decode cX7_comesTeam 84 = .ok (.iload_n 3, 1) := by decide +kernel
theorem dX7_comesTeam_85 : decode cX7_comesTeam 85 = .ok (.imul, 1) := by decide +kernel
theorem dX7_comesTeam_86 : decode cX7_comesTeam 86 = .ok (.iadd, 1) := by decide +kernel
theorem dX7_comesTeam_87 : decode cX7_comesTeam 87 = .ok (.iload 4, 2) := by decide +kernel
theorem dX7_comesTeam_89 : decode cX7_comesTeam 89 = .ok (.iadd, 1) := by decide +kernel
theorem dX7_comesTeam_90 : decode cX7_comesTeam 90 = .ok (.aload_n 0, 1) := by decide +kernel
theorem dX7_comesTeam_91 : decode cX7_comesTeam 91 = .ok (.getfield 25, 3) := by decide +kernel
theorem dX7_comesTeam_94 : decode cX7_comesTeam 94 = .ok (.iload_n 1, 1) := by decide +kernel
theorem dX7_comesTeam_95 : decode cX7_comesTeam 95 = .ok (.iload 4, 2) := by decide +kernel
theorem dX7_comesTeam_97 : decode cX7_comesTeam 97 = .ok (.iadd, 1) := by decide +kernel
theorem dX7_comesTeam_98 : decode cX7_comesTeam 98 = .ok (.iaload, 1) := by decide +kernel
theorem dX7_comesTeam_99 : decode cX7_comesTeam 99 = .ok (.iastore, 1) := by decide +kernel
theorem dX7_comesTeam_100 : decode cX7_comesTeam 100 = .ok (.iinc 4 1, 3) := by decide +kernel
theorem dX7_comesTeam_103 : decode cX7_comesTeam 103 = .ok (.goto (-33), 3) := by decide +kernel
theorem dX7_comesTeam_106 : decode cX7_comesTeam 106 = .ok (.aload_n 0, 1) := by decide +kernel
theorem dX7_comesTeam_107 : decode cX7_comesTeam 107 = .ok (.getfield 9, 3) := by decide +kernel
theorem dX7_comesTeam_110 : decode cX7_comesTeam 110 = .ok (.iconst 0, 1) := by decide +kernel
theorem dX7_comesTeam_111 : decode cX7_comesTeam 111 = .ok (.dup2, 1) := by decide +kernel
theorem dX7_comesTeam_112 : decode cX7_comesTeam 112 = .ok (.iaload, 1) := by decide +kernel
theorem dX7_comesTeam_113 : decode cX7_comesTeam 113 = .ok (.iconst 1, 1) := by decide +kernel
theorem dX7_comesTeam_114 : decode cX7_comesTeam 114 = .ok (.iadd, 1) := by decide +kernel
theorem dX7_comesTeam_115 : decode cX7_comesTeam 115 = .ok (.iastore, 1) := by decide +kernel
theorem dX7_comesTeam_116 : decode cX7_comesTeam 116 = .ok (.iload_n 3, 1) := by decide +kernel
theorem dX7_comesTeam_117 : decode cX7_comesTeam 117 = .ok (.ireturn, 1) := by decide +kernel
def f_X7_comesTeam_70 (k70 : Nat × Int32 × Int32 × Int32 × Int32 → Hp → Option (Int32 × Hp)) (v : Nat × Int32 × Int32 × Int32 × Int32) (h0 : Hp) : Option (Int32 × Hp) :=
  match v with
  | (l0, l1, l2, l3, l4) => if l2 ≤ l4 then ((gR h0 l0 7 0).bind fun r2 => (aL h0 r2 (0 : Int32)).bind fun x3 => (aS h0 r2 (0 : Int32) (x3 + (1 : Int32))).bind fun h4 => some (l3, h4)) else ((gR h0 l0 7 0).bind fun r5 => (gR h0 l0 7 10).bind fun r6 => (aL h0 r6 (l1 + l4)).bind fun x7 => (aS h0 r5 (((15 : Int32) + ((6 : Int32) * l3)) + l4) x7).bind fun h8 => (some (l4 + 1)).bind fun x9 => k70 (l0, l1, l2, l3, x9) h8)
set_option maxRecDepth 100000 in
set_option maxHeartbeats 4000000 in
theorem c_X7_comesTeam_70 {X : Cx} {adr : Nat → Nat} {q : Int32 × Hp} (hr : (mth X).sig.returnType = (some .int)) (n : Nat) : ∀ v h0, lp (f_X7_comesTeam_70) n v h0 = some q → AW X cX7_comesTeam 5 RX7 (rmd 5 0 0) (Qmet X 0 0 (Qe (some (.int q.1)) q.2 adr)) 0 0 adr h0 70 [(0, .ref v.1), (1, .int v.2.1), (2, .int v.2.2.1), (3, .int v.2.2.2.1), (4, .int v.2.2.2.2)] [] := by
  refine aw_lp (fun k70 hk70 v h0 hf => ?_) n
  obtain ⟨l0, l1, l2, l3, l4⟩ := v
  unfold f_X7_comesTeam_70 at hf
  dsimp only at hf
  show AW X cX7_comesTeam 5 RX7 (rmd 5 0 0) (Qmet X 0 0 (Qe (some (.int q.1)) q.2 adr)) 0 0 adr h0 70 [(0, .ref l0), (1, .int l1), (2, .int l2), (3, .int l3), (4, .int l4)] []
  refine aw_iload 4 dX7_comesTeam_70 rfl ?_
  refine aw_iload_n 2 dX7_comesTeam_72 rfl rfl ?_
  refine aw_icmp_ge (tgt := 106) dX7_comesTeam_73 (by decide) (fun c1 => ?_) (fun c1 => ?_)
  · have hf := i_pos c1 hf
    refine aw_aload_n 0 dX7_comesTeam_106 rfl rfl ?_
    obtain ⟨r2, er2, hf⟩ := b_some hf
    refine aw_getR dX7_comesTeam_107 gfX7_9 er2 ?_
    refine aw_iconst (v := 0) dX7_comesTeam_110 (by decide) ?_
    refine aw_dup2 dX7_comesTeam_111 rfl rfl ?_
    obtain ⟨x3, ex3, hf⟩ := b_some hf
    refine aw_iald dX7_comesTeam_112 ex3 ?_
    refine aw_iconst (v := 1) dX7_comesTeam_113 (by decide) ?_
    refine aw_iadd dX7_comesTeam_114 ?_
    obtain ⟨h4, eh4, hf⟩ := b_some hf
    refine aw_iast dX7_comesTeam_115 eh4 ?_
    refine aw_iload_n 3 dX7_comesTeam_116 rfl rfl ?_
    have hq := Option.some.inj hf
    subst hq
    exact aw_iret hr dX7_comesTeam_117 ⟨rfl, rfl, rfl⟩
  · have hf := i_neg c1 hf
    refine aw_aload_n 0 dX7_comesTeam_76 rfl rfl ?_
    obtain ⟨r5, er5, hf⟩ := b_some hf
    refine aw_getR dX7_comesTeam_77 gfX7_9 er5 ?_
    refine aw_bipush (v := 15) dX7_comesTeam_80 (by decide) ?_
    refine aw_bipush (v := 6) dX7_comesTeam_82 (by decide) ?_
    refine aw_iload_n 3 dX7_comesTeam_84 rfl rfl ?_
    refine aw_imul dX7_comesTeam_85 ?_
    refine aw_iadd dX7_comesTeam_86 ?_
    refine aw_iload 4 dX7_comesTeam_87 rfl ?_
    refine aw_iadd dX7_comesTeam_89 ?_
    refine aw_aload_n 0 dX7_comesTeam_90 rfl rfl ?_
    obtain ⟨r6, er6, hf⟩ := b_some hf
    refine aw_getR dX7_comesTeam_91 gfX7_25 er6 ?_
    refine aw_iload_n 1 dX7_comesTeam_94 rfl rfl ?_
    refine aw_iload 4 dX7_comesTeam_95 rfl ?_
    refine aw_iadd dX7_comesTeam_97 ?_
    obtain ⟨x7, ex7, hf⟩ := b_some hf
    refine aw_iald dX7_comesTeam_98 ex7 ?_
    obtain ⟨h8, eh8, hf⟩ := b_some hf
    refine aw_iast dX7_comesTeam_99 eh8 ?_
    obtain ⟨x9, ex9, hf⟩ := b_some hf
    refine aw_iinc (v := x9) (L' := [(4, .int x9), (0, .ref l0), (1, .int l1), (2, .int l2), (3, .int l3)]) 4 dX7_comesTeam_100 rfl (Option.some.inj ex9) (by decide) rfl ?_
    refine aw_goto (tgt := 70) dX7_comesTeam_103 (by decide) ?_
    exact aw_sub [1, 2, 3, 4, 0] rfl (hk70 _ _ hf)
def f_X7_comesTeam (l0 : Nat) (h0 : Hp) : Option (Int32 × Hp) :=
  (ck h0 l0 7).bind fun _ => (gI h0 l0 7 13).bind fun x1 => (gI h0 l0 7 14).bind fun x2 => (gI h0 l0 7 13).bind fun x3 => (some (x2 - x3)).bind fun x4 => (f_X7_isOver l0 h0).bind fun q5 => if q5.1 = 0 then ((f_X7_faults l0 q5.2).bind fun q15 => some (q15.1, q15.2)) else ((pI q5.2 l0 7 11 (0 : Int32)).bind fun h7 => (gR h7 l0 7 0).bind fun r8 => (aL h7 r8 (0 : Int32)).bind fun x9 => if x9 = (6 : Int32) then (some ((-4 : Int32), h7)) else ((gR h7 l0 7 0).bind fun r11 => (aS h7 r11 ((3 : Int32) + x9) (0 : Int32)).bind fun h12 => (gR h12 l0 7 0).bind fun r13 => (aS h12 r13 ((9 : Int32) + x9) x4).bind fun h14 => lp (f_X7_comesTeam_70) 600 (l0, x1, x4, x9, (0 : Int32)) h14))
set_option maxRecDepth 100000 in
set_option maxHeartbeats 4000000 in
theorem c_X7_comesTeam {l0 : Nat} {h0 : Hp} {q : Int32 × Hp} (hf : f_X7_comesTeam l0 h0 = some q) : Mt 5 yX7_comesTeam cX7_comesTeam 5 (some .int) [.ref l0] h0 (some (.int q.1)) q.2 := by
  refine MtQ.of (by decide) (Nat.le_of_ble_eq_true rfl) (fun X adr hr hn => ?_)
  unfold f_X7_comesTeam at hf
  show AW X cX7_comesTeam 5 RX7 (rmd 5 0 0) (Qmet X 0 0 (Qe (some (.int q.1)) q.2 adr)) 0 0 adr h0 0 [(0, .ref l0)] []
  obtain ⟨u0, e0, hf⟩ := b_some hf
  refine aw_aload_n 0 dX7_comesTeam_0 rfl rfl ?_
  obtain ⟨x1, ex1, hf⟩ := b_some hf
  refine aw_getI dX7_comesTeam_1 gfX7_146 ex1 ?_
  refine aw_istore_n (L' := [(1, .int x1), (0, .ref l0)]) dX7_comesTeam_4 rfl (by decide) rfl ?_
  refine aw_aload_n 1 dX7_comesTeam_5 rfl rfl ?_
  obtain ⟨x2, ex2, hf⟩ := b_some hf
  refine aw_getI dX7_comesTeam_6 gfX7_149 ex2 ?_
  refine aw_aload_n 1 dX7_comesTeam_9 rfl rfl ?_
  obtain ⟨x3, ex3, hf⟩ := b_some hf
  refine aw_getI dX7_comesTeam_10 gfX7_146 ex3 ?_
  refine aw_isub dX7_comesTeam_13 ?_
  obtain ⟨x4, ex4, hf⟩ := b_some hf
  refine aw_nm ex4 ?_
  refine aw_istore_n (L' := [(2, .int x4), (1, .int x1), (0, .ref l0)]) dX7_comesTeam_14 rfl (by decide) rfl ?_
  refine aw_aload_n 2 dX7_comesTeam_15 rfl rfl ?_
  obtain ⟨q5, eq5, hf⟩ := b_some hf
  refine aw_cV (as := []) dX7_comesTeam_16 moX7_isOver voX7_isOver mlX7_186 (k_X7_isOver eq5) rfl (rm_ok (by omega) (by decide)) ⟨Nat.le_refl _, Nat.le_refl _⟩ (Nat.le_of_ble_eq_true rfl) rfl (c_X7_isOver eq5) ?_
  refine aw_if_ne (tgt := 27) dX7_comesTeam_19 (by decide) (fun c6 => ?_) (fun c6 => ?_)
  · have hf := i_neg c6 hf
    refine aw_aload_n 2 dX7_comesTeam_27 rfl rfl ?_
    refine aw_iconst (v := 0) dX7_comesTeam_28 (by decide) ?_
    obtain ⟨h7, eh7, hf⟩ := b_some hf
    refine aw_putI dX7_comesTeam_29 pfX7_129 eh7 ?_
    refine aw_aload_n 2 dX7_comesTeam_32 rfl rfl ?_
    obtain ⟨r8, er8, hf⟩ := b_some hf
    refine aw_getR dX7_comesTeam_33 gfX7_9 er8 ?_
    refine aw_iconst (v := 0) dX7_comesTeam_36 (by decide) ?_
    obtain ⟨x9, ex9, hf⟩ := b_some hf
    refine aw_iald dX7_comesTeam_37 ex9 ?_
    refine aw_istore_n (L' := [(3, .int x9), (2, .int x4), (1, .int x1), (0, .ref l0)]) dX7_comesTeam_38 rfl (by decide) rfl ?_
    refine aw_iload_n 0 dX7_comesTeam_39 rfl rfl ?_
    refine aw_bipush (v := 6) dX7_comesTeam_40 (by decide) ?_
    refine aw_icmp_ne (tgt := 48) dX7_comesTeam_42 (by decide) (fun c10 => ?_) (fun c10 => ?_)
    · have hf := i_neg c10 hf
      refine aw_aload_n 3 dX7_comesTeam_48 rfl rfl ?_
      obtain ⟨r11, er11, hf⟩ := b_some hf
      refine aw_getR dX7_comesTeam_49 gfX7_9 er11 ?_
      refine aw_iconst (v := 3) dX7_comesTeam_52 (by decide) ?_
      refine aw_iload_n 0 dX7_comesTeam_53 rfl rfl ?_
      refine aw_iadd dX7_comesTeam_54 ?_
      refine aw_iconst (v := 0) dX7_comesTeam_55 (by decide) ?_
      obtain ⟨h12, eh12, hf⟩ := b_some hf
      refine aw_iast dX7_comesTeam_56 eh12 ?_
      refine aw_aload_n 3 dX7_comesTeam_57 rfl rfl ?_
      obtain ⟨r13, er13, hf⟩ := b_some hf
      refine aw_getR dX7_comesTeam_58 gfX7_9 er13 ?_
      refine aw_bipush (v := 9) dX7_comesTeam_61 (by decide) ?_
      refine aw_iload_n 0 dX7_comesTeam_63 rfl rfl ?_
      refine aw_iadd dX7_comesTeam_64 ?_
      refine aw_iload_n 1 dX7_comesTeam_65 rfl rfl ?_
      obtain ⟨h14, eh14, hf⟩ := b_some hf
      refine aw_iast dX7_comesTeam_66 eh14 ?_
      refine aw_iconst (v := 0) dX7_comesTeam_67 (by decide) ?_
      refine aw_istore (L' := [(4, .int (0 : Int32)), (3, .int x9), (2, .int x4), (1, .int x1), (0, .ref l0)]) dX7_comesTeam_68 (by decide) rfl ?_
      exact aw_sub [4, 3, 2, 1, 0] rfl (c_X7_comesTeam_70 hr 600 _ _ hf)
    · have hf := i_pos c10 hf
      refine aw_bipush (v := -4) dX7_comesTeam_45 (by decide) ?_
      have hq := Option.some.inj hf
      subst hq
      exact aw_iret hr dX7_comesTeam_47 ⟨rfl, rfl, rfl⟩
  · have hf := i_pos c6 hf
    refine aw_aload_n 2 dX7_comesTeam_22 rfl rfl ?_
    obtain ⟨q15, eq15, hf⟩ := b_some hf
    refine aw_cV (as := []) dX7_comesTeam_23 moX7_faults voX7_faults mlX7_167 (k_X7_faults eq15) rfl (rm_ok (by omega) (by decide)) ⟨Nat.le_refl _, Nat.le_refl _⟩ (Nat.le_of_ble_eq_true rfl) rfl (c_X7_faults eq15) ?_
    have hq := Option.some.inj hf
    subst hq
    exact aw_iret hr dX7_comesTeam_26 ⟨rfl, rfl, rfl⟩
theorem k_X7_comesTeam {l0 : Nat} {h0 : Hp} {q : Int32 × Hp} (hf : f_X7_comesTeam l0 h0 = some q) : ck h0 l0 7 = some () := by
  unfold f_X7_comesTeam at hf
  obtain ⟨u0, e0, hf⟩ := b_some hf
  exact e0
theorem dX7_isSheet_0 : decode cX7_isSheet 0 = .ok (.iload_n 0, 1) := by decide +kernel
theorem dX7_isSheet_1 : decode cX7_isSheet 1 = .ok (.i2l, 1) := by decide +kernel
theorem dX7_isSheet_2 : decode cX7_isSheet 2 = .ok (.lconst 0, 1) := by decide +kernel
theorem dX7_isSheet_3 : decode cX7_isSheet 3 = .ok (.ldc2_w 212, 3) := by decide +kernel
theorem dX7_isSheet_6 : decode cX7_isSheet 6 = .ok (.invokestatic 43, 3) := by decide +kernel
theorem dX7_isSheet_9 : decode cX7_isSheet 9 = .ok (.ireturn, 1) := by decide +kernel
def f_X7_isSheet (l0 : Int32) (h0 : Hp) : Option (Int32 × Hp) :=
  (f_X7_in (Int32.toInt64 l0) (0 : Int64) (3 : Int64) h0).bind fun q1 => (bz q1.1).bind fun u2 => some (q1.1, q1.2)
set_option maxRecDepth 100000 in
set_option maxHeartbeats 4000000 in
theorem c_X7_isSheet {l0 : Int32} {h0 : Hp} {q : Int32 × Hp} (hf : f_X7_isSheet l0 h0 = some q) : Mt 2 yX7_isSheet cX7_isSheet 1 (some .boolean) [.int l0] h0 (some (.int q.1)) q.2 := by
  refine MtQ.of (by decide) (Nat.le_of_ble_eq_true rfl) (fun X adr hr hn => ?_)
  unfold f_X7_isSheet at hf
  show AW X cX7_isSheet 1 RX7 (rmd 2 0 0) (Qmet X 0 0 (Qe (some (.int q.1)) q.2 adr)) 0 0 adr h0 0 [(0, .int l0)] []
  refine aw_iload_n 0 dX7_isSheet_0 rfl rfl ?_
  refine aw_i2l dX7_isSheet_1 ?_
  refine aw_lconst (v := 0) dX7_isSheet_2 (by decide) ?_
  refine aw_ldc2 dX7_isSheet_3 klX7_212 ?_
  obtain ⟨q1, eq1, hf⟩ := b_some hf
  refine aw_cS (as := [.long (Int32.toInt64 l0), .long (0 : Int64), .long (3 : Int64)]) dX7_isSheet_6 moX7_in soX7_in mlX7_43 (rm_ok (by omega) (by decide)) ⟨Nat.le_refl _, Nat.le_refl _⟩ (Nat.le_of_ble_eq_true rfl) rfl (c_X7_in eq1) ?_
  obtain ⟨u2, eu2, hf⟩ := b_some hf
  have hq := Option.some.inj hf
  subst hq
  exact aw_zret hr (bz_nar eu2) dX7_isSheet_9 ⟨rfl, rfl, rfl⟩
theorem dX7_copy_0 : decode cX7_copy 0 = .ok (.iload_n 1, 1) := by decide +kernel
theorem dX7_copy_1 : decode cX7_copy 1 = .ok (.invokestatic 253, 3) := by decide +kernel
theorem dX7_copy_4 : decode cX7_copy 4 = .ok (.ifCond .eq 10, 3) := by decide +kernel
theorem dX7_copy_7 : decode cX7_copy 7 = .ok (.iload_n 3, 1) := by decide +kernel
theorem dX7_copy_8 : decode cX7_copy 8 = .ok (.invokestatic 253, 3) := by decide +kernel
theorem dX7_copy_11 : decode cX7_copy 11 = .ok (.ifCond .ne 6, 3) := by decide +kernel
theorem dX7_copy_14 : decode cX7_copy 14 = .ok (.bipush (-2), 2) := by decide +kernel
theorem dX7_copy_16 : decode cX7_copy 16 = .ok (.ireturn, 1) := by decide +kernel
theorem dX7_copy_17 : decode cX7_copy 17 = .ok (.aload_n 0, 1) := by decide +kernel
theorem dX7_copy_18 : decode cX7_copy 18 = .ok (.getfield 34, 3) := by decide +kernel
theorem dX7_copy_21 : decode cX7_copy 21 = .ok (.iload_n 1, 1) := by decide +kernel
theorem dX7_copy_22 : decode cX7_copy 22 = .ok (.iaload, 1) := by decide +kernel
theorem dX7_copy_23 : decode cX7_copy 23 = .ok (.ifCond .lt 12, 3) := by decide +kernel
theorem dX7_copy_26 : decode cX7_copy 26 = .ok (.aload_n 0, 1) := by decide +kernel
theorem dX7_copy_27 : decode cX7_copy 27 = .ok (.getfield 34, 3) := by decide +kernel
theorem dX7_copy_30 : decode cX7_copy 30 = .ok (.iload_n 3, 1) := by decide +kernel
theorem dX7_copy_31 : decode cX7_copy 31 = .ok (.iaload, 1) := by decide +kernel
theorem dX7_copy_32 : decode cX7_copy 32 = .ok (.ifCond .ge 6, 3) := by decide +kernel
theorem dX7_copy_35 : decode cX7_copy 35 = .ok (.bipush (-11), 2) := by decide +kernel
theorem dX7_copy_37 : decode cX7_copy 37 = .ok (.ireturn, 1) := by decide +kernel
theorem dX7_copy_38 : decode cX7_copy 38 = .ok (.aload_n 0, 1) := by decide +kernel
theorem dX7_copy_39 : decode cX7_copy 39 = .ok (.getfield 34, 3) := by decide +kernel
theorem dX7_copy_42 : decode cX7_copy 42 = .ok (.iload_n 1, 1) := by decide +kernel
theorem dX7_copy_43 : decode cX7_copy 43 = .ok (.iaload, 1) := by decide +kernel
theorem dX7_copy_44 : decode cX7_copy 44 = .ok (.aload_n 0, 1) := by decide +kernel
theorem dX7_copy_45 : decode cX7_copy 45 = .ok (.getfield 34, 3) := by decide +kernel
theorem dX7_copy_48 : decode cX7_copy 48 = .ok (.iload_n 3, 1) := by decide +kernel
theorem dX7_copy_49 : decode cX7_copy 49 = .ok (.iaload, 1) := by decide +kernel
theorem dX7_copy_50 : decode cX7_copy 50 = .ok (.if_icmp .eq 6, 3) := by decide +kernel
theorem dX7_copy_53 : decode cX7_copy 53 = .ok (.bipush (-13), 2) := by decide +kernel
theorem dX7_copy_55 : decode cX7_copy 55 = .ok (.ireturn, 1) := by decide +kernel
theorem dX7_copy_56 : decode cX7_copy 56 = .ok (.iload 5, 2) := by decide +kernel
theorem dX7_copy_58 : decode cX7_copy 58 = .ok (.ifCond .lt 60, 3) := by decide +kernel
theorem dX7_copy_61 : decode cX7_copy 61 = .ok (.iload_n 2, 1) := by decide +kernel
theorem dX7_copy_62 : decode cX7_copy 62 = .ok (.ifCond .lt 56, 3) := by decide +kernel
theorem dX7_copy_65 : decode cX7_copy 65 = .ok (.iload 4, 2) := by decide +kernel
theorem dX7_copy_67 : decode cX7_copy 67 = .ok (.ifCond .lt 51, 3) := by decide +kernel
theorem dX7_copy_70 : decode cX7_copy 70 = .ok (.iload_n 2, 1) := by decide +kernel
theorem dX7_copy_71 : decode cX7_copy 71 = .ok (.aload_n 0, 1) := by decide +kernel
theorem dX7_copy_72 : decode cX7_copy 72 = .ok (.getfield 37, 3) := by decide +kernel
theorem dX7_copy_75 : decode cX7_copy 75 = .ok (.iload_n 1, 1) := by decide +kernel
theorem dX7_copy_76 : decode cX7_copy 76 = .ok (.iaload, 1) := by decide +kernel
theorem dX7_copy_77 : decode cX7_copy 77 = .ok (.if_icmp .gt 41, 3) := by decide +kernel
theorem dX7_copy_80 : decode cX7_copy 80 = .ok (.iload 4, 2) := by decide +kernel
theorem dX7_copy_82 : decode cX7_copy 82 = .ok (.aload_n 0, 1) := by decide +kernel
theorem dX7_copy_83 : decode cX7_copy 83 = .ok (.getfield 37, 3) := by decide +kernel
theorem dX7_copy_86 : decode cX7_copy 86 = .ok (.iload_n 3, 1) := by decide +kernel
theorem dX7_copy_87 : decode cX7_copy 87 = .ok (.iaload, 1) := by decide +kernel
theorem dX7_copy_88 : decode cX7_copy 88 = .ok (.if_icmp .gt 30, 3) := by decide +kernel
theorem dX7_copy_91 : decode cX7_copy 91 = .ok (.iload 5, 2) := by decide +kernel
theorem dX7_copy_93 : decode cX7_copy 93 = .ok (.aload_n 0, 1) := by decide +kernel
theorem dX7_copy_94 : decode cX7_copy 94 = .ok (.getfield 37, 3) := by decide +kernel
theorem dX7_copy_97 : decode cX7_copy 97 = .ok (.iload_n 1, 1) := by decide +kernel
theorem dX7_copy_98 : decode cX7_copy 98 = .ok (.iaload, 1) := by decide +kernel
theorem dX7_copy_99 : decode cX7_copy 99 = .ok (.iload_n 2, 1) := by decide +kernel
theorem dX7_copy_100 : decode cX7_copy 100 = .ok (.isub, 1) := by decide +kernel
theorem dX7_copy_101 : decode cX7_copy 101 = .ok (.if_icmp .gt 17, 3) := by decide +kernel
theorem dX7_copy_104 : decode cX7_copy 104 = .ok (.iload 5, 2) := by decide +kernel
theorem dX7_copy_106 : decode cX7_copy 106 = .ok (.aload_n 0, 1) := by decide +kernel
theorem dX7_copy_107 : decode cX7_copy 107 = .ok (.getfield 37, 3) := by decide +kernel
theorem dX7_copy_110 : decode cX7_copy 110 = .ok (.iload_n 3, 1) := by decide +kernel
theorem dX7_copy_111 : decode cX7_copy 111 = .ok (.iaload, 1) := by decide +kernel
theorem dX7_copy_112 : decode cX7_copy 112 = .ok (.iload 4, 2) := by decide +kernel
theorem dX7_copy_114 : decode cX7_copy 114 = .ok (.isub, 1) := by decide +kernel
theorem dX7_copy_115 : decode cX7_copy 115 = .ok (.if_icmp .le 6, 3) := by decide +kernel
theorem dX7_copy_118 : decode cX7_copy 118 = .ok (.bipush (-12), 2) := by decide +kernel
theorem dX7_copy_120 : decode cX7_copy 120 = .ok (.ireturn, 1) := by decide +kernel
theorem dX7_copy_121 : decode cX7_copy 121 = .ok (.iconst 0, 1) := by decide +kernel
theorem dX7_copy_122 : decode cX7_copy 122 = .ok (.istore 6, 2) := by decide +kernel
theorem dX7_copy_124 : decode cX7_copy 124 = .ok (.iload 6, 2) := by decide +kernel
theorem dX7_copy_126 : decode cX7_copy 126 = .ok (.iload 5, 2) := by decide +kernel
theorem dX7_copy_128 : decode cX7_copy 128 = .ok (.if_icmp .ge 58, 3) := by decide +kernel
theorem dX7_copy_131 : decode cX7_copy 131 = .ok (.iload_n 2, 1) := by decide +kernel
theorem dX7_copy_132 : decode cX7_copy 132 = .ok (.iload 4, 2) := by decide +kernel
theorem dX7_copy_134 : decode cX7_copy 134 = .ok (.if_icmp .ge 13, 3) := by decide +kernel
theorem dX7_copy_137 : decode cX7_copy 137 = .ok (.iload 5, 2) := by decide +kernel
theorem dX7_copy_139 : decode cX7_copy 139 = .ok (.iconst 1, 1) := by decide +kernel
theorem dX7_copy_140 : decode cX7_copy 140 = .ok (.isub, 1) := by decide +kernel
theorem dX7_copy_141 : decode cX7_copy 141 = .ok (.iload 6, 2) := by decide +kernel
theorem dX7_copy_143 : decode cX7_copy 143 = .ok (.isub, 1) := by decide +kernel
theorem dX7_copy_144 : decode cX7_copy 144 = .ok (.goto 5, 3) := by decide +kernel
theorem dX7_copy_147 : decode cX7_copy 147 = .ok (.iload 6, 2) := by decide +kernel
theorem dX7_copy_149 : decode cX7_copy 149 = .ok (.istore 7, 2) := by decide +kernel
theorem dX7_copy_151 : decode cX7_copy 151 = .ok (.aload_n 0, 1) := by decide +kernel
theorem dX7_copy_152 : decode cX7_copy 152 = .ok (.getfield 40, 3) := by decide +kernel
theorem dX7_copy_155 : decode cX7_copy 155 = .ok (.bipush 40, 2) := by decide +kernel
theorem dX7_copy_157 : decode cX7_copy 157 = .ok (.iload_n 3, 1) := by decide +kernel
theorem dX7_copy_158 : decode cX7_copy 158 = .ok (.imul, 1) := by decide +kernel
theorem dX7_copy_159 : decode cX7_copy 159 = .ok (.iload 4, 2) := by decide +kernel
theorem dX7_copy_161 : decode cX7_copy 161 = .ok (.iadd, 1) := by decide +kernel
theorem dX7_copy_162 : decode cX7_copy 162 = .ok (.iload 7, 2) := by decide +kernel
theorem dX7_copy_164 : decode cX7_copy 164 = .ok (.iadd, 1) := by decide +kernel
theorem dX7_copy_165 : decode cX7_copy 165 = .ok (.aload_n 0, 1) := by decide +kernel
theorem dX7_copy_166 : decode cX7_copy 166 = .ok (.getfield 40, 3) := by decide +kernel
theorem dX7_copy_169 : decode cX7_copy 169 = .ok (.bipush 40, 2) := by decide +kernel
theorem dX7_copy_171 : decode cX7_copy 171 = .ok (.iload_n 1, 1) := by decide +kernel
theorem dX7_copy_172 : decode cX7_copy 172 = .ok (.imul, 1) := by decide +kernel
theorem dX7_copy_173 : decode cX7_copy 173 = .ok (.iload_n 2, 1) := by decide +kernel
theorem dX7_copy_174 : decode cX7_copy 174 = .ok (.iadd, 1) := by decide +kernel
theorem dX7_copy_175 : decode cX7_copy 175 = .ok (.iload 7, 2) := by decide +kernel
theorem dX7_copy_177 : decode cX7_copy 177 = .ok (.iadd, 1) := by decide +kernel
theorem dX7_copy_178 : decode cX7_copy 178 = .ok (.iaload, 1) := by decide +kernel
theorem dX7_copy_179 : decode cX7_copy 179 = .ok (.iastore, 1) := by decide +kernel
theorem dX7_copy_180 : decode cX7_copy 180 = .ok (.iinc 6 1, 3) := by decide +kernel
theorem dX7_copy_183 : decode cX7_copy 183 = .ok (.goto (-59), 3) := by decide +kernel
theorem dX7_copy_186 : decode cX7_copy 186 = .ok (.iload 5, 2) := by decide +kernel
theorem dX7_copy_188 : decode cX7_copy 188 = .ok (.ireturn, 1) := by decide +kernel
def f_X7_copy_149 (k124 : Nat × Int32 × Int32 × Int32 × Int32 × Int32 × Int32 → Hp → Option (Int32 × Hp)) (l0 : Nat) (l1 : Int32) (l2 : Int32) (l3 : Int32) (l4 : Int32) (l5 : Int32) (l6 : Int32) (s0 : Int32) (h0 : Hp) : Option (Int32 × Hp) :=
  (gR h0 l0 7 20).bind fun r1 => (gR h0 l0 7 20).bind fun r2 => (aL h0 r2 ((((40 : Int32) * l1) + l2) + s0)).bind fun x3 => (aS h0 r1 ((((40 : Int32) * l3) + l4) + s0) x3).bind fun h4 => (some (l6 + 1)).bind fun x5 => k124 (l0, l1, l2, l3, l4, l5, x5) h4
set_option maxRecDepth 100000 in
set_option maxHeartbeats 4000000 in
theorem c_X7_copy_149 {X : Cx} {adr : Nat → Nat} {q : Int32 × Hp} (hr : (mth X).sig.returnType = (some .int)) {k124 : Nat × Int32 × Int32 × Int32 × Int32 × Int32 × Int32 → Hp → Option (Int32 × Hp)} (hk124 : ∀ v h, k124 v h = some q → AW X cX7_copy 8 RX7 (rmd 3 0 0) (Qmet X 0 0 (Qe (some (.int q.1)) q.2 adr)) 0 0 adr h 124 [(0, .ref v.1), (1, .int v.2.1), (2, .int v.2.2.1), (3, .int v.2.2.2.1), (4, .int v.2.2.2.2.1), (5, .int v.2.2.2.2.2.1), (6, .int v.2.2.2.2.2.2)] []) {l0 : Nat} {l1 : Int32} {l2 : Int32} {l3 : Int32} {l4 : Int32} {l5 : Int32} {l6 : Int32} {s0 : Int32} {h0 : Hp} (hf : f_X7_copy_149 k124 l0 l1 l2 l3 l4 l5 l6 s0 h0 = some q) : AW X cX7_copy 8 RX7 (rmd 3 0 0) (Qmet X 0 0 (Qe (some (.int q.1)) q.2 adr)) 0 0 adr h0 149 [(0, .ref l0), (1, .int l1), (2, .int l2), (3, .int l3), (4, .int l4), (5, .int l5), (6, .int l6)] [.int s0] := by
  unfold f_X7_copy_149 at hf
  refine aw_istore (L' := [(7, .int s0), (0, .ref l0), (1, .int l1), (2, .int l2), (3, .int l3), (4, .int l4), (5, .int l5), (6, .int l6)]) dX7_copy_149 (by decide) rfl ?_
  refine aw_aload_n 1 dX7_copy_151 rfl rfl ?_
  obtain ⟨r1, er1, hf⟩ := b_some hf
  refine aw_getR dX7_copy_152 gfX7_40 er1 ?_
  refine aw_bipush (v := 40) dX7_copy_155 (by decide) ?_
  refine aw_iload_n 4 dX7_copy_157 rfl rfl ?_
  refine aw_imul dX7_copy_158 ?_
  refine aw_iload 5 dX7_copy_159 rfl ?_
  refine aw_iadd dX7_copy_161 ?_
  refine aw_iload 0 dX7_copy_162 rfl ?_
  refine aw_iadd dX7_copy_164 ?_
  refine aw_aload_n 1 dX7_copy_165 rfl rfl ?_
  obtain ⟨r2, er2, hf⟩ := b_some hf
  refine aw_getR dX7_copy_166 gfX7_40 er2 ?_
  refine aw_bipush (v := 40) dX7_copy_169 (by decide) ?_
  refine aw_iload_n 2 dX7_copy_171 rfl rfl ?_
  refine aw_imul dX7_copy_172 ?_
  refine aw_iload_n 3 dX7_copy_173 rfl rfl ?_
  refine aw_iadd dX7_copy_174 ?_
  refine aw_iload 0 dX7_copy_175 rfl ?_
  refine aw_iadd dX7_copy_177 ?_
  obtain ⟨x3, ex3, hf⟩ := b_some hf
  refine aw_iald dX7_copy_178 ex3 ?_
  obtain ⟨h4, eh4, hf⟩ := b_some hf
  refine aw_iast dX7_copy_179 eh4 ?_
  obtain ⟨x5, ex5, hf⟩ := b_some hf
  refine aw_iinc (v := x5) (L' := [(6, .int x5), (7, .int s0), (0, .ref l0), (1, .int l1), (2, .int l2), (3, .int l3), (4, .int l4), (5, .int l5)]) 7 dX7_copy_180 rfl (Option.some.inj ex5) (by decide) rfl ?_
  refine aw_goto (tgt := 124) dX7_copy_183 (by decide) ?_
  exact aw_sub [2, 3, 4, 5, 6, 7, 0] rfl (hk124 _ _ hf)
def f_X7_copy_124 (k124 : Nat × Int32 × Int32 × Int32 × Int32 × Int32 × Int32 → Hp → Option (Int32 × Hp)) (v : Nat × Int32 × Int32 × Int32 × Int32 × Int32 × Int32) (h0 : Hp) : Option (Int32 × Hp) :=
  match v with
  | (l0, l1, l2, l3, l4, l5, l6) => if l5 ≤ l6 then (some (l5, h0)) else (if l4 ≤ l2 then (f_X7_copy_149 k124 l0 l1 l2 l3 l4 l5 l6 l6 h0) else (f_X7_copy_149 k124 l0 l1 l2 l3 l4 l5 l6 ((l5 - (1 : Int32)) - l6) h0))
set_option maxRecDepth 100000 in
set_option maxHeartbeats 4000000 in
theorem c_X7_copy_124 {X : Cx} {adr : Nat → Nat} {q : Int32 × Hp} (hr : (mth X).sig.returnType = (some .int)) (n : Nat) : ∀ v h0, lp (f_X7_copy_124) n v h0 = some q → AW X cX7_copy 8 RX7 (rmd 3 0 0) (Qmet X 0 0 (Qe (some (.int q.1)) q.2 adr)) 0 0 adr h0 124 [(0, .ref v.1), (1, .int v.2.1), (2, .int v.2.2.1), (3, .int v.2.2.2.1), (4, .int v.2.2.2.2.1), (5, .int v.2.2.2.2.2.1), (6, .int v.2.2.2.2.2.2)] [] := by
  refine aw_lp (fun k124 hk124 v h0 hf => ?_) n
  obtain ⟨l0, l1, l2, l3, l4, l5, l6⟩ := v
  unfold f_X7_copy_124 at hf
  dsimp only at hf
  show AW X cX7_copy 8 RX7 (rmd 3 0 0) (Qmet X 0 0 (Qe (some (.int q.1)) q.2 adr)) 0 0 adr h0 124 [(0, .ref l0), (1, .int l1), (2, .int l2), (3, .int l3), (4, .int l4), (5, .int l5), (6, .int l6)] []
  refine aw_iload 6 dX7_copy_124 rfl ?_
  refine aw_iload 5 dX7_copy_126 rfl ?_
  refine aw_icmp_ge (tgt := 186) dX7_copy_128 (by decide) (fun c1 => ?_) (fun c1 => ?_)
  · have hf := i_pos c1 hf
    refine aw_iload 5 dX7_copy_186 rfl ?_
    have hq := Option.some.inj hf
    subst hq
    exact aw_iret hr dX7_copy_188 ⟨rfl, rfl, rfl⟩
  · have hf := i_neg c1 hf
    refine aw_iload_n 2 dX7_copy_131 rfl rfl ?_
    refine aw_iload 4 dX7_copy_132 rfl ?_
    refine aw_icmp_ge (tgt := 147) dX7_copy_134 (by decide) (fun c2 => ?_) (fun c2 => ?_)
    · have hf := i_pos c2 hf
      refine aw_iload 6 dX7_copy_147 rfl ?_
      exact aw_sub [0, 1, 2, 3, 4, 5, 6] rfl (c_X7_copy_149 hr hk124 hf)
    · have hf := i_neg c2 hf
      refine aw_iload 5 dX7_copy_137 rfl ?_
      refine aw_iconst (v := 1) dX7_copy_139 (by decide) ?_
      refine aw_isub dX7_copy_140 ?_
      refine aw_iload 6 dX7_copy_141 rfl ?_
      refine aw_isub dX7_copy_143 ?_
      refine aw_goto (tgt := 149) dX7_copy_144 (by decide) ?_
      exact aw_sub [0, 1, 2, 3, 4, 5, 6] rfl (c_X7_copy_149 hr hk124 hf)
def f_X7_copy (l0 : Nat) (l1 : Int32) (l2 : Int32) (l3 : Int32) (l4 : Int32) (l5 : Int32) (h0 : Hp) : Option (Int32 × Hp) :=
  (ck h0 l0 7).bind fun _ => (f_X7_isSheet l1 h0).bind fun q1 => if q1.1 = 0 then (some ((-2 : Int32), q1.2)) else ((f_X7_isSheet l3 q1.2).bind fun q3 => if q3.1 = 0 then (some ((-2 : Int32), q3.2)) else ((gR q3.2 l0 7 18).bind fun r5 => (aL q3.2 r5 l1).bind fun x6 => if x6 < 0 then (some ((-11 : Int32), q3.2)) else ((gR q3.2 l0 7 18).bind fun r8 => (aL q3.2 r8 l3).bind fun x9 => if 0 ≤ x9 then ((gR q3.2 l0 7 18).bind fun r11 => (aL q3.2 r11 l1).bind fun x12 => (gR q3.2 l0 7 18).bind fun r13 => (aL q3.2 r13 l3).bind fun x14 => if x12 = x14 then (if l5 < 0 then (some ((-12 : Int32), q3.2)) else (if l2 < 0 then (some ((-12 : Int32), q3.2)) else (if l4 < 0 then (some ((-12 : Int32), q3.2)) else ((gR q3.2 l0 7 19).bind fun r19 => (aL q3.2 r19 l1).bind fun x20 => if x20 < l2 then (some ((-12 : Int32), q3.2)) else ((gR q3.2 l0 7 19).bind fun r22 => (aL q3.2 r22 l3).bind fun x23 => if x23 < l4 then (some ((-12 : Int32), q3.2)) else ((gR q3.2 l0 7 19).bind fun r25 => (aL q3.2 r25 l1).bind fun x26 => if (x26 - l2) < l5 then (some ((-12 : Int32), q3.2)) else ((gR q3.2 l0 7 19).bind fun r28 => (aL q3.2 r28 l3).bind fun x29 => if l5 ≤ (x29 - l4) then (lp (f_X7_copy_124) 600 (l0, l1, l2, l3, l4, l5, (0 : Int32)) q3.2) else (some ((-12 : Int32), q3.2))))))))) else (some ((-13 : Int32), q3.2))) else (some ((-11 : Int32), q3.2)))))
set_option maxRecDepth 100000 in
set_option maxHeartbeats 4000000 in
theorem c_X7_copy {l0 : Nat} {l1 : Int32} {l2 : Int32} {l3 : Int32} {l4 : Int32} {l5 : Int32} {h0 : Hp} {q : Int32 × Hp} (hf : f_X7_copy l0 l1 l2 l3 l4 l5 h0 = some q) : Mt 3 yX7_copy cX7_copy 8 (some .int) [.ref l0, .int l1, .int l2, .int l3, .int l4, .int l5] h0 (some (.int q.1)) q.2 := by
  refine MtQ.of (by decide) (Nat.le_of_ble_eq_true rfl) (fun X adr hr hn => ?_)
  unfold f_X7_copy at hf
  show AW X cX7_copy 8 RX7 (rmd 3 0 0) (Qmet X 0 0 (Qe (some (.int q.1)) q.2 adr)) 0 0 adr h0 0 [(0, .ref l0), (1, .int l1), (2, .int l2), (3, .int l3), (4, .int l4), (5, .int l5)] []
  obtain ⟨u0, e0, hf⟩ := b_some hf
  refine aw_iload_n 1 dX7_copy_0 rfl rfl ?_
  obtain ⟨q1, eq1, hf⟩ := b_some hf
  refine aw_cS (as := [.int l1]) dX7_copy_1 moX7_isSheet soX7_isSheet mlX7_253 (rm_ok (by omega) (by decide)) ⟨Nat.le_refl _, Nat.le_refl _⟩ (Nat.le_of_ble_eq_true rfl) rfl (c_X7_isSheet eq1) ?_
  refine aw_if_eq (tgt := 14) dX7_copy_4 (by decide) (fun c2 => ?_) (fun c2 => ?_)
  · have hf := i_pos c2 hf
    refine aw_bipush (v := -2) dX7_copy_14 (by decide) ?_
    have hq := Option.some.inj hf
    subst hq
    exact aw_iret hr dX7_copy_16 ⟨rfl, rfl, rfl⟩
  · have hf := i_neg c2 hf
    refine aw_iload_n 3 dX7_copy_7 rfl rfl ?_
    obtain ⟨q3, eq3, hf⟩ := b_some hf
    refine aw_cS (as := [.int l3]) dX7_copy_8 moX7_isSheet soX7_isSheet mlX7_253 (rm_ok (by omega) (by decide)) ⟨Nat.le_refl _, Nat.le_refl _⟩ (Nat.le_of_ble_eq_true rfl) rfl (c_X7_isSheet eq3) ?_
    refine aw_if_ne (tgt := 17) dX7_copy_11 (by decide) (fun c4 => ?_) (fun c4 => ?_)
    · have hf := i_neg c4 hf
      refine aw_aload_n 0 dX7_copy_17 rfl rfl ?_
      obtain ⟨r5, er5, hf⟩ := b_some hf
      refine aw_getR dX7_copy_18 gfX7_34 er5 ?_
      refine aw_iload_n 1 dX7_copy_21 rfl rfl ?_
      obtain ⟨x6, ex6, hf⟩ := b_some hf
      refine aw_iald dX7_copy_22 ex6 ?_
      refine aw_if_lt (tgt := 35) dX7_copy_23 (by decide) (fun c7 => ?_) (fun c7 => ?_)
      · have hf := i_pos c7 hf
        refine aw_bipush (v := -11) dX7_copy_35 (by decide) ?_
        have hq := Option.some.inj hf
        subst hq
        exact aw_iret hr dX7_copy_37 ⟨rfl, rfl, rfl⟩
      · have hf := i_neg c7 hf
        refine aw_aload_n 0 dX7_copy_26 rfl rfl ?_
        obtain ⟨r8, er8, hf⟩ := b_some hf
        refine aw_getR dX7_copy_27 gfX7_34 er8 ?_
        refine aw_iload_n 3 dX7_copy_30 rfl rfl ?_
        obtain ⟨x9, ex9, hf⟩ := b_some hf
        refine aw_iald dX7_copy_31 ex9 ?_
        refine aw_if_ge (tgt := 38) dX7_copy_32 (by decide) (fun c10 => ?_) (fun c10 => ?_)
        · have hf := i_pos c10 hf
          refine aw_aload_n 0 dX7_copy_38 rfl rfl ?_
          obtain ⟨r11, er11, hf⟩ := b_some hf
          refine aw_getR dX7_copy_39 gfX7_34 er11 ?_
          refine aw_iload_n 1 dX7_copy_42 rfl rfl ?_
          obtain ⟨x12, ex12, hf⟩ := b_some hf
          refine aw_iald dX7_copy_43 ex12 ?_
          refine aw_aload_n 0 dX7_copy_44 rfl rfl ?_
          obtain ⟨r13, er13, hf⟩ := b_some hf
          refine aw_getR dX7_copy_45 gfX7_34 er13 ?_
          refine aw_iload_n 3 dX7_copy_48 rfl rfl ?_
          obtain ⟨x14, ex14, hf⟩ := b_some hf
          refine aw_iald dX7_copy_49 ex14 ?_
          refine aw_icmp_eq (tgt := 56) dX7_copy_50 (by decide) (fun c15 => ?_) (fun c15 => ?_)
          · have hf := i_pos c15 hf
            refine aw_iload 5 dX7_copy_56 rfl ?_
            refine aw_if_lt (tgt := 118) dX7_copy_58 (by decide) (fun c16 => ?_) (fun c16 => ?_)
            · have hf := i_pos c16 hf
              refine aw_bipush (v := -12) dX7_copy_118 (by decide) ?_
              have hq := Option.some.inj hf
              subst hq
              exact aw_iret hr dX7_copy_120 ⟨rfl, rfl, rfl⟩
            · have hf := i_neg c16 hf
              refine aw_iload_n 2 dX7_copy_61 rfl rfl ?_
              refine aw_if_lt (tgt := 118) dX7_copy_62 (by decide) (fun c17 => ?_) (fun c17 => ?_)
              · have hf := i_pos c17 hf
                refine aw_bipush (v := -12) dX7_copy_118 (by decide) ?_
                have hq := Option.some.inj hf
                subst hq
                exact aw_iret hr dX7_copy_120 ⟨rfl, rfl, rfl⟩
              · have hf := i_neg c17 hf
                refine aw_iload 4 dX7_copy_65 rfl ?_
                refine aw_if_lt (tgt := 118) dX7_copy_67 (by decide) (fun c18 => ?_) (fun c18 => ?_)
                · have hf := i_pos c18 hf
                  refine aw_bipush (v := -12) dX7_copy_118 (by decide) ?_
                  have hq := Option.some.inj hf
                  subst hq
                  exact aw_iret hr dX7_copy_120 ⟨rfl, rfl, rfl⟩
                · have hf := i_neg c18 hf
                  refine aw_iload_n 2 dX7_copy_70 rfl rfl ?_
                  refine aw_aload_n 0 dX7_copy_71 rfl rfl ?_
                  obtain ⟨r19, er19, hf⟩ := b_some hf
                  refine aw_getR dX7_copy_72 gfX7_37 er19 ?_
                  refine aw_iload_n 1 dX7_copy_75 rfl rfl ?_
                  obtain ⟨x20, ex20, hf⟩ := b_some hf
                  refine aw_iald dX7_copy_76 ex20 ?_
                  refine aw_icmp_gt (tgt := 118) dX7_copy_77 (by decide) (fun c21 => ?_) (fun c21 => ?_)
                  · have hf := i_pos c21 hf
                    refine aw_bipush (v := -12) dX7_copy_118 (by decide) ?_
                    have hq := Option.some.inj hf
                    subst hq
                    exact aw_iret hr dX7_copy_120 ⟨rfl, rfl, rfl⟩
                  · have hf := i_neg c21 hf
                    refine aw_iload 4 dX7_copy_80 rfl ?_
                    refine aw_aload_n 0 dX7_copy_82 rfl rfl ?_
                    obtain ⟨r22, er22, hf⟩ := b_some hf
                    refine aw_getR dX7_copy_83 gfX7_37 er22 ?_
                    refine aw_iload_n 3 dX7_copy_86 rfl rfl ?_
                    obtain ⟨x23, ex23, hf⟩ := b_some hf
                    refine aw_iald dX7_copy_87 ex23 ?_
                    refine aw_icmp_gt (tgt := 118) dX7_copy_88 (by decide) (fun c24 => ?_) (fun c24 => ?_)
                    · have hf := i_pos c24 hf
                      refine aw_bipush (v := -12) dX7_copy_118 (by decide) ?_
                      have hq := Option.some.inj hf
                      subst hq
                      exact aw_iret hr dX7_copy_120 ⟨rfl, rfl, rfl⟩
                    · have hf := i_neg c24 hf
                      refine aw_iload 5 dX7_copy_91 rfl ?_
                      refine aw_aload_n 0 dX7_copy_93 rfl rfl ?_
                      obtain ⟨r25, er25, hf⟩ := b_some hf
                      refine aw_getR dX7_copy_94 gfX7_37 er25 ?_
                      refine aw_iload_n 1 dX7_copy_97 rfl rfl ?_
                      obtain ⟨x26, ex26, hf⟩ := b_some hf
                      refine aw_iald dX7_copy_98 ex26 ?_
                      refine aw_iload_n 2 dX7_copy_99 rfl rfl ?_
                      refine aw_isub dX7_copy_100 ?_
                      refine aw_icmp_gt (tgt := 118) dX7_copy_101 (by decide) (fun c27 => ?_) (fun c27 => ?_)
                      · have hf := i_pos c27 hf
                        refine aw_bipush (v := -12) dX7_copy_118 (by decide) ?_
                        have hq := Option.some.inj hf
                        subst hq
                        exact aw_iret hr dX7_copy_120 ⟨rfl, rfl, rfl⟩
                      · have hf := i_neg c27 hf
                        refine aw_iload 5 dX7_copy_104 rfl ?_
                        refine aw_aload_n 0 dX7_copy_106 rfl rfl ?_
                        obtain ⟨r28, er28, hf⟩ := b_some hf
                        refine aw_getR dX7_copy_107 gfX7_37 er28 ?_
                        refine aw_iload_n 3 dX7_copy_110 rfl rfl ?_
                        obtain ⟨x29, ex29, hf⟩ := b_some hf
                        refine aw_iald dX7_copy_111 ex29 ?_
                        refine aw_iload 4 dX7_copy_112 rfl ?_
                        refine aw_isub dX7_copy_114 ?_
                        refine aw_icmp_le (tgt := 121) dX7_copy_115 (by decide) (fun c30 => ?_) (fun c30 => ?_)
                        · have hf := i_pos c30 hf
                          refine aw_iconst (v := 0) dX7_copy_121 (by decide) ?_
                          refine aw_istore (L' := [(6, .int (0 : Int32)), (0, .ref l0), (1, .int l1), (2, .int l2), (3, .int l3), (4, .int l4), (5, .int l5)]) dX7_copy_122 (by decide) rfl ?_
                          exact aw_sub [1, 2, 3, 4, 5, 6, 0] rfl (c_X7_copy_124 hr 600 _ _ hf)
                        · have hf := i_neg c30 hf
                          refine aw_bipush (v := -12) dX7_copy_118 (by decide) ?_
                          have hq := Option.some.inj hf
                          subst hq
                          exact aw_iret hr dX7_copy_120 ⟨rfl, rfl, rfl⟩
          · have hf := i_neg c15 hf
            refine aw_bipush (v := -13) dX7_copy_53 (by decide) ?_
            have hq := Option.some.inj hf
            subst hq
            exact aw_iret hr dX7_copy_55 ⟨rfl, rfl, rfl⟩
        · have hf := i_neg c10 hf
          refine aw_bipush (v := -11) dX7_copy_35 (by decide) ?_
          have hq := Option.some.inj hf
          subst hq
          exact aw_iret hr dX7_copy_37 ⟨rfl, rfl, rfl⟩
    · have hf := i_pos c4 hf
      refine aw_bipush (v := -2) dX7_copy_14 (by decide) ?_
      have hq := Option.some.inj hf
      subst hq
      exact aw_iret hr dX7_copy_16 ⟨rfl, rfl, rfl⟩
theorem k_X7_copy {l0 : Nat} {l1 : Int32} {l2 : Int32} {l3 : Int32} {l4 : Int32} {l5 : Int32} {h0 : Hp} {q : Int32 × Hp} (hf : f_X7_copy l0 l1 l2 l3 l4 l5 h0 = some q) : ck h0 l0 7 = some () := by
  unfold f_X7_copy at hf
  obtain ⟨u0, e0, hf⟩ := b_some hf
  exact e0
theorem dX7_count_0 : decode cX7_count 0 = .ok (.aload_n 0, 1) := by decide +kernel
theorem dX7_count_1 : decode cX7_count 1 = .ok (.invokevirtual 61, 3) := by decide +kernel
theorem dX7_count_4 : decode cX7_count 4 = .ok (.iload_n 1, 1) := by decide +kernel
theorem dX7_count_5 : decode cX7_count 5 = .ok (.tableswitch 69 0 4 #[35, 42, 49, 57, 62], 35) := by decide +kernel
theorem dX7_count_40 : decode cX7_count 40 = .ok (.aload_n 0, 1) := by decide +kernel
theorem dX7_count_41 : decode cX7_count 41 = .ok (.getfield 9, 3) := by decide +kernel
theorem dX7_count_44 : decode cX7_count 44 = .ok (.iconst 0, 1) := by decide +kernel
theorem dX7_count_45 : decode cX7_count 45 = .ok (.iaload, 1) := by decide +kernel
theorem dX7_count_46 : decode cX7_count 46 = .ok (.ireturn, 1) := by decide +kernel
theorem dX7_count_47 : decode cX7_count 47 = .ok (.aload_n 0, 1) := by decide +kernel
theorem dX7_count_48 : decode cX7_count 48 = .ok (.getfield 9, 3) := by decide +kernel
theorem dX7_count_51 : decode cX7_count 51 = .ok (.iconst 1, 1) := by decide +kernel
theorem dX7_count_52 : decode cX7_count 52 = .ok (.iaload, 1) := by decide +kernel
theorem dX7_count_53 : decode cX7_count 53 = .ok (.ireturn, 1) := by decide +kernel
theorem dX7_count_54 : decode cX7_count 54 = .ok (.aload_n 0, 1) := by decide +kernel
theorem dX7_count_55 : decode cX7_count 55 = .ok (.invokevirtual 111, 3) := by decide +kernel
theorem dX7_count_58 : decode cX7_count 58 = .ok (.invokestatic 72, 3) := by decide +kernel
theorem dX7_count_61 : decode cX7_count 61 = .ok (.ireturn, 1) := by decide +kernel
theorem dX7_count_62 : decode cX7_count 62 = .ok (.aload_n 0, 1) := by decide +kernel
theorem dX7_count_63 : decode cX7_count 63 = .ok (.getfield 129, 3) := by decide +kernel
theorem dX7_count_66 : decode cX7_count 66 = .ok (.ireturn, 1) := by decide +kernel
theorem dX7_count_67 : decode cX7_count 67 = .ok (.aload_n 0, 1) := by decide +kernel
theorem dX7_count_68 : decode cX7_count 68 = .ok (.getfield 9, 3) := by decide +kernel
theorem dX7_count_71 : decode cX7_count 71 = .ok (.iconst 2, 1) := by decide +kernel
theorem dX7_count_72 : decode cX7_count 72 = .ok (.iaload, 1) := by decide +kernel
theorem dX7_count_73 : decode cX7_count 73 = .ok (.ireturn, 1) := by decide +kernel
theorem dX7_count_74 : decode cX7_count 74 = .ok (.bipush (-2), 2) := by decide +kernel
theorem dX7_count_76 : decode cX7_count 76 = .ok (.ireturn, 1) := by decide +kernel
def f_X7_count (l0 : Nat) (l1 : Int32) (h0 : Hp) : Option (Int32 × Hp) :=
  (ck h0 l0 7).bind fun _ => (f_X7_looks l0 h0).bind fun q1 => if l1 = 0 then ((gR q1.2 l0 7 0).bind fun r3 => (aL q1.2 r3 (0 : Int32)).bind fun x4 => some (x4, q1.2)) else if l1 = 1 then ((gR q1.2 l0 7 0).bind fun r6 => (aL q1.2 r6 (1 : Int32)).bind fun x7 => some (x7, q1.2)) else if l1 = 2 then ((f_X7_leftSet l0 q1.2).bind fun q9 => (f_X7_ones q9.1 q9.2).bind fun q10 => some (q10.1, q10.2)) else if l1 = 3 then ((gI q1.2 l0 7 11).bind fun x12 => some (x12, q1.2)) else if l1 = 4 then ((gR q1.2 l0 7 0).bind fun r14 => (aL q1.2 r14 (2 : Int32)).bind fun x15 => some (x15, q1.2)) else (some ((-2 : Int32), q1.2))
set_option maxRecDepth 100000 in
set_option maxHeartbeats 4000000 in
theorem c_X7_count {l0 : Nat} {l1 : Int32} {h0 : Hp} {q : Int32 × Hp} (hf : f_X7_count l0 l1 h0 = some q) : Mt 5 yX7_count cX7_count 2 (some .int) [.ref l0, .int l1] h0 (some (.int q.1)) q.2 := by
  refine MtQ.of (by decide) (Nat.le_of_ble_eq_true rfl) (fun X adr hr hn => ?_)
  unfold f_X7_count at hf
  show AW X cX7_count 2 RX7 (rmd 5 0 0) (Qmet X 0 0 (Qe (some (.int q.1)) q.2 adr)) 0 0 adr h0 0 [(0, .ref l0), (1, .int l1)] []
  obtain ⟨u0, e0, hf⟩ := b_some hf
  refine aw_aload_n 0 dX7_count_0 rfl rfl ?_
  obtain ⟨q1, eq1, hf⟩ := b_some hf
  refine aw_cV0 (as := []) dX7_count_1 moX7_looks voX7_looks mlX7_61 (k_X7_looks eq1) rfl (rm_ok (by omega) (by decide)) ⟨Nat.le_refl _, Nat.le_refl _⟩ (Nat.le_of_ble_eq_true rfl) rfl (c_X7_looks eq1) ?_
  refine aw_iload_n 1 dX7_count_4 rfl rfl ?_
  by_cases c2 : l1 = 0
  · have hf := i_pos c2 hf
    refine aw_tabIn (tgt := 40) dX7_count_5 (by rw [c2]; decide) (by rw [c2]; decide) (by rw [c2]; rfl) (by decide) ?_
    refine aw_aload_n 0 dX7_count_40 rfl rfl ?_
    obtain ⟨r3, er3, hf⟩ := b_some hf
    refine aw_getR dX7_count_41 gfX7_9 er3 ?_
    refine aw_iconst (v := 0) dX7_count_44 (by decide) ?_
    obtain ⟨x4, ex4, hf⟩ := b_some hf
    refine aw_iald dX7_count_45 ex4 ?_
    have hq := Option.some.inj hf
    subst hq
    exact aw_iret hr dX7_count_46 ⟨rfl, rfl, rfl⟩
  have hf := i_neg c2 hf
  by_cases c5 : l1 = 1
  · have hf := i_pos c5 hf
    refine aw_tabIn (tgt := 47) dX7_count_5 (by rw [c5]; decide) (by rw [c5]; decide) (by rw [c5]; rfl) (by decide) ?_
    refine aw_aload_n 0 dX7_count_47 rfl rfl ?_
    obtain ⟨r6, er6, hf⟩ := b_some hf
    refine aw_getR dX7_count_48 gfX7_9 er6 ?_
    refine aw_iconst (v := 1) dX7_count_51 (by decide) ?_
    obtain ⟨x7, ex7, hf⟩ := b_some hf
    refine aw_iald dX7_count_52 ex7 ?_
    have hq := Option.some.inj hf
    subst hq
    exact aw_iret hr dX7_count_53 ⟨rfl, rfl, rfl⟩
  have hf := i_neg c5 hf
  by_cases c8 : l1 = 2
  · have hf := i_pos c8 hf
    refine aw_tabIn (tgt := 54) dX7_count_5 (by rw [c8]; decide) (by rw [c8]; decide) (by rw [c8]; rfl) (by decide) ?_
    refine aw_aload_n 0 dX7_count_54 rfl rfl ?_
    obtain ⟨q9, eq9, hf⟩ := b_some hf
    refine aw_cV (as := []) dX7_count_55 moX7_leftSet voX7_leftSet mlX7_111 (k_X7_leftSet eq9) rfl (rm_ok (by omega) (by decide)) ⟨Nat.le_refl _, Nat.le_refl _⟩ (Nat.le_of_ble_eq_true rfl) rfl (c_X7_leftSet eq9) ?_
    obtain ⟨q10, eq10, hf⟩ := b_some hf
    refine aw_cS (as := [.int q9.1]) dX7_count_58 moX7_ones soX7_ones mlX7_72 (rm_ok (by omega) (by decide)) ⟨Nat.le_refl _, Nat.le_refl _⟩ (Nat.le_of_ble_eq_true rfl) rfl (c_X7_ones eq10) ?_
    have hq := Option.some.inj hf
    subst hq
    exact aw_iret hr dX7_count_61 ⟨rfl, rfl, rfl⟩
  have hf := i_neg c8 hf
  by_cases c11 : l1 = 3
  · have hf := i_pos c11 hf
    refine aw_tabIn (tgt := 62) dX7_count_5 (by rw [c11]; decide) (by rw [c11]; decide) (by rw [c11]; rfl) (by decide) ?_
    refine aw_aload_n 0 dX7_count_62 rfl rfl ?_
    obtain ⟨x12, ex12, hf⟩ := b_some hf
    refine aw_getI dX7_count_63 gfX7_129 ex12 ?_
    have hq := Option.some.inj hf
    subst hq
    exact aw_iret hr dX7_count_66 ⟨rfl, rfl, rfl⟩
  have hf := i_neg c11 hf
  by_cases c13 : l1 = 4
  · have hf := i_pos c13 hf
    refine aw_tabIn (tgt := 67) dX7_count_5 (by rw [c13]; decide) (by rw [c13]; decide) (by rw [c13]; rfl) (by decide) ?_
    refine aw_aload_n 0 dX7_count_67 rfl rfl ?_
    obtain ⟨r14, er14, hf⟩ := b_some hf
    refine aw_getR dX7_count_68 gfX7_9 er14 ?_
    refine aw_iconst (v := 2) dX7_count_71 (by decide) ?_
    obtain ⟨x15, ex15, hf⟩ := b_some hf
    refine aw_iald dX7_count_72 ex15 ?_
    have hq := Option.some.inj hf
    subst hq
    exact aw_iret hr dX7_count_73 ⟨rfl, rfl, rfl⟩
  have hf := i_neg c13 hf
  refine aw_tabOut (tgt := 74) dX7_count_5 (tab_out (N := 5) (by decide) (by decide) (fun j hj => ?_)) (by decide) ?_
  · match j, hj with
    | 0, _ => exact c2
    | 1, _ => exact c5
    | 2, _ => exact c8
    | 3, _ => exact c11
    | 4, _ => exact c13
  refine aw_bipush (v := -2) dX7_count_74 (by decide) ?_
  have hq := Option.some.inj hf
  subst hq
  exact aw_iret hr dX7_count_76 ⟨rfl, rfl, rfl⟩
theorem k_X7_count {l0 : Nat} {l1 : Int32} {h0 : Hp} {q : Int32 × Hp} (hf : f_X7_count l0 l1 h0 = some q) : ck h0 l0 7 = some () := by
  unfold f_X7_count at hf
  obtain ⟨u0, e0, hf⟩ := b_some hf
  exact e0
theorem dX7_drawn_0 : decode cX7_drawn 0 = .ok (.aload_n 0, 1) := by decide +kernel
theorem dX7_drawn_1 : decode cX7_drawn 1 = .ok (.iload_n 1, 1) := by decide +kernel
theorem dX7_drawn_2 : decode cX7_drawn 2 = .ok (.invokevirtual 242, 3) := by decide +kernel
theorem dX7_drawn_5 : decode cX7_drawn 5 = .ok (.aload_n 0, 1) := by decide +kernel
theorem dX7_drawn_6 : decode cX7_drawn 6 = .ok (.invokevirtual 245, 3) := by decide +kernel
theorem dX7_drawn_9 : decode cX7_drawn 9 = .ok (.ireturn, 1) := by decide +kernel
def f_X7_drawn (l0 : Nat) (l1 : Int32) (h0 : Hp) : Option (Int32 × Hp) :=
  (ck h0 l0 7).bind fun _ => (f_X7_draws l0 l1 h0).bind fun q1 => (f_X7_firstOnes l0 q1.2).bind fun q2 => some (q2.1, q2.2)
set_option maxRecDepth 100000 in
set_option maxHeartbeats 4000000 in
theorem c_X7_drawn {l0 : Nat} {l1 : Int32} {h0 : Hp} {q : Int32 × Hp} (hf : f_X7_drawn l0 l1 h0 = some q) : Mt 6 yX7_drawn cX7_drawn 2 (some .int) [.ref l0, .int l1] h0 (some (.int q.1)) q.2 := by
  refine MtQ.of (by decide) (Nat.le_of_ble_eq_true rfl) (fun X adr hr hn => ?_)
  unfold f_X7_drawn at hf
  show AW X cX7_drawn 2 RX7 (rmd 6 0 0) (Qmet X 0 0 (Qe (some (.int q.1)) q.2 adr)) 0 0 adr h0 0 [(0, .ref l0), (1, .int l1)] []
  obtain ⟨u0, e0, hf⟩ := b_some hf
  refine aw_aload_n 0 dX7_drawn_0 rfl rfl ?_
  refine aw_iload_n 1 dX7_drawn_1 rfl rfl ?_
  obtain ⟨q1, eq1, hf⟩ := b_some hf
  refine aw_cV0 (as := [.int l1]) dX7_drawn_2 moX7_draws voX7_draws mlX7_242 (k_X7_draws eq1) rfl (rm_ok (by omega) (by decide)) ⟨Nat.le_refl _, Nat.le_refl _⟩ (Nat.le_of_ble_eq_true rfl) rfl (c_X7_draws eq1) ?_
  refine aw_aload_n 0 dX7_drawn_5 rfl rfl ?_
  obtain ⟨q2, eq2, hf⟩ := b_some hf
  refine aw_cV (as := []) dX7_drawn_6 moX7_firstOnes voX7_firstOnes mlX7_245 (k_X7_firstOnes eq2) rfl (rm_ok (by omega) (by decide)) ⟨Nat.le_refl _, Nat.le_refl _⟩ (Nat.le_of_ble_eq_true rfl) rfl (c_X7_firstOnes eq2) ?_
  have hq := Option.some.inj hf
  subst hq
  exact aw_iret hr dX7_drawn_9 ⟨rfl, rfl, rfl⟩
theorem k_X7_drawn {l0 : Nat} {l1 : Int32} {h0 : Hp} {q : Int32 × Hp} (hf : f_X7_drawn l0 l1 h0 = some q) : ck h0 l0 7 = some () := by
  unfold f_X7_drawn at hf
  obtain ⟨u0, e0, hf⟩ := b_some hf
  exact e0
theorem dX7_isByte_0 : decode cX7_isByte 0 = .ok (.iload_n 0, 1) := by decide +kernel
theorem dX7_isByte_1 : decode cX7_isByte 1 = .ok (.i2l, 1) := by decide +kernel
theorem dX7_isByte_2 : decode cX7_isByte 2 = .ok (.lconst 0, 1) := by decide +kernel
theorem dX7_isByte_3 : decode cX7_isByte 3 = .ok (.ldc2_w 121, 3) := by decide +kernel
theorem dX7_isByte_6 : decode cX7_isByte 6 = .ok (.invokestatic 43, 3) := by decide +kernel
theorem dX7_isByte_9 : decode cX7_isByte 9 = .ok (.ireturn, 1) := by decide +kernel
def f_X7_isByte (l0 : Int32) (h0 : Hp) : Option (Int32 × Hp) :=
  (f_X7_in (Int32.toInt64 l0) (0 : Int64) (255 : Int64) h0).bind fun q1 => (bz q1.1).bind fun u2 => some (q1.1, q1.2)
set_option maxRecDepth 100000 in
set_option maxHeartbeats 4000000 in
theorem c_X7_isByte {l0 : Int32} {h0 : Hp} {q : Int32 × Hp} (hf : f_X7_isByte l0 h0 = some q) : Mt 2 yX7_isByte cX7_isByte 1 (some .boolean) [.int l0] h0 (some (.int q.1)) q.2 := by
  refine MtQ.of (by decide) (Nat.le_of_ble_eq_true rfl) (fun X adr hr hn => ?_)
  unfold f_X7_isByte at hf
  show AW X cX7_isByte 1 RX7 (rmd 2 0 0) (Qmet X 0 0 (Qe (some (.int q.1)) q.2 adr)) 0 0 adr h0 0 [(0, .int l0)] []
  refine aw_iload_n 0 dX7_isByte_0 rfl rfl ?_
  refine aw_i2l dX7_isByte_1 ?_
  refine aw_lconst (v := 0) dX7_isByte_2 (by decide) ?_
  refine aw_ldc2 dX7_isByte_3 klX7_121 ?_
  obtain ⟨q1, eq1, hf⟩ := b_some hf
  refine aw_cS (as := [.long (Int32.toInt64 l0), .long (0 : Int64), .long (255 : Int64)]) dX7_isByte_6 moX7_in soX7_in mlX7_43 (rm_ok (by omega) (by decide)) ⟨Nat.le_refl _, Nat.le_refl _⟩ (Nat.le_of_ble_eq_true rfl) rfl (c_X7_in eq1) ?_
  obtain ⟨u2, eu2, hf⟩ := b_some hf
  have hq := Option.some.inj hf
  subst hq
  exact aw_zret hr (bz_nar eu2) dX7_isByte_9 ⟨rfl, rfl, rfl⟩
theorem dX7_feed_0 : decode cX7_feed 0 = .ok (.iload_n 1, 1) := by decide +kernel
theorem dX7_feed_1 : decode cX7_feed 1 = .ok (.i2l, 1) := by decide +kernel
theorem dX7_feed_2 : decode cX7_feed 2 = .ok (.lconst 1, 1) := by decide +kernel
theorem dX7_feed_3 : decode cX7_feed 3 = .ok (.ldc2_w 123, 3) := by decide +kernel
theorem dX7_feed_6 : decode cX7_feed 6 = .ok (.invokestatic 43, 3) := by decide +kernel
theorem dX7_feed_9 : decode cX7_feed 9 = .ok (.ifCond .eq 41, 3) := by decide +kernel
theorem dX7_feed_12 : decode cX7_feed 12 = .ok (.iload_n 2, 1) := by decide +kernel
theorem dX7_feed_13 : decode cX7_feed 13 = .ok (.invokestatic 125, 3) := by decide +kernel
theorem dX7_feed_16 : decode cX7_feed 16 = .ok (.ifCond .eq 34, 3) := by decide +kernel
theorem dX7_feed_19 : decode cX7_feed 19 = .ok (.iload_n 3, 1) := by decide +kernel
theorem dX7_feed_20 : decode cX7_feed 20 = .ok (.invokestatic 125, 3) := by decide +kernel
theorem dX7_feed_23 : decode cX7_feed 23 = .ok (.ifCond .eq 27, 3) := by decide +kernel
theorem dX7_feed_26 : decode cX7_feed 26 = .ok (.iload 4, 2) := by decide +kernel
theorem dX7_feed_28 : decode cX7_feed 28 = .ok (.invokestatic 125, 3) := by decide +kernel
theorem dX7_feed_31 : decode cX7_feed 31 = .ok (.ifCond .eq 19, 3) := by decide +kernel
theorem dX7_feed_34 : decode cX7_feed 34 = .ok (.iload 5, 2) := by decide +kernel
theorem dX7_feed_36 : decode cX7_feed 36 = .ok (.invokestatic 125, 3) := by decide +kernel
theorem dX7_feed_39 : decode cX7_feed 39 = .ok (.ifCond .eq 11, 3) := by decide +kernel
theorem dX7_feed_42 : decode cX7_feed 42 = .ok (.iload 6, 2) := by decide +kernel
theorem dX7_feed_44 : decode cX7_feed 44 = .ok (.invokestatic 125, 3) := by decide +kernel
theorem dX7_feed_47 : decode cX7_feed 47 = .ok (.ifCond .ne 6, 3) := by decide +kernel
theorem dX7_feed_50 : decode cX7_feed 50 = .ok (.bipush (-2), 2) := by decide +kernel
theorem dX7_feed_52 : decode cX7_feed 52 = .ok (.ireturn, 1) := by decide +kernel
theorem dX7_feed_53 : decode cX7_feed 53 = .ok (.aload_n 0, 1) := by decide +kernel
theorem dX7_feed_54 : decode cX7_feed 54 = .ok (.getfield 129, 3) := by decide +kernel
theorem dX7_feed_57 : decode cX7_feed 57 = .ok (.iload_n 1, 1) := by decide +kernel
theorem dX7_feed_58 : decode cX7_feed 58 = .ok (.iadd, 1) := by decide +kernel
theorem dX7_feed_59 : decode cX7_feed 59 = .ok (.bipush 40, 2) := by decide +kernel
theorem dX7_feed_61 : decode cX7_feed 61 = .ok (.if_icmp .le 6, 3) := by decide +kernel
theorem dX7_feed_64 : decode cX7_feed 64 = .ok (.bipush (-4), 2) := by decide +kernel
theorem dX7_feed_66 : decode cX7_feed 66 = .ok (.ireturn, 1) := by decide +kernel
theorem dX7_feed_67 : decode cX7_feed 67 = .ok (.iconst 0, 1) := by decide +kernel
theorem dX7_feed_68 : decode cX7_feed 68 = .ok (.istore 7, 2) := by decide +kernel
theorem dX7_feed_70 : decode cX7_feed 70 = .ok (.iload 7, 2) := by decide +kernel
theorem dX7_feed_72 : decode cX7_feed 72 = .ok (.iload_n 1, 1) := by decide +kernel
theorem dX7_feed_73 : decode cX7_feed 73 = .ok (.if_icmp .ge 71, 3) := by decide +kernel
theorem dX7_feed_76 : decode cX7_feed 76 = .ok (.aload_n 0, 1) := by decide +kernel
theorem dX7_feed_77 : decode cX7_feed 77 = .ok (.getfield 25, 3) := by decide +kernel
theorem dX7_feed_80 : decode cX7_feed 80 = .ok (.aload_n 0, 1) := by decide +kernel
theorem dX7_feed_81 : decode cX7_feed 81 = .ok (.getfield 129, 3) := by decide +kernel
theorem dX7_feed_84 : decode cX7_feed 84 = .ok (.iload 7, 2) := by decide +kernel
theorem dX7_feed_86 : decode cX7_feed 86 = .ok (.ifCond .ne 7, 3) := by decide +kernel
theorem dX7_feed_89 : decode cX7_feed 89 = .ok (.iload_n 2, 1) := by decide +kernel
theorem dX7_feed_90 : decode cX7_feed 90 = .ok (.goto 37, 3) := by decide +kernel
theorem dX7_feed_93 : decode cX7_feed 93 = .ok (.iload 7, 2) := by decide +kernel
theorem dX7_feed_95 : decode cX7_feed 95 = .ok (.iconst 1, 1) := by decide +kernel
theorem dX7_feed_96 : decode cX7_feed 96 = .ok (.if_icmp .ne 7, 3) := by decide +kernel
theorem dX7_feed_99 : decode cX7_feed 99 = .ok (.iload_n 3, 1) := by decide +kernel
theorem dX7_feed_100 : decode cX7_feed 100 = .ok (.goto 27, 3) := by decide +kernel
theorem dX7_feed_103 : decode cX7_feed 103 = .ok (.iload 7, 2) := by decide +kernel
theorem dX7_feed_105 : decode cX7_feed 105 = .ok (.iconst 2, 1) := by decide +kernel
theorem dX7_feed_106 : decode cX7_feed 106 = .ok (.if_icmp .ne 8, 3) := by decide +kernel
theorem dX7_feed_109 : decode cX7_feed 109 = .ok (.iload 4, 2) := by decide +kernel
theorem dX7_feed_111 : decode cX7_feed 111 = .ok (.goto 16, 3) := by decide +kernel
theorem dX7_feed_114 : decode cX7_feed 114 = .ok (.iload 7, 2) := by decide +kernel
theorem dX7_feed_116 : decode cX7_feed 116 = .ok (.iconst 3, 1) := by decide +kernel
theorem dX7_feed_117 : decode cX7_feed 117 = .ok (.if_icmp .ne 8, 3) := by decide +kernel
theorem dX7_feed_120 : decode cX7_feed 120 = .ok (.iload 5, 2) := by decide +kernel
theorem dX7_feed_122 : decode cX7_feed 122 = .ok (.goto 5, 3) := by decide +kernel
theorem dX7_feed_125 : decode cX7_feed 125 = .ok (.iload 6, 2) := by decide +kernel
theorem dX7_feed_127 : decode cX7_feed 127 = .ok (.iastore, 1) := by decide +kernel
theorem dX7_feed_128 : decode cX7_feed 128 = .ok (.aload_n 0, 1) := by decide +kernel
theorem dX7_feed_129 : decode cX7_feed 129 = .ok (.dup, 1) := by decide +kernel
theorem dX7_feed_130 : decode cX7_feed 130 = .ok (.getfield 129, 3) := by decide +kernel
theorem dX7_feed_133 : decode cX7_feed 133 = .ok (.iconst 1, 1) := by decide +kernel
theorem dX7_feed_134 : decode cX7_feed 134 = .ok (.iadd, 1) := by decide +kernel
theorem dX7_feed_135 : decode cX7_feed 135 = .ok (.putfield 129, 3) := by decide +kernel
theorem dX7_feed_138 : decode cX7_feed 138 = .ok (.iinc 7 1, 3) := by decide +kernel
theorem dX7_feed_141 : decode cX7_feed 141 = .ok (.goto (-71), 3) := by decide +kernel
theorem dX7_feed_144 : decode cX7_feed 144 = .ok (.aload_n 0, 1) := by decide +kernel
theorem dX7_feed_145 : decode cX7_feed 145 = .ok (.getfield 129, 3) := by decide +kernel
theorem dX7_feed_148 : decode cX7_feed 148 = .ok (.ireturn, 1) := by decide +kernel
def f_X7_feed_127 (k70 : Nat × Int32 × Int32 × Int32 × Int32 × Int32 × Int32 × Int32 → Hp → Option (Int32 × Hp)) (l0 : Nat) (l1 : Int32) (l2 : Int32) (l3 : Int32) (l4 : Int32) (l5 : Int32) (l6 : Int32) (l7 : Int32) (s0 : Int32) (s1 : Int32) (s2 : Nat) (h0 : Hp) : Option (Int32 × Hp) :=
  (aS h0 s2 s1 s0).bind fun h1 => (gI h1 l0 7 11).bind fun x2 => (pI h1 l0 7 11 (x2 + (1 : Int32))).bind fun h3 => (some (l7 + 1)).bind fun x4 => k70 (l0, l1, l2, l3, l4, l5, l6, x4) h3
set_option maxRecDepth 100000 in
set_option maxHeartbeats 4000000 in
theorem c_X7_feed_127 {X : Cx} {adr : Nat → Nat} {q : Int32 × Hp} (hr : (mth X).sig.returnType = (some .int)) {k70 : Nat × Int32 × Int32 × Int32 × Int32 × Int32 × Int32 × Int32 → Hp → Option (Int32 × Hp)} (hk70 : ∀ v h, k70 v h = some q → AW X cX7_feed 8 RX7 (rmd 3 0 0) (Qmet X 0 0 (Qe (some (.int q.1)) q.2 adr)) 0 0 adr h 70 [(0, .ref v.1), (1, .int v.2.1), (2, .int v.2.2.1), (3, .int v.2.2.2.1), (4, .int v.2.2.2.2.1), (5, .int v.2.2.2.2.2.1), (6, .int v.2.2.2.2.2.2.1), (7, .int v.2.2.2.2.2.2.2)] []) {l0 : Nat} {l1 : Int32} {l2 : Int32} {l3 : Int32} {l4 : Int32} {l5 : Int32} {l6 : Int32} {l7 : Int32} {s0 : Int32} {s1 : Int32} {s2 : Nat} {h0 : Hp} (hf : f_X7_feed_127 k70 l0 l1 l2 l3 l4 l5 l6 l7 s0 s1 s2 h0 = some q) : AW X cX7_feed 8 RX7 (rmd 3 0 0) (Qmet X 0 0 (Qe (some (.int q.1)) q.2 adr)) 0 0 adr h0 127 [(0, .ref l0), (1, .int l1), (2, .int l2), (3, .int l3), (4, .int l4), (5, .int l5), (6, .int l6), (7, .int l7)] [.int s0, .int s1, .ref s2] := by
  unfold f_X7_feed_127 at hf
  obtain ⟨h1, eh1, hf⟩ := b_some hf
  refine aw_iast dX7_feed_127 eh1 ?_
  refine aw_aload_n 0 dX7_feed_128 rfl rfl ?_
  refine aw_dup dX7_feed_129 rfl ?_
  obtain ⟨x2, ex2, hf⟩ := b_some hf
  refine aw_getI dX7_feed_130 gfX7_129 ex2 ?_
  refine aw_iconst (v := 1) dX7_feed_133 (by decide) ?_
  refine aw_iadd dX7_feed_134 ?_
  obtain ⟨h3, eh3, hf⟩ := b_some hf
  refine aw_putI dX7_feed_135 pfX7_129 eh3 ?_
  obtain ⟨x4, ex4, hf⟩ := b_some hf
  refine aw_iinc (v := x4) (L' := [(7, .int x4), (0, .ref l0), (1, .int l1), (2, .int l2), (3, .int l3), (4, .int l4), (5, .int l5), (6, .int l6)]) 7 dX7_feed_138 rfl (Option.some.inj ex4) (by decide) rfl ?_
  refine aw_goto (tgt := 70) dX7_feed_141 (by decide) ?_
  exact aw_sub [1, 2, 3, 4, 5, 6, 7, 0] rfl (hk70 _ _ hf)
def f_X7_feed_70 (k70 : Nat × Int32 × Int32 × Int32 × Int32 × Int32 × Int32 × Int32 → Hp → Option (Int32 × Hp)) (v : Nat × Int32 × Int32 × Int32 × Int32 × Int32 × Int32 × Int32) (h0 : Hp) : Option (Int32 × Hp) :=
  match v with
  | (l0, l1, l2, l3, l4, l5, l6, l7) => if l1 ≤ l7 then ((gI h0 l0 7 11).bind fun x2 => some (x2, h0)) else ((gR h0 l0 7 10).bind fun r3 => (gI h0 l0 7 11).bind fun x4 => if l7 = 0 then (f_X7_feed_127 k70 l0 l1 l2 l3 l4 l5 l6 l7 l2 x4 r3 h0) else (if l7 = (1 : Int32) then (f_X7_feed_127 k70 l0 l1 l2 l3 l4 l5 l6 l7 l3 x4 r3 h0) else (if l7 = (2 : Int32) then (f_X7_feed_127 k70 l0 l1 l2 l3 l4 l5 l6 l7 l4 x4 r3 h0) else (if l7 = (3 : Int32) then (f_X7_feed_127 k70 l0 l1 l2 l3 l4 l5 l6 l7 l5 x4 r3 h0) else (f_X7_feed_127 k70 l0 l1 l2 l3 l4 l5 l6 l7 l6 x4 r3 h0)))))
set_option maxRecDepth 100000 in
set_option maxHeartbeats 4000000 in
theorem c_X7_feed_70 {X : Cx} {adr : Nat → Nat} {q : Int32 × Hp} (hr : (mth X).sig.returnType = (some .int)) (n : Nat) : ∀ v h0, lp (f_X7_feed_70) n v h0 = some q → AW X cX7_feed 8 RX7 (rmd 3 0 0) (Qmet X 0 0 (Qe (some (.int q.1)) q.2 adr)) 0 0 adr h0 70 [(0, .ref v.1), (1, .int v.2.1), (2, .int v.2.2.1), (3, .int v.2.2.2.1), (4, .int v.2.2.2.2.1), (5, .int v.2.2.2.2.2.1), (6, .int v.2.2.2.2.2.2.1), (7, .int v.2.2.2.2.2.2.2)] [] := by
  refine aw_lp (fun k70 hk70 v h0 hf => ?_) n
  obtain ⟨l0, l1, l2, l3, l4, l5, l6, l7⟩ := v
  unfold f_X7_feed_70 at hf
  dsimp only at hf
  show AW X cX7_feed 8 RX7 (rmd 3 0 0) (Qmet X 0 0 (Qe (some (.int q.1)) q.2 adr)) 0 0 adr h0 70 [(0, .ref l0), (1, .int l1), (2, .int l2), (3, .int l3), (4, .int l4), (5, .int l5), (6, .int l6), (7, .int l7)] []
  refine aw_iload 7 dX7_feed_70 rfl ?_
  refine aw_iload_n 1 dX7_feed_72 rfl rfl ?_
  refine aw_icmp_ge (tgt := 144) dX7_feed_73 (by decide) (fun c1 => ?_) (fun c1 => ?_)
  · have hf := i_pos c1 hf
    refine aw_aload_n 0 dX7_feed_144 rfl rfl ?_
    obtain ⟨x2, ex2, hf⟩ := b_some hf
    refine aw_getI dX7_feed_145 gfX7_129 ex2 ?_
    have hq := Option.some.inj hf
    subst hq
    exact aw_iret hr dX7_feed_148 ⟨rfl, rfl, rfl⟩
  · have hf := i_neg c1 hf
    refine aw_aload_n 0 dX7_feed_76 rfl rfl ?_
    obtain ⟨r3, er3, hf⟩ := b_some hf
    refine aw_getR dX7_feed_77 gfX7_25 er3 ?_
    refine aw_aload_n 0 dX7_feed_80 rfl rfl ?_
    obtain ⟨x4, ex4, hf⟩ := b_some hf
    refine aw_getI dX7_feed_81 gfX7_129 ex4 ?_
    refine aw_iload 7 dX7_feed_84 rfl ?_
    refine aw_if_ne (tgt := 93) dX7_feed_86 (by decide) (fun c5 => ?_) (fun c5 => ?_)
    · have hf := i_neg c5 hf
      refine aw_iload 7 dX7_feed_93 rfl ?_
      refine aw_iconst (v := 1) dX7_feed_95 (by decide) ?_
      refine aw_icmp_ne (tgt := 103) dX7_feed_96 (by decide) (fun c6 => ?_) (fun c6 => ?_)
      · have hf := i_neg c6 hf
        refine aw_iload 7 dX7_feed_103 rfl ?_
        refine aw_iconst (v := 2) dX7_feed_105 (by decide) ?_
        refine aw_icmp_ne (tgt := 114) dX7_feed_106 (by decide) (fun c7 => ?_) (fun c7 => ?_)
        · have hf := i_neg c7 hf
          refine aw_iload 7 dX7_feed_114 rfl ?_
          refine aw_iconst (v := 3) dX7_feed_116 (by decide) ?_
          refine aw_icmp_ne (tgt := 125) dX7_feed_117 (by decide) (fun c8 => ?_) (fun c8 => ?_)
          · have hf := i_neg c8 hf
            refine aw_iload 6 dX7_feed_125 rfl ?_
            exact aw_sub [0, 1, 2, 3, 4, 5, 6, 7] rfl (c_X7_feed_127 hr hk70 hf)
          · have hf := i_pos c8 hf
            refine aw_iload 5 dX7_feed_120 rfl ?_
            refine aw_goto (tgt := 127) dX7_feed_122 (by decide) ?_
            exact aw_sub [0, 1, 2, 3, 4, 5, 6, 7] rfl (c_X7_feed_127 hr hk70 hf)
        · have hf := i_pos c7 hf
          refine aw_iload 4 dX7_feed_109 rfl ?_
          refine aw_goto (tgt := 127) dX7_feed_111 (by decide) ?_
          exact aw_sub [0, 1, 2, 3, 4, 5, 6, 7] rfl (c_X7_feed_127 hr hk70 hf)
      · have hf := i_pos c6 hf
        refine aw_iload_n 3 dX7_feed_99 rfl rfl ?_
        refine aw_goto (tgt := 127) dX7_feed_100 (by decide) ?_
        exact aw_sub [0, 1, 2, 3, 4, 5, 6, 7] rfl (c_X7_feed_127 hr hk70 hf)
    · have hf := i_pos c5 hf
      refine aw_iload_n 2 dX7_feed_89 rfl rfl ?_
      refine aw_goto (tgt := 127) dX7_feed_90 (by decide) ?_
      exact aw_sub [0, 1, 2, 3, 4, 5, 6, 7] rfl (c_X7_feed_127 hr hk70 hf)
def f_X7_feed (l0 : Nat) (l1 : Int32) (l2 : Int32) (l3 : Int32) (l4 : Int32) (l5 : Int32) (l6 : Int32) (h0 : Hp) : Option (Int32 × Hp) :=
  (ck h0 l0 7).bind fun _ => (f_X7_in (Int32.toInt64 l1) (1 : Int64) (5 : Int64) h0).bind fun q1 => if q1.1 = 0 then (some ((-2 : Int32), q1.2)) else ((f_X7_isByte l2 q1.2).bind fun q3 => if q3.1 = 0 then (some ((-2 : Int32), q3.2)) else ((f_X7_isByte l3 q3.2).bind fun q5 => if q5.1 = 0 then (some ((-2 : Int32), q5.2)) else ((f_X7_isByte l4 q5.2).bind fun q7 => if q7.1 = 0 then (some ((-2 : Int32), q7.2)) else ((f_X7_isByte l5 q7.2).bind fun q9 => if q9.1 = 0 then (some ((-2 : Int32), q9.2)) else ((f_X7_isByte l6 q9.2).bind fun q11 => if q11.1 = 0 then (some ((-2 : Int32), q11.2)) else ((gI q11.2 l0 7 11).bind fun x13 => if (x13 + l1) ≤ (40 : Int32) then (lp (f_X7_feed_70) 600 (l0, l1, l2, l3, l4, l5, l6, (0 : Int32)) q11.2) else (some ((-4 : Int32), q11.2))))))))
set_option maxRecDepth 100000 in
set_option maxHeartbeats 4000000 in
theorem c_X7_feed {l0 : Nat} {l1 : Int32} {l2 : Int32} {l3 : Int32} {l4 : Int32} {l5 : Int32} {l6 : Int32} {h0 : Hp} {q : Int32 × Hp} (hf : f_X7_feed l0 l1 l2 l3 l4 l5 l6 h0 = some q) : Mt 3 yX7_feed cX7_feed 8 (some .int) [.ref l0, .int l1, .int l2, .int l3, .int l4, .int l5, .int l6] h0 (some (.int q.1)) q.2 := by
  refine MtQ.of (by decide) (Nat.le_of_ble_eq_true rfl) (fun X adr hr hn => ?_)
  unfold f_X7_feed at hf
  show AW X cX7_feed 8 RX7 (rmd 3 0 0) (Qmet X 0 0 (Qe (some (.int q.1)) q.2 adr)) 0 0 adr h0 0 [(0, .ref l0), (1, .int l1), (2, .int l2), (3, .int l3), (4, .int l4), (5, .int l5), (6, .int l6)] []
  obtain ⟨u0, e0, hf⟩ := b_some hf
  refine aw_iload_n 1 dX7_feed_0 rfl rfl ?_
  refine aw_i2l dX7_feed_1 ?_
  refine aw_lconst (v := 1) dX7_feed_2 (by decide) ?_
  refine aw_ldc2 dX7_feed_3 klX7_123 ?_
  obtain ⟨q1, eq1, hf⟩ := b_some hf
  refine aw_cS (as := [.long (Int32.toInt64 l1), .long (1 : Int64), .long (5 : Int64)]) dX7_feed_6 moX7_in soX7_in mlX7_43 (rm_ok (by omega) (by decide)) ⟨Nat.le_refl _, Nat.le_refl _⟩ (Nat.le_of_ble_eq_true rfl) rfl (c_X7_in eq1) ?_
  refine aw_if_eq (tgt := 50) dX7_feed_9 (by decide) (fun c2 => ?_) (fun c2 => ?_)
  · have hf := i_pos c2 hf
    refine aw_bipush (v := -2) dX7_feed_50 (by decide) ?_
    have hq := Option.some.inj hf
    subst hq
    exact aw_iret hr dX7_feed_52 ⟨rfl, rfl, rfl⟩
  · have hf := i_neg c2 hf
    refine aw_iload_n 2 dX7_feed_12 rfl rfl ?_
    obtain ⟨q3, eq3, hf⟩ := b_some hf
    refine aw_cS (as := [.int l2]) dX7_feed_13 moX7_isByte soX7_isByte mlX7_125 (rm_ok (by omega) (by decide)) ⟨Nat.le_refl _, Nat.le_refl _⟩ (Nat.le_of_ble_eq_true rfl) rfl (c_X7_isByte eq3) ?_
    refine aw_if_eq (tgt := 50) dX7_feed_16 (by decide) (fun c4 => ?_) (fun c4 => ?_)
    · have hf := i_pos c4 hf
      refine aw_bipush (v := -2) dX7_feed_50 (by decide) ?_
      have hq := Option.some.inj hf
      subst hq
      exact aw_iret hr dX7_feed_52 ⟨rfl, rfl, rfl⟩
    · have hf := i_neg c4 hf
      refine aw_iload_n 3 dX7_feed_19 rfl rfl ?_
      obtain ⟨q5, eq5, hf⟩ := b_some hf
      refine aw_cS (as := [.int l3]) dX7_feed_20 moX7_isByte soX7_isByte mlX7_125 (rm_ok (by omega) (by decide)) ⟨Nat.le_refl _, Nat.le_refl _⟩ (Nat.le_of_ble_eq_true rfl) rfl (c_X7_isByte eq5) ?_
      refine aw_if_eq (tgt := 50) dX7_feed_23 (by decide) (fun c6 => ?_) (fun c6 => ?_)
      · have hf := i_pos c6 hf
        refine aw_bipush (v := -2) dX7_feed_50 (by decide) ?_
        have hq := Option.some.inj hf
        subst hq
        exact aw_iret hr dX7_feed_52 ⟨rfl, rfl, rfl⟩
      · have hf := i_neg c6 hf
        refine aw_iload 4 dX7_feed_26 rfl ?_
        obtain ⟨q7, eq7, hf⟩ := b_some hf
        refine aw_cS (as := [.int l4]) dX7_feed_28 moX7_isByte soX7_isByte mlX7_125 (rm_ok (by omega) (by decide)) ⟨Nat.le_refl _, Nat.le_refl _⟩ (Nat.le_of_ble_eq_true rfl) rfl (c_X7_isByte eq7) ?_
        refine aw_if_eq (tgt := 50) dX7_feed_31 (by decide) (fun c8 => ?_) (fun c8 => ?_)
        · have hf := i_pos c8 hf
          refine aw_bipush (v := -2) dX7_feed_50 (by decide) ?_
          have hq := Option.some.inj hf
          subst hq
          exact aw_iret hr dX7_feed_52 ⟨rfl, rfl, rfl⟩
        · have hf := i_neg c8 hf
          refine aw_iload 5 dX7_feed_34 rfl ?_
          obtain ⟨q9, eq9, hf⟩ := b_some hf
          refine aw_cS (as := [.int l5]) dX7_feed_36 moX7_isByte soX7_isByte mlX7_125 (rm_ok (by omega) (by decide)) ⟨Nat.le_refl _, Nat.le_refl _⟩ (Nat.le_of_ble_eq_true rfl) rfl (c_X7_isByte eq9) ?_
          refine aw_if_eq (tgt := 50) dX7_feed_39 (by decide) (fun c10 => ?_) (fun c10 => ?_)
          · have hf := i_pos c10 hf
            refine aw_bipush (v := -2) dX7_feed_50 (by decide) ?_
            have hq := Option.some.inj hf
            subst hq
            exact aw_iret hr dX7_feed_52 ⟨rfl, rfl, rfl⟩
          · have hf := i_neg c10 hf
            refine aw_iload 6 dX7_feed_42 rfl ?_
            obtain ⟨q11, eq11, hf⟩ := b_some hf
            refine aw_cS (as := [.int l6]) dX7_feed_44 moX7_isByte soX7_isByte mlX7_125 (rm_ok (by omega) (by decide)) ⟨Nat.le_refl _, Nat.le_refl _⟩ (Nat.le_of_ble_eq_true rfl) rfl (c_X7_isByte eq11) ?_
            refine aw_if_ne (tgt := 53) dX7_feed_47 (by decide) (fun c12 => ?_) (fun c12 => ?_)
            · have hf := i_neg c12 hf
              refine aw_aload_n 0 dX7_feed_53 rfl rfl ?_
              obtain ⟨x13, ex13, hf⟩ := b_some hf
              refine aw_getI dX7_feed_54 gfX7_129 ex13 ?_
              refine aw_iload_n 1 dX7_feed_57 rfl rfl ?_
              refine aw_iadd dX7_feed_58 ?_
              refine aw_bipush (v := 40) dX7_feed_59 (by decide) ?_
              refine aw_icmp_le (tgt := 67) dX7_feed_61 (by decide) (fun c14 => ?_) (fun c14 => ?_)
              · have hf := i_pos c14 hf
                refine aw_iconst (v := 0) dX7_feed_67 (by decide) ?_
                refine aw_istore (L' := [(7, .int (0 : Int32)), (0, .ref l0), (1, .int l1), (2, .int l2), (3, .int l3), (4, .int l4), (5, .int l5), (6, .int l6)]) dX7_feed_68 (by decide) rfl ?_
                exact aw_sub [1, 2, 3, 4, 5, 6, 7, 0] rfl (c_X7_feed_70 hr 600 _ _ hf)
              · have hf := i_neg c14 hf
                refine aw_bipush (v := -4) dX7_feed_64 (by decide) ?_
                have hq := Option.some.inj hf
                subst hq
                exact aw_iret hr dX7_feed_66 ⟨rfl, rfl, rfl⟩
            · have hf := i_pos c12 hf
              refine aw_bipush (v := -2) dX7_feed_50 (by decide) ?_
              have hq := Option.some.inj hf
              subst hq
              exact aw_iret hr dX7_feed_52 ⟨rfl, rfl, rfl⟩
theorem k_X7_feed {l0 : Nat} {l1 : Int32} {l2 : Int32} {l3 : Int32} {l4 : Int32} {l5 : Int32} {l6 : Int32} {h0 : Hp} {q : Int32 × Hp} (hf : f_X7_feed l0 l1 l2 l3 l4 l5 l6 h0 = some q) : ck h0 l0 7 = some () := by
  unfold f_X7_feed at hf
  obtain ⟨u0, e0, hf⟩ := b_some hf
  exact e0
theorem dX7_sheet_0 : decode cX7_sheet 0 = .ok (.iload_n 1, 1) := by decide +kernel
theorem dX7_sheet_1 : decode cX7_sheet 1 = .ok (.invokestatic 253, 3) := by decide +kernel
theorem dX7_sheet_4 : decode cX7_sheet 4 = .ok (.ifCond .eq 26, 3) := by decide +kernel
theorem dX7_sheet_7 : decode cX7_sheet 7 = .ok (.iload_n 2, 1) := by decide +kernel
theorem dX7_sheet_8 : decode cX7_sheet 8 = .ok (.i2l, 1) := by decide +kernel
theorem dX7_sheet_9 : decode cX7_sheet 9 = .ok (.ldc2_w 269, 3) := by decide +kernel
theorem dX7_sheet_12 : decode cX7_sheet 12 = .ok (.lconst 1, 1) := by decide +kernel
theorem dX7_sheet_13 : decode cX7_sheet 13 = .ok (.invokestatic 43, 3) := by decide +kernel
theorem dX7_sheet_16 : decode cX7_sheet 16 = .ok (.ifCond .eq 14, 3) := by decide +kernel
theorem dX7_sheet_19 : decode cX7_sheet 19 = .ok (.iload_n 2, 1) := by decide +kernel
theorem dX7_sheet_20 : decode cX7_sheet 20 = .ok (.iconst (-1), 1) := by decide +kernel
theorem dX7_sheet_21 : decode cX7_sheet 21 = .ok (.if_icmp .eq 12, 3) := by decide +kernel
theorem dX7_sheet_24 : decode cX7_sheet 24 = .ok (.iload_n 3, 1) := by decide +kernel
theorem dX7_sheet_25 : decode cX7_sheet 25 = .ok (.bipush 40, 2) := by decide +kernel
theorem dX7_sheet_27 : decode cX7_sheet 27 = .ok (.if_icmp .le 6, 3) := by decide +kernel
theorem dX7_sheet_30 : decode cX7_sheet 30 = .ok (.bipush (-2), 2) := by decide +kernel
theorem dX7_sheet_32 : decode cX7_sheet 32 = .ok (.ireturn, 1) := by decide +kernel
theorem dX7_sheet_33 : decode cX7_sheet 33 = .ok (.iload_n 2, 1) := by decide +kernel
theorem dX7_sheet_34 : decode cX7_sheet 34 = .ok (.iconst (-1), 1) := by decide +kernel
theorem dX7_sheet_35 : decode cX7_sheet 35 = .ok (.if_icmp .eq 10, 3) := by decide +kernel
theorem dX7_sheet_38 : decode cX7_sheet 38 = .ok (.iload_n 3, 1) := by decide +kernel
theorem dX7_sheet_39 : decode cX7_sheet 39 = .ok (.ifCond .ge 6, 3) := by decide +kernel
theorem dX7_sheet_42 : decode cX7_sheet 42 = .ok (.bipush (-14), 2) := by decide +kernel
theorem dX7_sheet_44 : decode cX7_sheet 44 = .ok (.ireturn, 1) := by decide +kernel
theorem dX7_sheet_45 : decode cX7_sheet 45 = .ok (.aload_n 0, 1) := by decide +kernel
theorem dX7_sheet_46 : decode cX7_sheet 46 = .ok (.getfield 34, 3) := by decide +kernel
theorem dX7_sheet_49 : decode cX7_sheet 49 = .ok (.iload_n 1, 1) := by decide +kernel
theorem dX7_sheet_50 : decode cX7_sheet 50 = .ok (.iload_n 2, 1) := by decide +kernel
theorem dX7_sheet_51 : decode cX7_sheet 51 = .ok (.iastore, 1) := by decide +kernel
theorem dX7_sheet_52 : decode cX7_sheet 52 = .ok (.aload_n 0, 1) := by decide +kernel
theorem dX7_sheet_53 : decode cX7_sheet 53 = .ok (.getfield 37, 3) := by decide +kernel
theorem dX7_sheet_56 : decode cX7_sheet 56 = .ok (.iload_n 1, 1) := by decide +kernel
theorem dX7_sheet_57 : decode cX7_sheet 57 = .ok (.iload_n 2, 1) := by decide +kernel
theorem dX7_sheet_58 : decode cX7_sheet 58 = .ok (.iconst (-1), 1) := by decide +kernel
theorem dX7_sheet_59 : decode cX7_sheet 59 = .ok (.if_icmp .ne 7, 3) := by decide +kernel
theorem dX7_sheet_62 : decode cX7_sheet 62 = .ok (.iconst 0, 1) := by decide +kernel
theorem dX7_sheet_63 : decode cX7_sheet 63 = .ok (.goto 4, 3) := by decide +kernel
theorem dX7_sheet_66 : decode cX7_sheet 66 = .ok (.iload_n 3, 1) := by decide +kernel
theorem dX7_sheet_67 : decode cX7_sheet 67 = .ok (.iastore, 1) := by decide +kernel
theorem dX7_sheet_68 : decode cX7_sheet 68 = .ok (.iconst 0, 1) := by decide +kernel
theorem dX7_sheet_69 : decode cX7_sheet 69 = .ok (.istore 4, 2) := by decide +kernel
theorem dX7_sheet_71 : decode cX7_sheet 71 = .ok (.iload 4, 2) := by decide +kernel
theorem dX7_sheet_73 : decode cX7_sheet 73 = .ok (.bipush 40, 2) := by decide +kernel
theorem dX7_sheet_75 : decode cX7_sheet 75 = .ok (.if_icmp .ge 22, 3) := by decide +kernel
theorem dX7_sheet_78 : decode cX7_sheet 78 = .ok (.aload_n 0, 1) := by decide +kernel
theorem dX7_sheet_79 : decode cX7_sheet 79 = .ok (.getfield 40, 3) := by decide +kernel
theorem dX7_sheet_82 : decode cX7_sheet 82 = .ok (.bipush 40, 2) := by decide +kernel
theorem dX7_sheet_84 : decode cX7_sheet 84 = .ok (.iload_n 1, 1) := by decide +kernel
theorem dX7_sheet_85 : decode cX7_sheet 85 = .ok (.imul, 1) := by decide +kernel
theorem dX7_sheet_86 : decode cX7_sheet 86 = .ok (.iload 4, 2) := by decide +kernel
theorem dX7_sheet_88 : decode cX7_sheet 88 = .ok (.iadd, 1) := by decide +kernel
theorem dX7_sheet_89 : decode cX7_sheet 89 = .ok (.iconst 0, 1) := by decide +kernel
theorem dX7_sheet_90 : decode cX7_sheet 90 = .ok (.iastore, 1) := by decide +kernel
theorem dX7_sheet_91 : decode cX7_sheet 91 = .ok (.iinc 4 1, 3) := by decide +kernel
theorem dX7_sheet_94 : decode cX7_sheet 94 = .ok (.goto (-23), 3) := by decide +kernel
theorem dX7_sheet_97 : decode cX7_sheet 97 = .ok (.iconst 1, 1) := by decide +kernel
theorem dX7_sheet_98 : decode cX7_sheet 98 = .ok (.ireturn, 1) := by decide +kernel
def f_X7_sheet_71 (k71 : Nat × Int32 × Int32 → Hp → Option (Int32 × Hp)) (v : Nat × Int32 × Int32) (h0 : Hp) : Option (Int32 × Hp) :=
  match v with
  | (l0, l1, l4) => if (40 : Int32) ≤ l4 then (some ((1 : Int32), h0)) else ((gR h0 l0 7 20).bind fun r2 => (aS h0 r2 (((40 : Int32) * l1) + l4) (0 : Int32)).bind fun h3 => (some (l4 + 1)).bind fun x4 => k71 (l0, l1, x4) h3)
set_option maxRecDepth 100000 in
set_option maxHeartbeats 4000000 in
theorem c_X7_sheet_71 {X : Cx} {adr : Nat → Nat} {q : Int32 × Hp} (hr : (mth X).sig.returnType = (some .int)) (n : Nat) : ∀ v h0, lp (f_X7_sheet_71) n v h0 = some q → AW X cX7_sheet 5 RX7 (rmd 3 0 0) (Qmet X 0 0 (Qe (some (.int q.1)) q.2 adr)) 0 0 adr h0 71 [(0, .ref v.1), (1, .int v.2.1), (4, .int v.2.2)] [] := by
  refine aw_lp (fun k71 hk71 v h0 hf => ?_) n
  obtain ⟨l0, l1, l4⟩ := v
  unfold f_X7_sheet_71 at hf
  dsimp only at hf
  show AW X cX7_sheet 5 RX7 (rmd 3 0 0) (Qmet X 0 0 (Qe (some (.int q.1)) q.2 adr)) 0 0 adr h0 71 [(0, .ref l0), (1, .int l1), (4, .int l4)] []
  refine aw_iload 2 dX7_sheet_71 rfl ?_
  refine aw_bipush (v := 40) dX7_sheet_73 (by decide) ?_
  refine aw_icmp_ge (tgt := 97) dX7_sheet_75 (by decide) (fun c1 => ?_) (fun c1 => ?_)
  · have hf := i_pos c1 hf
    refine aw_iconst (v := 1) dX7_sheet_97 (by decide) ?_
    have hq := Option.some.inj hf
    subst hq
    exact aw_iret hr dX7_sheet_98 ⟨rfl, rfl, rfl⟩
  · have hf := i_neg c1 hf
    refine aw_aload_n 0 dX7_sheet_78 rfl rfl ?_
    obtain ⟨r2, er2, hf⟩ := b_some hf
    refine aw_getR dX7_sheet_79 gfX7_40 er2 ?_
    refine aw_bipush (v := 40) dX7_sheet_82 (by decide) ?_
    refine aw_iload_n 1 dX7_sheet_84 rfl rfl ?_
    refine aw_imul dX7_sheet_85 ?_
    refine aw_iload 2 dX7_sheet_86 rfl ?_
    refine aw_iadd dX7_sheet_88 ?_
    refine aw_iconst (v := 0) dX7_sheet_89 (by decide) ?_
    obtain ⟨h3, eh3, hf⟩ := b_some hf
    refine aw_iast dX7_sheet_90 eh3 ?_
    obtain ⟨x4, ex4, hf⟩ := b_some hf
    refine aw_iinc (v := x4) (L' := [(4, .int x4), (0, .ref l0), (1, .int l1)]) 2 dX7_sheet_91 rfl (Option.some.inj ex4) (by decide) rfl ?_
    refine aw_goto (tgt := 71) dX7_sheet_94 (by decide) ?_
    exact aw_sub [1, 2, 0] rfl (hk71 _ _ hf)
def f_X7_sheet_67 (l0 : Nat) (l1 : Int32) (s0 : Int32) (s1 : Int32) (s2 : Nat) (h0 : Hp) : Option (Int32 × Hp) :=
  (aS h0 s2 s1 s0).bind fun h1 => lp (f_X7_sheet_71) 600 (l0, l1, (0 : Int32)) h1
set_option maxRecDepth 100000 in
set_option maxHeartbeats 4000000 in
theorem c_X7_sheet_67 {X : Cx} {adr : Nat → Nat} {q : Int32 × Hp} (hr : (mth X).sig.returnType = (some .int)) {l0 : Nat} {l1 : Int32} {s0 : Int32} {s1 : Int32} {s2 : Nat} {h0 : Hp} (hf : f_X7_sheet_67 l0 l1 s0 s1 s2 h0 = some q) : AW X cX7_sheet 5 RX7 (rmd 3 0 0) (Qmet X 0 0 (Qe (some (.int q.1)) q.2 adr)) 0 0 adr h0 67 [(0, .ref l0), (1, .int l1)] [.int s0, .int s1, .ref s2] := by
  unfold f_X7_sheet_67 at hf
  obtain ⟨h1, eh1, hf⟩ := b_some hf
  refine aw_iast dX7_sheet_67 eh1 ?_
  refine aw_iconst (v := 0) dX7_sheet_68 (by decide) ?_
  refine aw_istore (L' := [(4, .int (0 : Int32)), (0, .ref l0), (1, .int l1)]) dX7_sheet_69 (by decide) rfl ?_
  exact aw_sub [1, 2, 0] rfl (c_X7_sheet_71 hr 600 _ _ hf)
def f_X7_sheet_45 (l0 : Nat) (l1 : Int32) (l2 : Int32) (l3 : Int32) (h0 : Hp) : Option (Int32 × Hp) :=
  (gR h0 l0 7 18).bind fun r1 => (aS h0 r1 l1 l2).bind fun h2 => (gR h2 l0 7 19).bind fun r3 => if l2 = (-1 : Int32) then (f_X7_sheet_67 l0 l1 (0 : Int32) l1 r3 h2) else (f_X7_sheet_67 l0 l1 l3 l1 r3 h2)
set_option maxRecDepth 100000 in
set_option maxHeartbeats 4000000 in
theorem c_X7_sheet_45 {X : Cx} {adr : Nat → Nat} {q : Int32 × Hp} (hr : (mth X).sig.returnType = (some .int)) {l0 : Nat} {l1 : Int32} {l2 : Int32} {l3 : Int32} {h0 : Hp} (hf : f_X7_sheet_45 l0 l1 l2 l3 h0 = some q) : AW X cX7_sheet 5 RX7 (rmd 3 0 0) (Qmet X 0 0 (Qe (some (.int q.1)) q.2 adr)) 0 0 adr h0 45 [(0, .ref l0), (1, .int l1), (2, .int l2), (3, .int l3)] [] := by
  unfold f_X7_sheet_45 at hf
  refine aw_aload_n 0 dX7_sheet_45 rfl rfl ?_
  obtain ⟨r1, er1, hf⟩ := b_some hf
  refine aw_getR dX7_sheet_46 gfX7_34 er1 ?_
  refine aw_iload_n 1 dX7_sheet_49 rfl rfl ?_
  refine aw_iload_n 2 dX7_sheet_50 rfl rfl ?_
  obtain ⟨h2, eh2, hf⟩ := b_some hf
  refine aw_iast dX7_sheet_51 eh2 ?_
  refine aw_aload_n 0 dX7_sheet_52 rfl rfl ?_
  obtain ⟨r3, er3, hf⟩ := b_some hf
  refine aw_getR dX7_sheet_53 gfX7_37 er3 ?_
  refine aw_iload_n 1 dX7_sheet_56 rfl rfl ?_
  refine aw_iload_n 2 dX7_sheet_57 rfl rfl ?_
  refine aw_iconst (v := -1) dX7_sheet_58 (by decide) ?_
  refine aw_icmp_ne (tgt := 66) dX7_sheet_59 (by decide) (fun c4 => ?_) (fun c4 => ?_)
  · have hf := i_neg c4 hf
    refine aw_iload_n 3 dX7_sheet_66 rfl rfl ?_
    exact aw_sub [0, 1] rfl (c_X7_sheet_67 hr hf)
  · have hf := i_pos c4 hf
    refine aw_iconst (v := 0) dX7_sheet_62 (by decide) ?_
    refine aw_goto (tgt := 67) dX7_sheet_63 (by decide) ?_
    exact aw_sub [0, 1] rfl (c_X7_sheet_67 hr hf)
def f_X7_sheet_33 (l0 : Nat) (l1 : Int32) (l2 : Int32) (l3 : Int32) (h0 : Hp) : Option (Int32 × Hp) :=
  if l2 = (-1 : Int32) then (f_X7_sheet_45 l0 l1 l2 l3 h0) else (if 0 ≤ l3 then (f_X7_sheet_45 l0 l1 l2 l3 h0) else (some ((-14 : Int32), h0)))
set_option maxRecDepth 100000 in
set_option maxHeartbeats 4000000 in
theorem c_X7_sheet_33 {X : Cx} {adr : Nat → Nat} {q : Int32 × Hp} (hr : (mth X).sig.returnType = (some .int)) {l0 : Nat} {l1 : Int32} {l2 : Int32} {l3 : Int32} {h0 : Hp} (hf : f_X7_sheet_33 l0 l1 l2 l3 h0 = some q) : AW X cX7_sheet 5 RX7 (rmd 3 0 0) (Qmet X 0 0 (Qe (some (.int q.1)) q.2 adr)) 0 0 adr h0 33 [(0, .ref l0), (1, .int l1), (2, .int l2), (3, .int l3)] [] := by
  unfold f_X7_sheet_33 at hf
  refine aw_iload_n 2 dX7_sheet_33 rfl rfl ?_
  refine aw_iconst (v := -1) dX7_sheet_34 (by decide) ?_
  refine aw_icmp_eq (tgt := 45) dX7_sheet_35 (by decide) (fun c1 => ?_) (fun c1 => ?_)
  · have hf := i_pos c1 hf
    exact aw_sub [0, 1, 2, 3] rfl (c_X7_sheet_45 hr hf)
  · have hf := i_neg c1 hf
    refine aw_iload_n 3 dX7_sheet_38 rfl rfl ?_
    refine aw_if_ge (tgt := 45) dX7_sheet_39 (by decide) (fun c2 => ?_) (fun c2 => ?_)
    · have hf := i_pos c2 hf
      exact aw_sub [0, 1, 2, 3] rfl (c_X7_sheet_45 hr hf)
    · have hf := i_neg c2 hf
      refine aw_bipush (v := -14) dX7_sheet_42 (by decide) ?_
      have hq := Option.some.inj hf
      subst hq
      exact aw_iret hr dX7_sheet_44 ⟨rfl, rfl, rfl⟩
def f_X7_sheet (l0 : Nat) (l1 : Int32) (l2 : Int32) (l3 : Int32) (h0 : Hp) : Option (Int32 × Hp) :=
  (ck h0 l0 7).bind fun _ => (f_X7_isSheet l1 h0).bind fun q1 => if q1.1 = 0 then (some ((-2 : Int32), q1.2)) else ((f_X7_in (Int32.toInt64 l2) (-1 : Int64) (1 : Int64) q1.2).bind fun q3 => if q3.1 = 0 then (some ((-2 : Int32), q3.2)) else (if l2 = (-1 : Int32) then (f_X7_sheet_33 l0 l1 l2 l3 q3.2) else (if l3 ≤ (40 : Int32) then (f_X7_sheet_33 l0 l1 l2 l3 q3.2) else (some ((-2 : Int32), q3.2)))))
set_option maxRecDepth 100000 in
set_option maxHeartbeats 4000000 in
theorem c_X7_sheet {l0 : Nat} {l1 : Int32} {l2 : Int32} {l3 : Int32} {h0 : Hp} {q : Int32 × Hp} (hf : f_X7_sheet l0 l1 l2 l3 h0 = some q) : Mt 3 yX7_sheet cX7_sheet 5 (some .int) [.ref l0, .int l1, .int l2, .int l3] h0 (some (.int q.1)) q.2 := by
  refine MtQ.of (by decide) (Nat.le_of_ble_eq_true rfl) (fun X adr hr hn => ?_)
  unfold f_X7_sheet at hf
  show AW X cX7_sheet 5 RX7 (rmd 3 0 0) (Qmet X 0 0 (Qe (some (.int q.1)) q.2 adr)) 0 0 adr h0 0 [(0, .ref l0), (1, .int l1), (2, .int l2), (3, .int l3)] []
  obtain ⟨u0, e0, hf⟩ := b_some hf
  refine aw_iload_n 1 dX7_sheet_0 rfl rfl ?_
  obtain ⟨q1, eq1, hf⟩ := b_some hf
  refine aw_cS (as := [.int l1]) dX7_sheet_1 moX7_isSheet soX7_isSheet mlX7_253 (rm_ok (by omega) (by decide)) ⟨Nat.le_refl _, Nat.le_refl _⟩ (Nat.le_of_ble_eq_true rfl) rfl (c_X7_isSheet eq1) ?_
  refine aw_if_eq (tgt := 30) dX7_sheet_4 (by decide) (fun c2 => ?_) (fun c2 => ?_)
  · have hf := i_pos c2 hf
    refine aw_bipush (v := -2) dX7_sheet_30 (by decide) ?_
    have hq := Option.some.inj hf
    subst hq
    exact aw_iret hr dX7_sheet_32 ⟨rfl, rfl, rfl⟩
  · have hf := i_neg c2 hf
    refine aw_iload_n 2 dX7_sheet_7 rfl rfl ?_
    refine aw_i2l dX7_sheet_8 ?_
    refine aw_ldc2 dX7_sheet_9 klX7_269 ?_
    refine aw_lconst (v := 1) dX7_sheet_12 (by decide) ?_
    obtain ⟨q3, eq3, hf⟩ := b_some hf
    refine aw_cS (as := [.long (Int32.toInt64 l2), .long (-1 : Int64), .long (1 : Int64)]) dX7_sheet_13 moX7_in soX7_in mlX7_43 (rm_ok (by omega) (by decide)) ⟨Nat.le_refl _, Nat.le_refl _⟩ (Nat.le_of_ble_eq_true rfl) rfl (c_X7_in eq3) ?_
    refine aw_if_eq (tgt := 30) dX7_sheet_16 (by decide) (fun c4 => ?_) (fun c4 => ?_)
    · have hf := i_pos c4 hf
      refine aw_bipush (v := -2) dX7_sheet_30 (by decide) ?_
      have hq := Option.some.inj hf
      subst hq
      exact aw_iret hr dX7_sheet_32 ⟨rfl, rfl, rfl⟩
    · have hf := i_neg c4 hf
      refine aw_iload_n 2 dX7_sheet_19 rfl rfl ?_
      refine aw_iconst (v := -1) dX7_sheet_20 (by decide) ?_
      refine aw_icmp_eq (tgt := 33) dX7_sheet_21 (by decide) (fun c5 => ?_) (fun c5 => ?_)
      · have hf := i_pos c5 hf
        exact aw_sub [0, 1, 2, 3] rfl (c_X7_sheet_33 hr hf)
      · have hf := i_neg c5 hf
        refine aw_iload_n 3 dX7_sheet_24 rfl rfl ?_
        refine aw_bipush (v := 40) dX7_sheet_25 (by decide) ?_
        refine aw_icmp_le (tgt := 33) dX7_sheet_27 (by decide) (fun c6 => ?_) (fun c6 => ?_)
        · have hf := i_pos c6 hf
          exact aw_sub [0, 1, 2, 3] rfl (c_X7_sheet_33 hr hf)
        · have hf := i_neg c6 hf
          refine aw_bipush (v := -2) dX7_sheet_30 (by decide) ?_
          have hq := Option.some.inj hf
          subst hq
          exact aw_iret hr dX7_sheet_32 ⟨rfl, rfl, rfl⟩
theorem k_X7_sheet {l0 : Nat} {l1 : Int32} {l2 : Int32} {l3 : Int32} {h0 : Hp} {q : Int32 × Hp} (hf : f_X7_sheet l0 l1 l2 l3 h0 = some q) : ck h0 l0 7 = some () := by
  unfold f_X7_sheet at hf
  obtain ⟨u0, e0, hf⟩ := b_some hf
  exact e0
theorem dX7_film_0 : decode cX7_film 0 = .ok (.iload_n 1, 1) := by decide +kernel
theorem dX7_film_1 : decode cX7_film 1 = .ok (.invokestatic 253, 3) := by decide +kernel
theorem dX7_film_4 : decode cX7_film 4 = .ok (.ifCond .ne 6, 3) := by decide +kernel
theorem dX7_film_7 : decode cX7_film 7 = .ok (.bipush (-2), 2) := by decide +kernel
theorem dX7_film_9 : decode cX7_film 9 = .ok (.ireturn, 1) := by decide +kernel
theorem dX7_film_10 : decode cX7_film 10 = .ok (.aload_n 0, 1) := by decide +kernel
theorem dX7_film_11 : decode cX7_film 11 = .ok (.iload_n 2, 1) := by decide +kernel
theorem dX7_film_12 : decode cX7_film 12 = .ok (.invokevirtual 242, 3) := by decide +kernel
theorem dX7_film_15 : decode cX7_film 15 = .ok (.aload_n 0, 1) := by decide +kernel
theorem dX7_film_16 : decode cX7_film 16 = .ok (.iload_n 1, 1) := by decide +kernel
theorem dX7_film_17 : decode cX7_film 17 = .ok (.iconst 1, 1) := by decide +kernel
theorem dX7_film_18 : decode cX7_film 18 = .ok (.aload_n 0, 1) := by decide +kernel
theorem dX7_film_19 : decode cX7_film 19 = .ok (.getfield 9, 3) := by decide +kernel
theorem dX7_film_22 : decode cX7_film 22 = .ok (.iconst 0, 1) := by decide +kernel
theorem dX7_film_23 : decode cX7_film 23 = .ok (.iaload, 1) := by decide +kernel
theorem dX7_film_24 : decode cX7_film 24 = .ok (.invokevirtual 259, 3) := by decide +kernel
theorem dX7_film_27 : decode cX7_film 27 = .ok (.istore_n 3, 1) := by decide +kernel
theorem dX7_film_28 : decode cX7_film 28 = .ok (.iconst 0, 1) := by decide +kernel
theorem dX7_film_29 : decode cX7_film 29 = .ok (.istore 4, 2) := by decide +kernel
theorem dX7_film_31 : decode cX7_film 31 = .ok (.iload 4, 2) := by decide +kernel
theorem dX7_film_33 : decode cX7_film 33 = .ok (.aload_n 0, 1) := by decide +kernel
theorem dX7_film_34 : decode cX7_film 34 = .ok (.getfield 9, 3) := by decide +kernel
theorem dX7_film_37 : decode cX7_film 37 = .ok (.iconst 0, 1) := by decide +kernel
theorem dX7_film_38 : decode cX7_film 38 = .ok (.iaload, 1) := by decide +kernel
theorem dX7_film_39 : decode cX7_film 39 = .ok (.if_icmp .ge 28, 3) := by decide +kernel
theorem dX7_film_42 : decode cX7_film 42 = .ok (.aload_n 0, 1) := by decide +kernel
theorem dX7_film_43 : decode cX7_film 43 = .ok (.getfield 40, 3) := by decide +kernel
theorem dX7_film_46 : decode cX7_film 46 = .ok (.bipush 40, 2) := by decide +kernel
theorem dX7_film_48 : decode cX7_film 48 = .ok (.iload_n 1, 1) := by decide +kernel
theorem dX7_film_49 : decode cX7_film 49 = .ok (.imul, 1) := by decide +kernel
theorem dX7_film_50 : decode cX7_film 50 = .ok (.iload 4, 2) := by decide +kernel
theorem dX7_film_52 : decode cX7_film 52 = .ok (.iadd, 1) := by decide +kernel
theorem dX7_film_53 : decode cX7_film 53 = .ok (.aload_n 0, 1) := by decide +kernel
theorem dX7_film_54 : decode cX7_film 54 = .ok (.getfield 19, 3) := by decide +kernel
theorem dX7_film_57 : decode cX7_film 57 = .ok (.iload 4, 2) := by decide +kernel
theorem dX7_film_59 : decode cX7_film 59 = .ok (.iaload, 1) := by decide +kernel
theorem dX7_film_60 : decode cX7_film 60 = .ok (.iastore, 1) := by decide +kernel
theorem dX7_film_61 : decode cX7_film 61 = .ok (.iinc 4 1, 3) := by decide +kernel
theorem dX7_film_64 : decode cX7_film 64 = .ok (.goto (-33), 3) := by decide +kernel
theorem dX7_film_67 : decode cX7_film 67 = .ok (.aload_n 0, 1) := by decide +kernel
theorem dX7_film_68 : decode cX7_film 68 = .ok (.getfield 9, 3) := by decide +kernel
theorem dX7_film_71 : decode cX7_film 71 = .ok (.iconst 0, 1) := by decide +kernel
theorem dX7_film_72 : decode cX7_film 72 = .ok (.iaload, 1) := by decide +kernel
theorem dX7_film_73 : decode cX7_film 73 = .ok (.ireturn, 1) := by decide +kernel
def f_X7_film_31 (k31 : Nat × Int32 × Int32 → Hp → Option (Int32 × Hp)) (v : Nat × Int32 × Int32) (h0 : Hp) : Option (Int32 × Hp) :=
  match v with
  | (l0, l1, l4) => (gR h0 l0 7 0).bind fun r1 => (aL h0 r1 (0 : Int32)).bind fun x2 => if x2 ≤ l4 then ((gR h0 l0 7 0).bind fun r4 => (aL h0 r4 (0 : Int32)).bind fun x5 => some (x5, h0)) else ((gR h0 l0 7 20).bind fun r6 => (gR h0 l0 7 4).bind fun r7 => (aL h0 r7 l4).bind fun x8 => (aS h0 r6 (((40 : Int32) * l1) + l4) x8).bind fun h9 => (some (l4 + 1)).bind fun x10 => k31 (l0, l1, x10) h9)
set_option maxRecDepth 100000 in
set_option maxHeartbeats 4000000 in
theorem c_X7_film_31 {X : Cx} {adr : Nat → Nat} {q : Int32 × Hp} (hr : (mth X).sig.returnType = (some .int)) (n : Nat) : ∀ v h0, lp (f_X7_film_31) n v h0 = some q → AW X cX7_film 5 RX7 (rmd 6 0 0) (Qmet X 0 0 (Qe (some (.int q.1)) q.2 adr)) 0 0 adr h0 31 [(0, .ref v.1), (1, .int v.2.1), (4, .int v.2.2)] [] := by
  refine aw_lp (fun k31 hk31 v h0 hf => ?_) n
  obtain ⟨l0, l1, l4⟩ := v
  unfold f_X7_film_31 at hf
  dsimp only at hf
  show AW X cX7_film 5 RX7 (rmd 6 0 0) (Qmet X 0 0 (Qe (some (.int q.1)) q.2 adr)) 0 0 adr h0 31 [(0, .ref l0), (1, .int l1), (4, .int l4)] []
  refine aw_iload 2 dX7_film_31 rfl ?_
  refine aw_aload_n 0 dX7_film_33 rfl rfl ?_
  obtain ⟨r1, er1, hf⟩ := b_some hf
  refine aw_getR dX7_film_34 gfX7_9 er1 ?_
  refine aw_iconst (v := 0) dX7_film_37 (by decide) ?_
  obtain ⟨x2, ex2, hf⟩ := b_some hf
  refine aw_iald dX7_film_38 ex2 ?_
  refine aw_icmp_ge (tgt := 67) dX7_film_39 (by decide) (fun c3 => ?_) (fun c3 => ?_)
  · have hf := i_pos c3 hf
    refine aw_aload_n 0 dX7_film_67 rfl rfl ?_
    obtain ⟨r4, er4, hf⟩ := b_some hf
    refine aw_getR dX7_film_68 gfX7_9 er4 ?_
    refine aw_iconst (v := 0) dX7_film_71 (by decide) ?_
    obtain ⟨x5, ex5, hf⟩ := b_some hf
    refine aw_iald dX7_film_72 ex5 ?_
    have hq := Option.some.inj hf
    subst hq
    exact aw_iret hr dX7_film_73 ⟨rfl, rfl, rfl⟩
  · have hf := i_neg c3 hf
    refine aw_aload_n 0 dX7_film_42 rfl rfl ?_
    obtain ⟨r6, er6, hf⟩ := b_some hf
    refine aw_getR dX7_film_43 gfX7_40 er6 ?_
    refine aw_bipush (v := 40) dX7_film_46 (by decide) ?_
    refine aw_iload_n 1 dX7_film_48 rfl rfl ?_
    refine aw_imul dX7_film_49 ?_
    refine aw_iload 2 dX7_film_50 rfl ?_
    refine aw_iadd dX7_film_52 ?_
    refine aw_aload_n 0 dX7_film_53 rfl rfl ?_
    obtain ⟨r7, er7, hf⟩ := b_some hf
    refine aw_getR dX7_film_54 gfX7_19 er7 ?_
    refine aw_iload 2 dX7_film_57 rfl ?_
    obtain ⟨x8, ex8, hf⟩ := b_some hf
    refine aw_iald dX7_film_59 ex8 ?_
    obtain ⟨h9, eh9, hf⟩ := b_some hf
    refine aw_iast dX7_film_60 eh9 ?_
    obtain ⟨x10, ex10, hf⟩ := b_some hf
    refine aw_iinc (v := x10) (L' := [(4, .int x10), (0, .ref l0), (1, .int l1)]) 2 dX7_film_61 rfl (Option.some.inj ex10) (by decide) rfl ?_
    refine aw_goto (tgt := 31) dX7_film_64 (by decide) ?_
    exact aw_sub [1, 2, 0] rfl (hk31 _ _ hf)
def f_X7_film (l0 : Nat) (l1 : Int32) (l2 : Int32) (h0 : Hp) : Option (Int32 × Hp) :=
  (ck h0 l0 7).bind fun _ => (f_X7_isSheet l1 h0).bind fun q1 => if q1.1 = 0 then (some ((-2 : Int32), q1.2)) else ((f_X7_draws l0 l2 q1.2).bind fun q3 => (gR q3.2 l0 7 0).bind fun r4 => (aL q3.2 r4 (0 : Int32)).bind fun x5 => (f_X7_sheet l0 l1 (1 : Int32) x5 q3.2).bind fun q6 => lp (f_X7_film_31) 600 (l0, l1, (0 : Int32)) q6.2)
set_option maxRecDepth 100000 in
set_option maxHeartbeats 4000000 in
theorem c_X7_film {l0 : Nat} {l1 : Int32} {l2 : Int32} {h0 : Hp} {q : Int32 × Hp} (hf : f_X7_film l0 l1 l2 h0 = some q) : Mt 6 yX7_film cX7_film 5 (some .int) [.ref l0, .int l1, .int l2] h0 (some (.int q.1)) q.2 := by
  refine MtQ.of (by decide) (Nat.le_of_ble_eq_true rfl) (fun X adr hr hn => ?_)
  unfold f_X7_film at hf
  show AW X cX7_film 5 RX7 (rmd 6 0 0) (Qmet X 0 0 (Qe (some (.int q.1)) q.2 adr)) 0 0 adr h0 0 [(0, .ref l0), (1, .int l1), (2, .int l2)] []
  obtain ⟨u0, e0, hf⟩ := b_some hf
  refine aw_iload_n 1 dX7_film_0 rfl rfl ?_
  obtain ⟨q1, eq1, hf⟩ := b_some hf
  refine aw_cS (as := [.int l1]) dX7_film_1 moX7_isSheet soX7_isSheet mlX7_253 (rm_ok (by omega) (by decide)) ⟨Nat.le_refl _, Nat.le_refl _⟩ (Nat.le_of_ble_eq_true rfl) rfl (c_X7_isSheet eq1) ?_
  refine aw_if_ne (tgt := 10) dX7_film_4 (by decide) (fun c2 => ?_) (fun c2 => ?_)
  · have hf := i_neg c2 hf
    refine aw_aload_n 0 dX7_film_10 rfl rfl ?_
    refine aw_iload_n 2 dX7_film_11 rfl rfl ?_
    obtain ⟨q3, eq3, hf⟩ := b_some hf
    refine aw_cV0 (as := [.int l2]) dX7_film_12 moX7_draws voX7_draws mlX7_242 (k_X7_draws eq3) rfl (rm_ok (by omega) (by decide)) ⟨Nat.le_refl _, Nat.le_refl _⟩ (Nat.le_of_ble_eq_true rfl) rfl (c_X7_draws eq3) ?_
    refine aw_aload_n 0 dX7_film_15 rfl rfl ?_
    refine aw_iload_n 1 dX7_film_16 rfl rfl ?_
    refine aw_iconst (v := 1) dX7_film_17 (by decide) ?_
    refine aw_aload_n 0 dX7_film_18 rfl rfl ?_
    obtain ⟨r4, er4, hf⟩ := b_some hf
    refine aw_getR dX7_film_19 gfX7_9 er4 ?_
    refine aw_iconst (v := 0) dX7_film_22 (by decide) ?_
    obtain ⟨x5, ex5, hf⟩ := b_some hf
    refine aw_iald dX7_film_23 ex5 ?_
    obtain ⟨q6, eq6, hf⟩ := b_some hf
    refine aw_cV (as := [.int l1, .int (1 : Int32), .int x5]) dX7_film_24 moX7_sheet voX7_sheet mlX7_259 (k_X7_sheet eq6) rfl (rm_ok (by omega) (by decide)) ⟨Nat.le_refl _, Nat.le_refl _⟩ (Nat.le_of_ble_eq_true rfl) rfl (c_X7_sheet eq6) ?_
    refine aw_istore_n (L' := [(3, .int q6.1), (0, .ref l0), (1, .int l1), (2, .int l2)]) dX7_film_27 rfl (by decide) rfl ?_
    refine aw_iconst (v := 0) dX7_film_28 (by decide) ?_
    refine aw_istore (L' := [(4, .int (0 : Int32)), (3, .int q6.1), (0, .ref l0), (1, .int l1), (2, .int l2)]) dX7_film_29 (by decide) rfl ?_
    exact aw_sub [2, 3, 0] rfl (c_X7_film_31 hr 600 _ _ hf)
  · have hf := i_pos c2 hf
    refine aw_bipush (v := -2) dX7_film_7 (by decide) ?_
    have hq := Option.some.inj hf
    subst hq
    exact aw_iret hr dX7_film_9 ⟨rfl, rfl, rfl⟩
theorem k_X7_film {l0 : Nat} {l1 : Int32} {l2 : Int32} {h0 : Hp} {q : Int32 × Hp} (hf : f_X7_film l0 l1 l2 h0 = some q) : ck h0 l0 7 = some () := by
  unfold f_X7_film at hf
  obtain ⟨u0, e0, hf⟩ := b_some hf
  exact e0
theorem dX7_firstTold_0 : decode cX7_firstTold 0 = .ok (.iconst 0, 1) := by decide +kernel
theorem dX7_firstTold_1 : decode cX7_firstTold 1 = .ok (.istore_n 2, 1) := by decide +kernel
theorem dX7_firstTold_2 : decode cX7_firstTold 2 = .ok (.iconst 0, 1) := by decide +kernel
theorem dX7_firstTold_3 : decode cX7_firstTold 3 = .ok (.istore_n 3, 1) := by decide +kernel
theorem dX7_firstTold_4 : decode cX7_firstTold 4 = .ok (.iload_n 3, 1) := by decide +kernel
theorem dX7_firstTold_5 : decode cX7_firstTold 5 = .ok (.aload_n 0, 1) := by decide +kernel
theorem dX7_firstTold_6 : decode cX7_firstTold 6 = .ok (.getfield 37, 3) := by decide +kernel
theorem dX7_firstTold_9 : decode cX7_firstTold 9 = .ok (.iload_n 1, 1) := by decide +kernel
theorem dX7_firstTold_10 : decode cX7_firstTold 10 = .ok (.iaload, 1) := by decide +kernel
theorem dX7_firstTold_11 : decode cX7_firstTold 11 = .ok (.if_icmp .ge 85, 3) := by decide +kernel
theorem dX7_firstTold_14 : decode cX7_firstTold 14 = .ok (.iconst 1, 1) := by decide +kernel
theorem dX7_firstTold_15 : decode cX7_firstTold 15 = .ok (.istore 4, 2) := by decide +kernel
theorem dX7_firstTold_17 : decode cX7_firstTold 17 = .ok (.iconst 0, 1) := by decide +kernel
theorem dX7_firstTold_18 : decode cX7_firstTold 18 = .ok (.istore 5, 2) := by decide +kernel
theorem dX7_firstTold_20 : decode cX7_firstTold 20 = .ok (.iload 5, 2) := by decide +kernel
theorem dX7_firstTold_22 : decode cX7_firstTold 22 = .ok (.aload_n 0, 1) := by decide +kernel
theorem dX7_firstTold_23 : decode cX7_firstTold 23 = .ok (.getfield 37, 3) := by decide +kernel
theorem dX7_firstTold_26 : decode cX7_firstTold 26 = .ok (.iload_n 1, 1) := by decide +kernel
theorem dX7_firstTold_27 : decode cX7_firstTold 27 = .ok (.iaload, 1) := by decide +kernel
theorem dX7_firstTold_28 : decode cX7_firstTold 28 = .ok (.if_icmp .ge 47, 3) := by decide +kernel
theorem dX7_firstTold_31 : decode cX7_firstTold 31 = .ok (.iload 4, 2) := by decide +kernel
theorem dX7_firstTold_33 : decode cX7_firstTold 33 = .ok (.ifCond .eq 33, 3) := by decide +kernel
theorem dX7_firstTold_36 : decode cX7_firstTold 36 = .ok (.aload_n 0, 1) := by decide +kernel
theorem dX7_firstTold_37 : decode cX7_firstTold 37 = .ok (.getfield 40, 3) := by decide +kernel
theorem dX7_firstTold_40 : decode cX7_firstTold 40 = .ok (.bipush 40, 2) := by decide +kernel
theorem dX7_firstTold_42 : decode cX7_firstTold 42 = .ok (.iload_n 1, 1) := by decide +kernel
theorem dX7_firstTold_43 : decode cX7_firstTold 43 = .ok (.imul, 1) := by decide +kernel
theorem dX7_firstTold_44 : decode cX7_firstTold 44 = .ok (.iload 5, 2) := by decide +kernel
theorem dX7_firstTold_46 : decode cX7_firstTold 46 = .ok (.iadd, 1) := by decide +kernel
theorem dX7_firstTold_47 : decode cX7_firstTold 47 = .ok (.iaload, 1) := by decide +kernel
theorem dX7_firstTold_48 : decode cX7_firstTold 48 = .ok (.aload_n 0, 1) := by decide +kernel
theorem dX7_firstTold_49 : decode cX7_firstTold 49 = .ok (.getfield 40, 3) := by decide +kernel
theorem dX7_firstTold_52 : decode cX7_firstTold 52 = .ok (.bipush 40, 2) := by decide +kernel
theorem dX7_firstTold_54 : decode cX7_firstTold 54 = .ok (.iload_n 1, 1) := by decide +kernel
theorem dX7_firstTold_55 : decode cX7_firstTold 55 = .ok (.imul, 1) := by decide +kernel
theorem dX7_firstTold_56 : decode cX7_firstTold 56 = .ok (.iload_n 3, 1) := by decide +kernel
theorem dX7_firstTold_57 : decode cX7_firstTold 57 = .ok (.iadd, 1) := by decide +kernel
theorem dX7_firstTold_58 : decode cX7_firstTold 58 = .ok (.iaload, 1) := by decide +kernel
theorem dX7_firstTold_59 : decode cX7_firstTold 59 = .ok (.if_icmp .gt 7, 3) := by decide +kernel
theorem dX7_firstTold_62 : decode cX7_firstTold 62 = .ok (.iconst 1, 1) := by decide +kernel
theorem dX7_firstTold_63 : decode cX7_firstTold 63 = .ok (.goto 4, 3) := by decide +kernel
theorem dX7_firstTold_66 : decode cX7_firstTold 66 = .ok (.iconst 0, 1) := by decide +kernel
theorem dX7_firstTold_67 : decode cX7_firstTold 67 = .ok (.istore 4, 2) := by decide +kernel
theorem dX7_firstTold_69 : decode cX7_firstTold 69 = .ok (.iinc 5 1, 3) := by decide +kernel
theorem dX7_firstTold_72 : decode cX7_firstTold 72 = .ok (.goto (-52), 3) := by decide +kernel
theorem dX7_firstTold_75 : decode cX7_firstTold 75 = .ok (.iload_n 2, 1) := by decide +kernel
theorem dX7_firstTold_76 : decode cX7_firstTold 76 = .ok (.iload 4, 2) := by decide +kernel
theorem dX7_firstTold_78 : decode cX7_firstTold 78 = .ok (.ifCond .eq 9, 3) := by decide +kernel
theorem dX7_firstTold_81 : decode cX7_firstTold 81 = .ok (.iconst 1, 1) := by decide +kernel
theorem dX7_firstTold_82 : decode cX7_firstTold 82 = .ok (.iload_n 3, 1) := by decide +kernel
theorem dX7_firstTold_83 : decode cX7_firstTold 83 = .ok (.ishl, 1) := by decide +kernel
theorem dX7_firstTold_84 : decode cX7_firstTold 84 = .ok (.goto 4, 3) := by decide +kernel
theorem dX7_firstTold_87 : decode cX7_firstTold 87 = .ok (.iconst 0, 1) := by decide +kernel
theorem dX7_firstTold_88 : decode cX7_firstTold 88 = .ok (.ior, 1) := by decide +kernel
theorem dX7_firstTold_89 : decode cX7_firstTold 89 = .ok (.istore_n 2, 1) := by decide +kernel
theorem dX7_firstTold_90 : decode cX7_firstTold 90 = .ok (.iinc 3 1, 3) := by decide +kernel
theorem dX7_firstTold_93 : decode cX7_firstTold 93 = .ok (.goto (-89), 3) := by decide +kernel
theorem dX7_firstTold_96 : decode cX7_firstTold 96 = .ok (.iload_n 2, 1) := by decide +kernel
theorem dX7_firstTold_97 : decode cX7_firstTold 97 = .ok (.ireturn, 1) := by decide +kernel
def f_X7_firstTold_20 (k4 : Nat × Int32 × Int32 × Int32 → Hp → Option (Int32 × Hp)) (k20 : Nat × Int32 × Int32 × Int32 × Int32 × Int32 → Hp → Option (Int32 × Hp)) (v : Nat × Int32 × Int32 × Int32 × Int32 × Int32) (h0 : Hp) : Option (Int32 × Hp) :=
  match v with
  | (l0, l1, l2, l3, l4, l5) => (gR h0 l0 7 19).bind fun r1 => (aL h0 r1 l1).bind fun x2 => if x2 ≤ l5 then (if l4 = 0 then ((some (l2 ||| (0 : Int32))).bind fun x5 => (some (l3 + 1)).bind fun x6 => k4 (l0, l1, x5, x6) h0) else ((some (l2 ||| ((1 : Int32) <<< (l3 &&& 31)))).bind fun x7 => (some (l3 + 1)).bind fun x8 => k4 (l0, l1, x7, x8) h0)) else (if l4 = 0 then ((some (l5 + 1)).bind fun x10 => k20 (l0, l1, l2, l3, (0 : Int32), x10) h0) else ((gR h0 l0 7 20).bind fun r11 => (aL h0 r11 (((40 : Int32) * l1) + l5)).bind fun x12 => (gR h0 l0 7 20).bind fun r13 => (aL h0 r13 (((40 : Int32) * l1) + l3)).bind fun x14 => if x14 < x12 then ((some (l5 + 1)).bind fun x16 => k20 (l0, l1, l2, l3, (0 : Int32), x16) h0) else ((some (l5 + 1)).bind fun x17 => k20 (l0, l1, l2, l3, (1 : Int32), x17) h0)))
set_option maxRecDepth 100000 in
set_option maxHeartbeats 4000000 in
theorem c_X7_firstTold_20 {X : Cx} {adr : Nat → Nat} {q : Int32 × Hp} (hr : (mth X).sig.returnType = (some .int)) {k4 : Nat × Int32 × Int32 × Int32 → Hp → Option (Int32 × Hp)} (hk4 : ∀ v h, k4 v h = some q → AW X cX7_firstTold 6 RX7 (rmd 1 0 0) (Qmet X 0 0 (Qe (some (.int q.1)) q.2 adr)) 0 0 adr h 4 [(0, .ref v.1), (1, .int v.2.1), (2, .int v.2.2.1), (3, .int v.2.2.2)] []) (n : Nat) : ∀ v h0, lp (f_X7_firstTold_20 k4) n v h0 = some q → AW X cX7_firstTold 6 RX7 (rmd 1 0 0) (Qmet X 0 0 (Qe (some (.int q.1)) q.2 adr)) 0 0 adr h0 20 [(0, .ref v.1), (1, .int v.2.1), (2, .int v.2.2.1), (3, .int v.2.2.2.1), (4, .int v.2.2.2.2.1), (5, .int v.2.2.2.2.2)] [] := by
  refine aw_lp (fun k20 hk20 v h0 hf => ?_) n
  obtain ⟨l0, l1, l2, l3, l4, l5⟩ := v
  unfold f_X7_firstTold_20 at hf
  dsimp only at hf
  show AW X cX7_firstTold 6 RX7 (rmd 1 0 0) (Qmet X 0 0 (Qe (some (.int q.1)) q.2 adr)) 0 0 adr h0 20 [(0, .ref l0), (1, .int l1), (2, .int l2), (3, .int l3), (4, .int l4), (5, .int l5)] []
  refine aw_iload 5 dX7_firstTold_20 rfl ?_
  refine aw_aload_n 0 dX7_firstTold_22 rfl rfl ?_
  obtain ⟨r1, er1, hf⟩ := b_some hf
  refine aw_getR dX7_firstTold_23 gfX7_37 er1 ?_
  refine aw_iload_n 1 dX7_firstTold_26 rfl rfl ?_
  obtain ⟨x2, ex2, hf⟩ := b_some hf
  refine aw_iald dX7_firstTold_27 ex2 ?_
  refine aw_icmp_ge (tgt := 75) dX7_firstTold_28 (by decide) (fun c3 => ?_) (fun c3 => ?_)
  · have hf := i_pos c3 hf
    refine aw_iload_n 2 dX7_firstTold_75 rfl rfl ?_
    refine aw_iload 4 dX7_firstTold_76 rfl ?_
    refine aw_if_eq (tgt := 87) dX7_firstTold_78 (by decide) (fun c4 => ?_) (fun c4 => ?_)
    · have hf := i_pos c4 hf
      refine aw_iconst (v := 0) dX7_firstTold_87 (by decide) ?_
      refine aw_ior dX7_firstTold_88 ?_
      obtain ⟨x5, ex5, hf⟩ := b_some hf
      refine aw_nm ex5 ?_
      refine aw_istore_n (L' := [(2, .int x5), (0, .ref l0), (1, .int l1), (3, .int l3), (4, .int l4), (5, .int l5)]) dX7_firstTold_89 rfl (by decide) rfl ?_
      obtain ⟨x6, ex6, hf⟩ := b_some hf
      refine aw_iinc (v := x6) (L' := [(3, .int x6), (2, .int x5), (0, .ref l0), (1, .int l1), (4, .int l4), (5, .int l5)]) 3 dX7_firstTold_90 rfl (Option.some.inj ex6) (by decide) rfl ?_
      refine aw_goto (tgt := 4) dX7_firstTold_93 (by decide) ?_
      exact aw_sub [2, 3, 1, 0] rfl (hk4 _ _ hf)
    · have hf := i_neg c4 hf
      refine aw_iconst (v := 1) dX7_firstTold_81 (by decide) ?_
      refine aw_iload_n 3 dX7_firstTold_82 rfl rfl ?_
      refine aw_ishl dX7_firstTold_83 ?_
      refine aw_goto (tgt := 88) dX7_firstTold_84 (by decide) ?_
      refine aw_ior dX7_firstTold_88 ?_
      obtain ⟨x7, ex7, hf⟩ := b_some hf
      refine aw_nm ex7 ?_
      refine aw_istore_n (L' := [(2, .int x7), (0, .ref l0), (1, .int l1), (3, .int l3), (4, .int l4), (5, .int l5)]) dX7_firstTold_89 rfl (by decide) rfl ?_
      obtain ⟨x8, ex8, hf⟩ := b_some hf
      refine aw_iinc (v := x8) (L' := [(3, .int x8), (2, .int x7), (0, .ref l0), (1, .int l1), (4, .int l4), (5, .int l5)]) 3 dX7_firstTold_90 rfl (Option.some.inj ex8) (by decide) rfl ?_
      refine aw_goto (tgt := 4) dX7_firstTold_93 (by decide) ?_
      exact aw_sub [2, 3, 1, 0] rfl (hk4 _ _ hf)
  · have hf := i_neg c3 hf
    refine aw_iload 4 dX7_firstTold_31 rfl ?_
    refine aw_if_eq (tgt := 66) dX7_firstTold_33 (by decide) (fun c9 => ?_) (fun c9 => ?_)
    · have hf := i_pos c9 hf
      refine aw_iconst (v := 0) dX7_firstTold_66 (by decide) ?_
      refine aw_istore (L' := [(4, .int (0 : Int32)), (0, .ref l0), (1, .int l1), (2, .int l2), (3, .int l3), (5, .int l5)]) dX7_firstTold_67 (by decide) rfl ?_
      obtain ⟨x10, ex10, hf⟩ := b_some hf
      refine aw_iinc (v := x10) (L' := [(5, .int x10), (4, .int (0 : Int32)), (0, .ref l0), (1, .int l1), (2, .int l2), (3, .int l3)]) 5 dX7_firstTold_69 rfl (Option.some.inj ex10) (by decide) rfl ?_
      refine aw_goto (tgt := 20) dX7_firstTold_72 (by decide) ?_
      exact aw_sub [2, 3, 4, 5, 1, 0] rfl (hk20 _ _ hf)
    · have hf := i_neg c9 hf
      refine aw_aload_n 0 dX7_firstTold_36 rfl rfl ?_
      obtain ⟨r11, er11, hf⟩ := b_some hf
      refine aw_getR dX7_firstTold_37 gfX7_40 er11 ?_
      refine aw_bipush (v := 40) dX7_firstTold_40 (by decide) ?_
      refine aw_iload_n 1 dX7_firstTold_42 rfl rfl ?_
      refine aw_imul dX7_firstTold_43 ?_
      refine aw_iload 5 dX7_firstTold_44 rfl ?_
      refine aw_iadd dX7_firstTold_46 ?_
      obtain ⟨x12, ex12, hf⟩ := b_some hf
      refine aw_iald dX7_firstTold_47 ex12 ?_
      refine aw_aload_n 0 dX7_firstTold_48 rfl rfl ?_
      obtain ⟨r13, er13, hf⟩ := b_some hf
      refine aw_getR dX7_firstTold_49 gfX7_40 er13 ?_
      refine aw_bipush (v := 40) dX7_firstTold_52 (by decide) ?_
      refine aw_iload_n 1 dX7_firstTold_54 rfl rfl ?_
      refine aw_imul dX7_firstTold_55 ?_
      refine aw_iload_n 3 dX7_firstTold_56 rfl rfl ?_
      refine aw_iadd dX7_firstTold_57 ?_
      obtain ⟨x14, ex14, hf⟩ := b_some hf
      refine aw_iald dX7_firstTold_58 ex14 ?_
      refine aw_icmp_gt (tgt := 66) dX7_firstTold_59 (by decide) (fun c15 => ?_) (fun c15 => ?_)
      · have hf := i_pos c15 hf
        refine aw_iconst (v := 0) dX7_firstTold_66 (by decide) ?_
        refine aw_istore (L' := [(4, .int (0 : Int32)), (0, .ref l0), (1, .int l1), (2, .int l2), (3, .int l3), (5, .int l5)]) dX7_firstTold_67 (by decide) rfl ?_
        obtain ⟨x16, ex16, hf⟩ := b_some hf
        refine aw_iinc (v := x16) (L' := [(5, .int x16), (4, .int (0 : Int32)), (0, .ref l0), (1, .int l1), (2, .int l2), (3, .int l3)]) 5 dX7_firstTold_69 rfl (Option.some.inj ex16) (by decide) rfl ?_
        refine aw_goto (tgt := 20) dX7_firstTold_72 (by decide) ?_
        exact aw_sub [2, 3, 4, 5, 1, 0] rfl (hk20 _ _ hf)
      · have hf := i_neg c15 hf
        refine aw_iconst (v := 1) dX7_firstTold_62 (by decide) ?_
        refine aw_goto (tgt := 67) dX7_firstTold_63 (by decide) ?_
        refine aw_istore (L' := [(4, .int (1 : Int32)), (0, .ref l0), (1, .int l1), (2, .int l2), (3, .int l3), (5, .int l5)]) dX7_firstTold_67 (by decide) rfl ?_
        obtain ⟨x17, ex17, hf⟩ := b_some hf
        refine aw_iinc (v := x17) (L' := [(5, .int x17), (4, .int (1 : Int32)), (0, .ref l0), (1, .int l1), (2, .int l2), (3, .int l3)]) 5 dX7_firstTold_69 rfl (Option.some.inj ex17) (by decide) rfl ?_
        refine aw_goto (tgt := 20) dX7_firstTold_72 (by decide) ?_
        exact aw_sub [2, 3, 4, 5, 1, 0] rfl (hk20 _ _ hf)
def f_X7_firstTold_4 (k4 : Nat × Int32 × Int32 × Int32 → Hp → Option (Int32 × Hp)) (v : Nat × Int32 × Int32 × Int32) (h0 : Hp) : Option (Int32 × Hp) :=
  match v with
  | (l0, l1, l2, l3) => (gR h0 l0 7 19).bind fun r1 => (aL h0 r1 l1).bind fun x2 => if x2 ≤ l3 then (some (l2, h0)) else (lp (f_X7_firstTold_20 k4) 600 (l0, l1, l2, l3, (1 : Int32), (0 : Int32)) h0)
set_option maxRecDepth 100000 in
set_option maxHeartbeats 4000000 in
theorem c_X7_firstTold_4 {X : Cx} {adr : Nat → Nat} {q : Int32 × Hp} (hr : (mth X).sig.returnType = (some .int)) (n : Nat) : ∀ v h0, lp (f_X7_firstTold_4) n v h0 = some q → AW X cX7_firstTold 6 RX7 (rmd 1 0 0) (Qmet X 0 0 (Qe (some (.int q.1)) q.2 adr)) 0 0 adr h0 4 [(0, .ref v.1), (1, .int v.2.1), (2, .int v.2.2.1), (3, .int v.2.2.2)] [] := by
  refine aw_lp (fun k4 hk4 v h0 hf => ?_) n
  obtain ⟨l0, l1, l2, l3⟩ := v
  unfold f_X7_firstTold_4 at hf
  dsimp only at hf
  show AW X cX7_firstTold 6 RX7 (rmd 1 0 0) (Qmet X 0 0 (Qe (some (.int q.1)) q.2 adr)) 0 0 adr h0 4 [(0, .ref l0), (1, .int l1), (2, .int l2), (3, .int l3)] []
  refine aw_iload_n 3 dX7_firstTold_4 rfl rfl ?_
  refine aw_aload_n 0 dX7_firstTold_5 rfl rfl ?_
  obtain ⟨r1, er1, hf⟩ := b_some hf
  refine aw_getR dX7_firstTold_6 gfX7_37 er1 ?_
  refine aw_iload_n 1 dX7_firstTold_9 rfl rfl ?_
  obtain ⟨x2, ex2, hf⟩ := b_some hf
  refine aw_iald dX7_firstTold_10 ex2 ?_
  refine aw_icmp_ge (tgt := 96) dX7_firstTold_11 (by decide) (fun c3 => ?_) (fun c3 => ?_)
  · have hf := i_pos c3 hf
    refine aw_iload_n 2 dX7_firstTold_96 rfl rfl ?_
    have hq := Option.some.inj hf
    subst hq
    exact aw_iret hr dX7_firstTold_97 ⟨rfl, rfl, rfl⟩
  · have hf := i_neg c3 hf
    refine aw_iconst (v := 1) dX7_firstTold_14 (by decide) ?_
    refine aw_istore (L' := [(4, .int (1 : Int32)), (0, .ref l0), (1, .int l1), (2, .int l2), (3, .int l3)]) dX7_firstTold_15 (by decide) rfl ?_
    refine aw_iconst (v := 0) dX7_firstTold_17 (by decide) ?_
    refine aw_istore (L' := [(5, .int (0 : Int32)), (4, .int (1 : Int32)), (0, .ref l0), (1, .int l1), (2, .int l2), (3, .int l3)]) dX7_firstTold_18 (by decide) rfl ?_
    exact aw_sub [2, 3, 4, 5, 1, 0] rfl (c_X7_firstTold_20 hr hk4 600 _ _ hf)
def f_X7_firstTold (l0 : Nat) (l1 : Int32) (h0 : Hp) : Option (Int32 × Hp) :=
  (ck h0 l0 7).bind fun _ => lp (f_X7_firstTold_4) 600 (l0, l1, (0 : Int32), (0 : Int32)) h0
set_option maxRecDepth 100000 in
set_option maxHeartbeats 4000000 in
theorem c_X7_firstTold {l0 : Nat} {l1 : Int32} {h0 : Hp} {q : Int32 × Hp} (hf : f_X7_firstTold l0 l1 h0 = some q) : Mt 1 yX7_firstTold cX7_firstTold 6 (some .int) [.ref l0, .int l1] h0 (some (.int q.1)) q.2 := by
  refine MtQ.of (by decide) (Nat.le_of_ble_eq_true rfl) (fun X adr hr hn => ?_)
  unfold f_X7_firstTold at hf
  show AW X cX7_firstTold 6 RX7 (rmd 1 0 0) (Qmet X 0 0 (Qe (some (.int q.1)) q.2 adr)) 0 0 adr h0 0 [(0, .ref l0), (1, .int l1)] []
  obtain ⟨u0, e0, hf⟩ := b_some hf
  refine aw_iconst (v := 0) dX7_firstTold_0 (by decide) ?_
  refine aw_istore_n (L' := [(2, .int (0 : Int32)), (0, .ref l0), (1, .int l1)]) dX7_firstTold_1 rfl (by decide) rfl ?_
  refine aw_iconst (v := 0) dX7_firstTold_2 (by decide) ?_
  refine aw_istore_n (L' := [(3, .int (0 : Int32)), (2, .int (0 : Int32)), (0, .ref l0), (1, .int l1)]) dX7_firstTold_3 rfl (by decide) rfl ?_
  exact aw_sub [2, 3, 1, 0] rfl (c_X7_firstTold_4 hr 600 _ _ hf)
theorem k_X7_firstTold {l0 : Nat} {l1 : Int32} {h0 : Hp} {q : Int32 × Hp} (hf : f_X7_firstTold l0 l1 h0 = some q) : ck h0 l0 7 = some () := by
  unfold f_X7_firstTold at hf
  obtain ⟨u0, e0, hf⟩ := b_some hf
  exact e0
theorem dX7_isGame_0 : decode cX7_isGame 0 = .ok (.iload_n 1, 1) := by decide +kernel
theorem dX7_isGame_1 : decode cX7_isGame 1 = .ok (.i2l, 1) := by decide +kernel
theorem dX7_isGame_2 : decode cX7_isGame 2 = .ok (.lconst 0, 1) := by decide +kernel
theorem dX7_isGame_3 : decode cX7_isGame 3 = .ok (.aload_n 0, 1) := by decide +kernel
theorem dX7_isGame_4 : decode cX7_isGame 4 = .ok (.getfield 9, 3) := by decide +kernel
theorem dX7_isGame_7 : decode cX7_isGame 7 = .ok (.iconst 1, 1) := by decide +kernel
theorem dX7_isGame_8 : decode cX7_isGame 8 = .ok (.iaload, 1) := by decide +kernel
theorem dX7_isGame_9 : decode cX7_isGame 9 = .ok (.iconst 1, 1) := by decide +kernel
theorem dX7_isGame_10 : decode cX7_isGame 10 = .ok (.isub, 1) := by decide +kernel
theorem dX7_isGame_11 : decode cX7_isGame 11 = .ok (.i2l, 1) := by decide +kernel
theorem dX7_isGame_12 : decode cX7_isGame 12 = .ok (.invokestatic 43, 3) := by decide +kernel
theorem dX7_isGame_15 : decode cX7_isGame 15 = .ok (.ireturn, 1) := by decide +kernel
def f_X7_isGame (l0 : Nat) (l1 : Int32) (h0 : Hp) : Option (Int32 × Hp) :=
  (ck h0 l0 7).bind fun _ => (gR h0 l0 7 0).bind fun r1 => (aL h0 r1 (1 : Int32)).bind fun x2 => (f_X7_in (Int32.toInt64 l1) (0 : Int64) (Int32.toInt64 (x2 - (1 : Int32))) h0).bind fun q3 => (bz q3.1).bind fun u4 => some (q3.1, q3.2)
set_option maxRecDepth 100000 in
set_option maxHeartbeats 4000000 in
theorem c_X7_isGame {l0 : Nat} {l1 : Int32} {h0 : Hp} {q : Int32 × Hp} (hf : f_X7_isGame l0 l1 h0 = some q) : Mt 2 yX7_isGame cX7_isGame 2 (some .boolean) [.ref l0, .int l1] h0 (some (.int q.1)) q.2 := by
  refine MtQ.of (by decide) (Nat.le_of_ble_eq_true rfl) (fun X adr hr hn => ?_)
  unfold f_X7_isGame at hf
  show AW X cX7_isGame 2 RX7 (rmd 2 0 0) (Qmet X 0 0 (Qe (some (.int q.1)) q.2 adr)) 0 0 adr h0 0 [(0, .ref l0), (1, .int l1)] []
  obtain ⟨u0, e0, hf⟩ := b_some hf
  refine aw_iload_n 1 dX7_isGame_0 rfl rfl ?_
  refine aw_i2l dX7_isGame_1 ?_
  refine aw_lconst (v := 0) dX7_isGame_2 (by decide) ?_
  refine aw_aload_n 0 dX7_isGame_3 rfl rfl ?_
  obtain ⟨r1, er1, hf⟩ := b_some hf
  refine aw_getR dX7_isGame_4 gfX7_9 er1 ?_
  refine aw_iconst (v := 1) dX7_isGame_7 (by decide) ?_
  obtain ⟨x2, ex2, hf⟩ := b_some hf
  refine aw_iald dX7_isGame_8 ex2 ?_
  refine aw_iconst (v := 1) dX7_isGame_9 (by decide) ?_
  refine aw_isub dX7_isGame_10 ?_
  refine aw_i2l dX7_isGame_11 ?_
  obtain ⟨q3, eq3, hf⟩ := b_some hf
  refine aw_cS (as := [.long (Int32.toInt64 l1), .long (0 : Int64), .long (Int32.toInt64 (x2 - (1 : Int32)))]) dX7_isGame_12 moX7_in soX7_in mlX7_43 (rm_ok (by omega) (by decide)) ⟨Nat.le_refl _, Nat.le_refl _⟩ (Nat.le_of_ble_eq_true rfl) rfl (c_X7_in eq3) ?_
  obtain ⟨u4, eu4, hf⟩ := b_some hf
  have hq := Option.some.inj hf
  subst hq
  exact aw_zret hr (bz_nar eu4) dX7_isGame_15 ⟨rfl, rfl, rfl⟩
theorem k_X7_isGame {l0 : Nat} {l1 : Int32} {h0 : Hp} {q : Int32 × Hp} (hf : f_X7_isGame l0 l1 h0 = some q) : ck h0 l0 7 = some () := by
  unfold f_X7_isGame at hf
  obtain ⟨u0, e0, hf⟩ := b_some hf
  exact e0
theorem dX7_game_0 : decode cX7_game 0 = .ok (.aload_n 0, 1) := by decide +kernel
theorem dX7_game_1 : decode cX7_game 1 = .ok (.iload_n 1, 1) := by decide +kernel
theorem dX7_game_2 : decode cX7_game 2 = .ok (.invokevirtual 202, 3) := by decide +kernel
theorem dX7_game_5 : decode cX7_game 5 = .ok (.ifCond .eq 32, 3) := by decide +kernel
theorem dX7_game_8 : decode cX7_game 8 = .ok (.iload_n 2, 1) := by decide +kernel
theorem dX7_game_9 : decode cX7_game 9 = .ok (.i2l, 1) := by decide +kernel
theorem dX7_game_10 : decode cX7_game 10 = .ok (.lconst 0, 1) := by decide +kernel
theorem dX7_game_11 : decode cX7_game 11 = .ok (.ldc2_w 212, 3) := by decide +kernel
theorem dX7_game_14 : decode cX7_game 14 = .ok (.invokestatic 43, 3) := by decide +kernel
theorem dX7_game_17 : decode cX7_game 17 = .ok (.ifCond .eq 20, 3) := by decide +kernel
theorem dX7_game_20 : decode cX7_game 20 = .ok (.aload_n 0, 1) := by decide +kernel
theorem dX7_game_21 : decode cX7_game 21 = .ok (.getfield 9, 3) := by decide +kernel
theorem dX7_game_24 : decode cX7_game 24 = .ok (.bipush 51, 2) := by decide +kernel
theorem dX7_game_26 : decode cX7_game 26 = .ok (.bipush 9, 2) := by decide +kernel
theorem dX7_game_28 : decode cX7_game 28 = .ok (.iload_n 2, 1) := by decide +kernel
theorem dX7_game_29 : decode cX7_game 29 = .ok (.imul, 1) := by decide +kernel
theorem dX7_game_30 : decode cX7_game 30 = .ok (.iadd, 1) := by decide +kernel
theorem dX7_game_31 : decode cX7_game 31 = .ok (.iload_n 1, 1) := by decide +kernel
theorem dX7_game_32 : decode cX7_game 32 = .ok (.iadd, 1) := by decide +kernel
theorem dX7_game_33 : decode cX7_game 33 = .ok (.iaload, 1) := by decide +kernel
theorem dX7_game_34 : decode cX7_game 34 = .ok (.goto 5, 3) := by decide +kernel
theorem dX7_game_37 : decode cX7_game 37 = .ok (.bipush (-2), 2) := by decide +kernel
theorem dX7_game_39 : decode cX7_game 39 = .ok (.ireturn, 1) := by decide +kernel
def f_X7_game (l0 : Nat) (l1 : Int32) (l2 : Int32) (h0 : Hp) : Option (Int32 × Hp) :=
  (ck h0 l0 7).bind fun _ => (f_X7_isGame l0 l1 h0).bind fun q1 => if q1.1 = 0 then (some ((-2 : Int32), q1.2)) else ((f_X7_in (Int32.toInt64 l2) (0 : Int64) (3 : Int64) q1.2).bind fun q3 => if q3.1 = 0 then (some ((-2 : Int32), q3.2)) else ((gR q3.2 l0 7 0).bind fun r5 => (aL q3.2 r5 (((51 : Int32) + ((9 : Int32) * l2)) + l1)).bind fun x6 => some (x6, q3.2)))
set_option maxRecDepth 100000 in
set_option maxHeartbeats 4000000 in
theorem c_X7_game {l0 : Nat} {l1 : Int32} {l2 : Int32} {h0 : Hp} {q : Int32 × Hp} (hf : f_X7_game l0 l1 l2 h0 = some q) : Mt 3 yX7_game cX7_game 3 (some .int) [.ref l0, .int l1, .int l2] h0 (some (.int q.1)) q.2 := by
  refine MtQ.of (by decide) (Nat.le_of_ble_eq_true rfl) (fun X adr hr hn => ?_)
  unfold f_X7_game at hf
  show AW X cX7_game 3 RX7 (rmd 3 0 0) (Qmet X 0 0 (Qe (some (.int q.1)) q.2 adr)) 0 0 adr h0 0 [(0, .ref l0), (1, .int l1), (2, .int l2)] []
  obtain ⟨u0, e0, hf⟩ := b_some hf
  refine aw_aload_n 0 dX7_game_0 rfl rfl ?_
  refine aw_iload_n 1 dX7_game_1 rfl rfl ?_
  obtain ⟨q1, eq1, hf⟩ := b_some hf
  refine aw_cV (as := [.int l1]) dX7_game_2 moX7_isGame voX7_isGame mlX7_202 (k_X7_isGame eq1) rfl (rm_ok (by omega) (by decide)) ⟨Nat.le_refl _, Nat.le_refl _⟩ (Nat.le_of_ble_eq_true rfl) rfl (c_X7_isGame eq1) ?_
  refine aw_if_eq (tgt := 37) dX7_game_5 (by decide) (fun c2 => ?_) (fun c2 => ?_)
  · have hf := i_pos c2 hf
    refine aw_bipush (v := -2) dX7_game_37 (by decide) ?_
    have hq := Option.some.inj hf
    subst hq
    exact aw_iret hr dX7_game_39 ⟨rfl, rfl, rfl⟩
  · have hf := i_neg c2 hf
    refine aw_iload_n 2 dX7_game_8 rfl rfl ?_
    refine aw_i2l dX7_game_9 ?_
    refine aw_lconst (v := 0) dX7_game_10 (by decide) ?_
    refine aw_ldc2 dX7_game_11 klX7_212 ?_
    obtain ⟨q3, eq3, hf⟩ := b_some hf
    refine aw_cS (as := [.long (Int32.toInt64 l2), .long (0 : Int64), .long (3 : Int64)]) dX7_game_14 moX7_in soX7_in mlX7_43 (rm_ok (by omega) (by decide)) ⟨Nat.le_refl _, Nat.le_refl _⟩ (Nat.le_of_ble_eq_true rfl) rfl (c_X7_in eq3) ?_
    refine aw_if_eq (tgt := 37) dX7_game_17 (by decide) (fun c4 => ?_) (fun c4 => ?_)
    · have hf := i_pos c4 hf
      refine aw_bipush (v := -2) dX7_game_37 (by decide) ?_
      have hq := Option.some.inj hf
      subst hq
      exact aw_iret hr dX7_game_39 ⟨rfl, rfl, rfl⟩
    · have hf := i_neg c4 hf
      refine aw_aload_n 0 dX7_game_20 rfl rfl ?_
      obtain ⟨r5, er5, hf⟩ := b_some hf
      refine aw_getR dX7_game_21 gfX7_9 er5 ?_
      refine aw_bipush (v := 51) dX7_game_24 (by decide) ?_
      refine aw_bipush (v := 9) dX7_game_26 (by decide) ?_
      refine aw_iload_n 2 dX7_game_28 rfl rfl ?_
      refine aw_imul dX7_game_29 ?_
      refine aw_iadd dX7_game_30 ?_
      refine aw_iload_n 1 dX7_game_31 rfl rfl ?_
      refine aw_iadd dX7_game_32 ?_
      obtain ⟨x6, ex6, hf⟩ := b_some hf
      refine aw_iald dX7_game_33 ex6 ?_
      refine aw_goto (tgt := 39) dX7_game_34 (by decide) ?_
      have hq := Option.some.inj hf
      subst hq
      exact aw_iret hr dX7_game_39 ⟨rfl, rfl, rfl⟩
theorem k_X7_game {l0 : Nat} {l1 : Int32} {l2 : Int32} {h0 : Hp} {q : Int32 × Hp} (hf : f_X7_game l0 l1 l2 h0 = some q) : ck h0 l0 7 = some () := by
  unfold f_X7_game at hf
  obtain ⟨u0, e0, hf⟩ := b_some hf
  exact e0
theorem dX7_isWord_0 : decode cX7_isWord 0 = .ok (.aload_n 0, 1) := by decide +kernel
theorem dX7_isWord_1 : decode cX7_isWord 1 = .ok (.getfield 149, 3) := by decide +kernel
theorem dX7_isWord_4 : decode cX7_isWord 4 = .ok (.aload_n 0, 1) := by decide +kernel
theorem dX7_isWord_5 : decode cX7_isWord 5 = .ok (.getfield 146, 3) := by decide +kernel
theorem dX7_isWord_8 : decode cX7_isWord 8 = .ok (.if_icmp .le 22, 3) := by decide +kernel
theorem dX7_isWord_11 : decode cX7_isWord 11 = .ok (.aload_n 0, 1) := by decide +kernel
theorem dX7_isWord_12 : decode cX7_isWord 12 = .ok (.getfield 25, 3) := by decide +kernel
theorem dX7_isWord_15 : decode cX7_isWord 15 = .ok (.aload_n 0, 1) := by decide +kernel
theorem dX7_isWord_16 : decode cX7_isWord 16 = .ok (.getfield 146, 3) := by decide +kernel
theorem dX7_isWord_19 : decode cX7_isWord 19 = .ok (.iaload, 1) := by decide +kernel
theorem dX7_isWord_20 : decode cX7_isWord 20 = .ok (.invokestatic 152, 3) := by decide +kernel
theorem dX7_isWord_23 : decode cX7_isWord 23 = .ok (.ifCond .eq 7, 3) := by decide +kernel
theorem dX7_isWord_26 : decode cX7_isWord 26 = .ok (.iconst 1, 1) := by decide +kernel
theorem dX7_isWord_27 : decode cX7_isWord 27 = .ok (.goto 4, 3) := by decide +kernel
theorem dX7_isWord_30 : decode cX7_isWord 30 = .ok (.iconst 0, 1) := by decide +kernel
theorem dX7_isWord_31 : decode cX7_isWord 31 = .ok (.ireturn, 1) := by decide +kernel
def f_X7_isWord (l0 : Nat) (h0 : Hp) : Option (Int32 × Hp) :=
  (ck h0 l0 7).bind fun _ => (gI h0 l0 7 14).bind fun x1 => (gI h0 l0 7 13).bind fun x2 => if x1 ≤ x2 then (some ((0 : Int32), h0)) else ((gR h0 l0 7 10).bind fun r4 => (gI h0 l0 7 13).bind fun x5 => (aL h0 r4 x5).bind fun x6 => (f_X7_isLetter x6 h0).bind fun q7 => if q7.1 = 0 then (some ((0 : Int32), q7.2)) else (some ((1 : Int32), q7.2)))
set_option maxRecDepth 100000 in
set_option maxHeartbeats 4000000 in
theorem c_X7_isWord {l0 : Nat} {h0 : Hp} {q : Int32 × Hp} (hf : f_X7_isWord l0 h0 = some q) : Mt 3 yX7_isWord cX7_isWord 1 (some .boolean) [.ref l0] h0 (some (.int q.1)) q.2 := by
  refine MtQ.of (by decide) (Nat.le_of_ble_eq_true rfl) (fun X adr hr hn => ?_)
  unfold f_X7_isWord at hf
  show AW X cX7_isWord 1 RX7 (rmd 3 0 0) (Qmet X 0 0 (Qe (some (.int q.1)) q.2 adr)) 0 0 adr h0 0 [(0, .ref l0)] []
  obtain ⟨u0, e0, hf⟩ := b_some hf
  refine aw_aload_n 0 dX7_isWord_0 rfl rfl ?_
  obtain ⟨x1, ex1, hf⟩ := b_some hf
  refine aw_getI dX7_isWord_1 gfX7_149 ex1 ?_
  refine aw_aload_n 0 dX7_isWord_4 rfl rfl ?_
  obtain ⟨x2, ex2, hf⟩ := b_some hf
  refine aw_getI dX7_isWord_5 gfX7_146 ex2 ?_
  refine aw_icmp_le (tgt := 30) dX7_isWord_8 (by decide) (fun c3 => ?_) (fun c3 => ?_)
  · have hf := i_pos c3 hf
    refine aw_iconst (v := 0) dX7_isWord_30 (by decide) ?_
    have hq := Option.some.inj hf
    subst hq
    exact aw_zret hr (by decide) dX7_isWord_31 ⟨rfl, rfl, rfl⟩
  · have hf := i_neg c3 hf
    refine aw_aload_n 0 dX7_isWord_11 rfl rfl ?_
    obtain ⟨r4, er4, hf⟩ := b_some hf
    refine aw_getR dX7_isWord_12 gfX7_25 er4 ?_
    refine aw_aload_n 0 dX7_isWord_15 rfl rfl ?_
    obtain ⟨x5, ex5, hf⟩ := b_some hf
    refine aw_getI dX7_isWord_16 gfX7_146 ex5 ?_
    obtain ⟨x6, ex6, hf⟩ := b_some hf
    refine aw_iald dX7_isWord_19 ex6 ?_
    obtain ⟨q7, eq7, hf⟩ := b_some hf
    refine aw_cS (as := [.int x6]) dX7_isWord_20 moX7_isLetter soX7_isLetter mlX7_152 (rm_ok (by omega) (by decide)) ⟨Nat.le_refl _, Nat.le_refl _⟩ (Nat.le_of_ble_eq_true rfl) rfl (c_X7_isLetter eq7) ?_
    refine aw_if_eq (tgt := 30) dX7_isWord_23 (by decide) (fun c8 => ?_) (fun c8 => ?_)
    · have hf := i_pos c8 hf
      refine aw_iconst (v := 0) dX7_isWord_30 (by decide) ?_
      have hq := Option.some.inj hf
      subst hq
      exact aw_zret hr (by decide) dX7_isWord_31 ⟨rfl, rfl, rfl⟩
    · have hf := i_neg c8 hf
      refine aw_iconst (v := 1) dX7_isWord_26 (by decide) ?_
      refine aw_goto (tgt := 31) dX7_isWord_27 (by decide) ?_
      have hq := Option.some.inj hf
      subst hq
      exact aw_zret hr (by decide) dX7_isWord_31 ⟨rfl, rfl, rfl⟩
theorem k_X7_isWord {l0 : Nat} {h0 : Hp} {q : Int32 × Hp} (hf : f_X7_isWord l0 h0 = some q) : ck h0 l0 7 = some () := by
  unfold f_X7_isWord at hf
  obtain ⟨u0, e0, hf⟩ := b_some hf
  exact e0
theorem dX7_key_0 : decode cX7_key 0 = .ok (.iconst 0, 1) := by decide +kernel
theorem dX7_key_1 : decode cX7_key 1 = .ok (.istore_n 1, 1) := by decide +kernel
theorem dX7_key_2 : decode cX7_key 2 = .ok (.iload_n 1, 1) := by decide +kernel
theorem dX7_key_3 : decode cX7_key 3 = .ok (.iconst 5, 1) := by decide +kernel
theorem dX7_key_4 : decode cX7_key 4 = .ok (.if_icmp .ge 99, 3) := by decide +kernel
theorem dX7_key_7 : decode cX7_key 7 = .ok (.aload_n 0, 1) := by decide +kernel
theorem dX7_key_8 : decode cX7_key 8 = .ok (.getfield 149, 3) := by decide +kernel
theorem dX7_key_11 : decode cX7_key 11 = .ok (.aload_n 0, 1) := by decide +kernel
theorem dX7_key_12 : decode cX7_key 12 = .ok (.getfield 146, 3) := by decide +kernel
theorem dX7_key_15 : decode cX7_key 15 = .ok (.isub, 1) := by decide +kernel
theorem dX7_key_16 : decode cX7_key 16 = .ok (.iconst 5, 1) := by decide +kernel
theorem dX7_key_17 : decode cX7_key 17 = .ok (.if_icmp .gt 7, 3) := by decide +kernel
theorem dX7_key_20 : decode cX7_key 20 = .ok (.iconst 1, 1) := by decide +kernel
theorem dX7_key_21 : decode cX7_key 21 = .ok (.goto 4, 3) := by decide +kernel
theorem dX7_key_24 : decode cX7_key 24 = .ok (.iconst 0, 1) := by decide +kernel
theorem dX7_key_25 : decode cX7_key 25 = .ok (.istore_n 2, 1) := by decide +kernel
theorem dX7_key_26 : decode cX7_key 26 = .ok (.iconst 0, 1) := by decide +kernel
theorem dX7_key_27 : decode cX7_key 27 = .ok (.istore_n 3, 1) := by decide +kernel
theorem dX7_key_28 : decode cX7_key 28 = .ok (.iload_n 3, 1) := by decide +kernel
theorem dX7_key_29 : decode cX7_key 29 = .ok (.iconst 5, 1) := by decide +kernel
theorem dX7_key_30 : decode cX7_key 30 = .ok (.if_icmp .ge 61, 3) := by decide +kernel
theorem dX7_key_33 : decode cX7_key 33 = .ok (.iload_n 2, 1) := by decide +kernel
theorem dX7_key_34 : decode cX7_key 34 = .ok (.ifCond .eq 49, 3) := by decide +kernel
theorem dX7_key_37 : decode cX7_key 37 = .ok (.aload_n 0, 1) := by decide +kernel
theorem dX7_key_38 : decode cX7_key 38 = .ok (.getfield 146, 3) := by decide +kernel
theorem dX7_key_41 : decode cX7_key 41 = .ok (.iload_n 3, 1) := by decide +kernel
theorem dX7_key_42 : decode cX7_key 42 = .ok (.iadd, 1) := by decide +kernel
theorem dX7_key_43 : decode cX7_key 43 = .ok (.aload_n 0, 1) := by decide +kernel
theorem dX7_key_44 : decode cX7_key 44 = .ok (.getfield 149, 3) := by decide +kernel
theorem dX7_key_47 : decode cX7_key 47 = .ok (.if_icmp .ge 17, 3) := by decide +kernel
theorem dX7_key_50 : decode cX7_key 50 = .ok (.aload_n 0, 1) := by decide +kernel
theorem dX7_key_51 : decode cX7_key 51 = .ok (.getfield 25, 3) := by decide +kernel
theorem dX7_key_54 : decode cX7_key 54 = .ok (.aload_n 0, 1) := by decide +kernel
theorem dX7_key_55 : decode cX7_key 55 = .ok (.getfield 146, 3) := by decide +kernel
theorem dX7_key_58 : decode cX7_key 58 = .ok (.iload_n 3, 1) := by decide +kernel
theorem dX7_key_59 : decode cX7_key 59 = .ok (.iadd, 1) := by decide +kernel
theorem dX7_key_60 : decode cX7_key 60 = .ok (.iaload, 1) := by decide +kernel
theorem dX7_key_61 : decode cX7_key 61 = .ok (.goto 5, 3) := by decide +kernel
theorem dX7_key_64 : decode cX7_key 64 = .ok (.bipush 32, 2) := by decide +kernel
theorem dX7_key_66 : decode cX7_key 66 = .ok (.aload_n 0, 1) := by decide +kernel
theorem dX7_key_67 : decode cX7_key 67 = .ok (.getfield 28, 3) := by decide +kernel
theorem dX7_key_70 : decode cX7_key 70 = .ok (.iconst 5, 1) := by decide +kernel
theorem dX7_key_71 : decode cX7_key 71 = .ok (.iload_n 1, 1) := by decide +kernel
theorem dX7_key_72 : decode cX7_key 72 = .ok (.imul, 1) := by decide +kernel
theorem dX7_key_73 : decode cX7_key 73 = .ok (.iload_n 3, 1) := by decide +kernel
theorem dX7_key_74 : decode cX7_key 74 = .ok (.iadd, 1) := by decide +kernel
theorem dX7_key_75 : decode cX7_key 75 = .ok (.iaload, 1) := by decide +kernel
theorem dX7_key_76 : decode cX7_key 76 = .ok (.if_icmp .ne 7, 3) := by decide +kernel
theorem dX7_key_79 : decode cX7_key 79 = .ok (.iconst 1, 1) := by decide +kernel
theorem dX7_key_80 : decode cX7_key 80 = .ok (.goto 4, 3) := by decide +kernel
theorem dX7_key_83 : decode cX7_key 83 = .ok (.iconst 0, 1) := by decide +kernel
theorem dX7_key_84 : decode cX7_key 84 = .ok (.istore_n 2, 1) := by decide +kernel
theorem dX7_key_85 : decode cX7_key 85 = .ok (.iinc 3 1, 3) := by decide +kernel
theorem dX7_key_88 : decode cX7_key 88 = .ok (.goto (-60), 3) := by decide +kernel
theorem dX7_key_91 : decode cX7_key 91 = .ok (.iload_n 2, 1) := by decide +kernel
theorem dX7_key_92 : decode cX7_key 92 = .ok (.ifCond .eq 5, 3) := by decide +kernel
theorem dX7_key_95 : decode cX7_key 95 = .ok (.iload_n 1, 1) := by decide +kernel
theorem dX7_key_96 : decode cX7_key 96 = .ok (.ireturn, 1) := by decide +kernel
theorem dX7_key_97 : decode cX7_key 97 = .ok (.iinc 1 1, 3) := by decide +kernel
theorem dX7_key_100 : decode cX7_key 100 = .ok (.goto (-98), 3) := by decide +kernel
theorem dX7_key_103 : decode cX7_key 103 = .ok (.iconst (-1), 1) := by decide +kernel
theorem dX7_key_104 : decode cX7_key 104 = .ok (.ireturn, 1) := by decide +kernel
def f_X7_key_66 (k2 : Nat × Int32 → Hp → Option (Int32 × Hp)) (k28 : Nat × Int32 × Int32 × Int32 → Hp → Option (Int32 × Hp)) (l0 : Nat) (l1 : Int32) (l3 : Int32) (s0 : Int32) (h0 : Hp) : Option (Int32 × Hp) :=
  (gR h0 l0 7 15).bind fun r1 => (aL h0 r1 (((5 : Int32) * l1) + l3)).bind fun x2 => if s0 = x2 then ((some (l3 + 1)).bind fun x5 => k28 (l0, l1, (1 : Int32), x5) h0) else ((some (l3 + 1)).bind fun x4 => k28 (l0, l1, (0 : Int32), x4) h0)
set_option maxRecDepth 100000 in
set_option maxHeartbeats 4000000 in
theorem c_X7_key_66 {X : Cx} {adr : Nat → Nat} {q : Int32 × Hp} (hr : (mth X).sig.returnType = (some .int)) {k2 : Nat × Int32 → Hp → Option (Int32 × Hp)} (hk2 : ∀ v h, k2 v h = some q → AW X cX7_key 4 RX7 (rmd 1 0 0) (Qmet X 0 0 (Qe (some (.int q.1)) q.2 adr)) 0 0 adr h 2 [(0, .ref v.1), (1, .int v.2)] []) {k28 : Nat × Int32 × Int32 × Int32 → Hp → Option (Int32 × Hp)} (hk28 : ∀ v h, k28 v h = some q → AW X cX7_key 4 RX7 (rmd 1 0 0) (Qmet X 0 0 (Qe (some (.int q.1)) q.2 adr)) 0 0 adr h 28 [(0, .ref v.1), (1, .int v.2.1), (2, .int v.2.2.1), (3, .int v.2.2.2)] []) {l0 : Nat} {l1 : Int32} {l3 : Int32} {s0 : Int32} {h0 : Hp} (hf : f_X7_key_66 k2 k28 l0 l1 l3 s0 h0 = some q) : AW X cX7_key 4 RX7 (rmd 1 0 0) (Qmet X 0 0 (Qe (some (.int q.1)) q.2 adr)) 0 0 adr h0 66 [(0, .ref l0), (1, .int l1), (3, .int l3)] [.int s0] := by
  unfold f_X7_key_66 at hf
  refine aw_aload_n 0 dX7_key_66 rfl rfl ?_
  obtain ⟨r1, er1, hf⟩ := b_some hf
  refine aw_getR dX7_key_67 gfX7_28 er1 ?_
  refine aw_iconst (v := 5) dX7_key_70 (by decide) ?_
  refine aw_iload_n 1 dX7_key_71 rfl rfl ?_
  refine aw_imul dX7_key_72 ?_
  refine aw_iload_n 2 dX7_key_73 rfl rfl ?_
  refine aw_iadd dX7_key_74 ?_
  obtain ⟨x2, ex2, hf⟩ := b_some hf
  refine aw_iald dX7_key_75 ex2 ?_
  refine aw_icmp_ne (tgt := 83) dX7_key_76 (by decide) (fun c3 => ?_) (fun c3 => ?_)
  · have hf := i_neg c3 hf
    refine aw_iconst (v := 0) dX7_key_83 (by decide) ?_
    refine aw_istore_n (L' := [(2, .int (0 : Int32)), (0, .ref l0), (1, .int l1), (3, .int l3)]) dX7_key_84 rfl (by decide) rfl ?_
    obtain ⟨x4, ex4, hf⟩ := b_some hf
    refine aw_iinc (v := x4) (L' := [(3, .int x4), (2, .int (0 : Int32)), (0, .ref l0), (1, .int l1)]) 3 dX7_key_85 rfl (Option.some.inj ex4) (by decide) rfl ?_
    refine aw_goto (tgt := 28) dX7_key_88 (by decide) ?_
    exact aw_sub [2, 3, 1, 0] rfl (hk28 _ _ hf)
  · have hf := i_pos c3 hf
    refine aw_iconst (v := 1) dX7_key_79 (by decide) ?_
    refine aw_goto (tgt := 84) dX7_key_80 (by decide) ?_
    refine aw_istore_n (L' := [(2, .int (1 : Int32)), (0, .ref l0), (1, .int l1), (3, .int l3)]) dX7_key_84 rfl (by decide) rfl ?_
    obtain ⟨x5, ex5, hf⟩ := b_some hf
    refine aw_iinc (v := x5) (L' := [(3, .int x5), (2, .int (1 : Int32)), (0, .ref l0), (1, .int l1)]) 3 dX7_key_85 rfl (Option.some.inj ex5) (by decide) rfl ?_
    refine aw_goto (tgt := 28) dX7_key_88 (by decide) ?_
    exact aw_sub [2, 3, 1, 0] rfl (hk28 _ _ hf)
def f_X7_key_28 (k2 : Nat × Int32 → Hp → Option (Int32 × Hp)) (k28 : Nat × Int32 × Int32 × Int32 → Hp → Option (Int32 × Hp)) (v : Nat × Int32 × Int32 × Int32) (h0 : Hp) : Option (Int32 × Hp) :=
  match v with
  | (l0, l1, l2, l3) => if (5 : Int32) ≤ l3 then (if l2 = 0 then ((some (l1 + 1)).bind fun x3 => k2 (l0, x3) h0) else (some (l1, h0))) else (if l2 = 0 then ((some (l3 + 1)).bind fun x5 => k28 (l0, l1, (0 : Int32), x5) h0) else ((gI h0 l0 7 13).bind fun x6 => (gI h0 l0 7 14).bind fun x7 => if x7 ≤ (x6 + l3) then (f_X7_key_66 k2 k28 l0 l1 l3 (32 : Int32) h0) else ((gR h0 l0 7 10).bind fun r9 => (gI h0 l0 7 13).bind fun x10 => (aL h0 r9 (x10 + l3)).bind fun x11 => f_X7_key_66 k2 k28 l0 l1 l3 x11 h0)))
set_option maxRecDepth 100000 in
set_option maxHeartbeats 4000000 in
theorem c_X7_key_28 {X : Cx} {adr : Nat → Nat} {q : Int32 × Hp} (hr : (mth X).sig.returnType = (some .int)) {k2 : Nat × Int32 → Hp → Option (Int32 × Hp)} (hk2 : ∀ v h, k2 v h = some q → AW X cX7_key 4 RX7 (rmd 1 0 0) (Qmet X 0 0 (Qe (some (.int q.1)) q.2 adr)) 0 0 adr h 2 [(0, .ref v.1), (1, .int v.2)] []) (n : Nat) : ∀ v h0, lp (f_X7_key_28 k2) n v h0 = some q → AW X cX7_key 4 RX7 (rmd 1 0 0) (Qmet X 0 0 (Qe (some (.int q.1)) q.2 adr)) 0 0 adr h0 28 [(0, .ref v.1), (1, .int v.2.1), (2, .int v.2.2.1), (3, .int v.2.2.2)] [] := by
  refine aw_lp (fun k28 hk28 v h0 hf => ?_) n
  obtain ⟨l0, l1, l2, l3⟩ := v
  unfold f_X7_key_28 at hf
  dsimp only at hf
  show AW X cX7_key 4 RX7 (rmd 1 0 0) (Qmet X 0 0 (Qe (some (.int q.1)) q.2 adr)) 0 0 adr h0 28 [(0, .ref l0), (1, .int l1), (2, .int l2), (3, .int l3)] []
  refine aw_iload_n 3 dX7_key_28 rfl rfl ?_
  refine aw_iconst (v := 5) dX7_key_29 (by decide) ?_
  refine aw_icmp_ge (tgt := 91) dX7_key_30 (by decide) (fun c1 => ?_) (fun c1 => ?_)
  · have hf := i_pos c1 hf
    refine aw_iload_n 2 dX7_key_91 rfl rfl ?_
    refine aw_if_eq (tgt := 97) dX7_key_92 (by decide) (fun c2 => ?_) (fun c2 => ?_)
    · have hf := i_pos c2 hf
      obtain ⟨x3, ex3, hf⟩ := b_some hf
      refine aw_iinc (v := x3) (L' := [(1, .int x3), (0, .ref l0), (2, .int l2), (3, .int l3)]) 1 dX7_key_97 rfl (Option.some.inj ex3) (by decide) rfl ?_
      refine aw_goto (tgt := 2) dX7_key_100 (by decide) ?_
      exact aw_sub [1, 0] rfl (hk2 _ _ hf)
    · have hf := i_neg c2 hf
      refine aw_iload_n 1 dX7_key_95 rfl rfl ?_
      have hq := Option.some.inj hf
      subst hq
      exact aw_iret hr dX7_key_96 ⟨rfl, rfl, rfl⟩
  · have hf := i_neg c1 hf
    refine aw_iload_n 2 dX7_key_33 rfl rfl ?_
    refine aw_if_eq (tgt := 83) dX7_key_34 (by decide) (fun c4 => ?_) (fun c4 => ?_)
    · have hf := i_pos c4 hf
      refine aw_iconst (v := 0) dX7_key_83 (by decide) ?_
      refine aw_istore_n (L' := [(2, .int (0 : Int32)), (0, .ref l0), (1, .int l1), (3, .int l3)]) dX7_key_84 rfl (by decide) rfl ?_
      obtain ⟨x5, ex5, hf⟩ := b_some hf
      refine aw_iinc (v := x5) (L' := [(3, .int x5), (2, .int (0 : Int32)), (0, .ref l0), (1, .int l1)]) 3 dX7_key_85 rfl (Option.some.inj ex5) (by decide) rfl ?_
      refine aw_goto (tgt := 28) dX7_key_88 (by decide) ?_
      exact aw_sub [2, 3, 1, 0] rfl (hk28 _ _ hf)
    · have hf := i_neg c4 hf
      refine aw_aload_n 0 dX7_key_37 rfl rfl ?_
      obtain ⟨x6, ex6, hf⟩ := b_some hf
      refine aw_getI dX7_key_38 gfX7_146 ex6 ?_
      refine aw_iload_n 3 dX7_key_41 rfl rfl ?_
      refine aw_iadd dX7_key_42 ?_
      refine aw_aload_n 0 dX7_key_43 rfl rfl ?_
      obtain ⟨x7, ex7, hf⟩ := b_some hf
      refine aw_getI dX7_key_44 gfX7_149 ex7 ?_
      refine aw_icmp_ge (tgt := 64) dX7_key_47 (by decide) (fun c8 => ?_) (fun c8 => ?_)
      · have hf := i_pos c8 hf
        refine aw_bipush (v := 32) dX7_key_64 (by decide) ?_
        exact aw_sub [0, 1, 3] rfl (c_X7_key_66 hr hk2 hk28 hf)
      · have hf := i_neg c8 hf
        refine aw_aload_n 0 dX7_key_50 rfl rfl ?_
        obtain ⟨r9, er9, hf⟩ := b_some hf
        refine aw_getR dX7_key_51 gfX7_25 er9 ?_
        refine aw_aload_n 0 dX7_key_54 rfl rfl ?_
        obtain ⟨x10, ex10, hf⟩ := b_some hf
        refine aw_getI dX7_key_55 gfX7_146 ex10 ?_
        refine aw_iload_n 3 dX7_key_58 rfl rfl ?_
        refine aw_iadd dX7_key_59 ?_
        obtain ⟨x11, ex11, hf⟩ := b_some hf
        refine aw_iald dX7_key_60 ex11 ?_
        refine aw_goto (tgt := 66) dX7_key_61 (by decide) ?_
        exact aw_sub [0, 1, 3] rfl (c_X7_key_66 hr hk2 hk28 hf)
def f_X7_key_25 (k2 : Nat × Int32 → Hp → Option (Int32 × Hp)) (l0 : Nat) (l1 : Int32) (s0 : Int32) (h0 : Hp) : Option (Int32 × Hp) :=
  lp (f_X7_key_28 k2) 600 (l0, l1, s0, (0 : Int32)) h0
set_option maxRecDepth 100000 in
set_option maxHeartbeats 4000000 in
theorem c_X7_key_25 {X : Cx} {adr : Nat → Nat} {q : Int32 × Hp} (hr : (mth X).sig.returnType = (some .int)) {k2 : Nat × Int32 → Hp → Option (Int32 × Hp)} (hk2 : ∀ v h, k2 v h = some q → AW X cX7_key 4 RX7 (rmd 1 0 0) (Qmet X 0 0 (Qe (some (.int q.1)) q.2 adr)) 0 0 adr h 2 [(0, .ref v.1), (1, .int v.2)] []) {l0 : Nat} {l1 : Int32} {s0 : Int32} {h0 : Hp} (hf : f_X7_key_25 k2 l0 l1 s0 h0 = some q) : AW X cX7_key 4 RX7 (rmd 1 0 0) (Qmet X 0 0 (Qe (some (.int q.1)) q.2 adr)) 0 0 adr h0 25 [(0, .ref l0), (1, .int l1)] [.int s0] := by
  unfold f_X7_key_25 at hf
  refine aw_istore_n (L' := [(2, .int s0), (0, .ref l0), (1, .int l1)]) dX7_key_25 rfl (by decide) rfl ?_
  refine aw_iconst (v := 0) dX7_key_26 (by decide) ?_
  refine aw_istore_n (L' := [(3, .int (0 : Int32)), (2, .int s0), (0, .ref l0), (1, .int l1)]) dX7_key_27 rfl (by decide) rfl ?_
  exact aw_sub [2, 3, 1, 0] rfl (c_X7_key_28 hr hk2 600 _ _ hf)
def f_X7_key_2 (k2 : Nat × Int32 → Hp → Option (Int32 × Hp)) (v : Nat × Int32) (h0 : Hp) : Option (Int32 × Hp) :=
  match v with
  | (l0, l1) => if (5 : Int32) ≤ l1 then (some ((-1 : Int32), h0)) else ((gI h0 l0 7 14).bind fun x2 => (gI h0 l0 7 13).bind fun x3 => if (5 : Int32) < (x2 - x3) then (f_X7_key_25 k2 l0 l1 (0 : Int32) h0) else (f_X7_key_25 k2 l0 l1 (1 : Int32) h0))
set_option maxRecDepth 100000 in
set_option maxHeartbeats 4000000 in
theorem c_X7_key_2 {X : Cx} {adr : Nat → Nat} {q : Int32 × Hp} (hr : (mth X).sig.returnType = (some .int)) (n : Nat) : ∀ v h0, lp (f_X7_key_2) n v h0 = some q → AW X cX7_key 4 RX7 (rmd 1 0 0) (Qmet X 0 0 (Qe (some (.int q.1)) q.2 adr)) 0 0 adr h0 2 [(0, .ref v.1), (1, .int v.2)] [] := by
  refine aw_lp (fun k2 hk2 v h0 hf => ?_) n
  obtain ⟨l0, l1⟩ := v
  unfold f_X7_key_2 at hf
  dsimp only at hf
  show AW X cX7_key 4 RX7 (rmd 1 0 0) (Qmet X 0 0 (Qe (some (.int q.1)) q.2 adr)) 0 0 adr h0 2 [(0, .ref l0), (1, .int l1)] []
  refine aw_iload_n 1 dX7_key_2 rfl rfl ?_
  refine aw_iconst (v := 5) dX7_key_3 (by decide) ?_
  refine aw_icmp_ge (tgt := 103) dX7_key_4 (by decide) (fun c1 => ?_) (fun c1 => ?_)
  · have hf := i_pos c1 hf
    refine aw_iconst (v := -1) dX7_key_103 (by decide) ?_
    have hq := Option.some.inj hf
    subst hq
    exact aw_iret hr dX7_key_104 ⟨rfl, rfl, rfl⟩
  · have hf := i_neg c1 hf
    refine aw_aload_n 0 dX7_key_7 rfl rfl ?_
    obtain ⟨x2, ex2, hf⟩ := b_some hf
    refine aw_getI dX7_key_8 gfX7_149 ex2 ?_
    refine aw_aload_n 0 dX7_key_11 rfl rfl ?_
    obtain ⟨x3, ex3, hf⟩ := b_some hf
    refine aw_getI dX7_key_12 gfX7_146 ex3 ?_
    refine aw_isub dX7_key_15 ?_
    refine aw_iconst (v := 5) dX7_key_16 (by decide) ?_
    refine aw_icmp_gt (tgt := 24) dX7_key_17 (by decide) (fun c4 => ?_) (fun c4 => ?_)
    · have hf := i_pos c4 hf
      refine aw_iconst (v := 0) dX7_key_24 (by decide) ?_
      exact aw_sub [0, 1] rfl (c_X7_key_25 hr hk2 hf)
    · have hf := i_neg c4 hf
      refine aw_iconst (v := 1) dX7_key_20 (by decide) ?_
      refine aw_goto (tgt := 25) dX7_key_21 (by decide) ?_
      exact aw_sub [0, 1] rfl (c_X7_key_25 hr hk2 hf)
def f_X7_key (l0 : Nat) (h0 : Hp) : Option (Int32 × Hp) :=
  (ck h0 l0 7).bind fun _ => lp (f_X7_key_2) 600 (l0, (0 : Int32)) h0
set_option maxRecDepth 100000 in
set_option maxHeartbeats 4000000 in
theorem c_X7_key {l0 : Nat} {h0 : Hp} {q : Int32 × Hp} (hf : f_X7_key l0 h0 = some q) : Mt 1 yX7_key cX7_key 4 (some .int) [.ref l0] h0 (some (.int q.1)) q.2 := by
  refine MtQ.of (by decide) (Nat.le_of_ble_eq_true rfl) (fun X adr hr hn => ?_)
  unfold f_X7_key at hf
  show AW X cX7_key 4 RX7 (rmd 1 0 0) (Qmet X 0 0 (Qe (some (.int q.1)) q.2 adr)) 0 0 adr h0 0 [(0, .ref l0)] []
  obtain ⟨u0, e0, hf⟩ := b_some hf
  refine aw_iconst (v := 0) dX7_key_0 (by decide) ?_
  refine aw_istore_n (L' := [(1, .int (0 : Int32)), (0, .ref l0)]) dX7_key_1 rfl (by decide) rfl ?_
  exact aw_sub [1, 0] rfl (c_X7_key_2 hr 600 _ _ hf)
theorem k_X7_key {l0 : Nat} {h0 : Hp} {q : Int32 × Hp} (hf : f_X7_key l0 h0 = some q) : ck h0 l0 7 = some () := by
  unfold f_X7_key at hf
  obtain ⟨u0, e0, hf⟩ := b_some hf
  exact e0
theorem dX7_isName_0 : decode cX7_isName 0 = .ok (.aload_n 0, 1) := by decide +kernel
theorem dX7_isName_1 : decode cX7_isName 1 = .ok (.invokevirtual 158, 3) := by decide +kernel
theorem dX7_isName_4 : decode cX7_isName 4 = .ok (.ifCond .eq 28, 3) := by decide +kernel
theorem dX7_isName_7 : decode cX7_isName 7 = .ok (.aload_n 0, 1) := by decide +kernel
theorem dX7_isName_8 : decode cX7_isName 8 = .ok (.getfield 149, 3) := by decide +kernel
theorem dX7_isName_11 : decode cX7_isName 11 = .ok (.aload_n 0, 1) := by decide +kernel
theorem dX7_isName_12 : decode cX7_isName 12 = .ok (.getfield 146, 3) := by decide +kernel
theorem dX7_isName_15 : decode cX7_isName 15 = .ok (.isub, 1) := by decide +kernel
theorem dX7_isName_16 : decode cX7_isName 16 = .ok (.bipush 6, 2) := by decide +kernel
theorem dX7_isName_18 : decode cX7_isName 18 = .ok (.if_icmp .gt 14, 3) := by decide +kernel
theorem dX7_isName_21 : decode cX7_isName 21 = .ok (.aload_n 0, 1) := by decide +kernel
theorem dX7_isName_22 : decode cX7_isName 22 = .ok (.invokevirtual 161, 3) := by decide +kernel
theorem dX7_isName_25 : decode cX7_isName 25 = .ok (.ifCond .ge 7, 3) := by decide +kernel
theorem dX7_isName_28 : decode cX7_isName 28 = .ok (.iconst 1, 1) := by decide +kernel
theorem dX7_isName_29 : decode cX7_isName 29 = .ok (.goto 4, 3) := by decide +kernel
theorem dX7_isName_32 : decode cX7_isName 32 = .ok (.iconst 0, 1) := by decide +kernel
theorem dX7_isName_33 : decode cX7_isName 33 = .ok (.ireturn, 1) := by decide +kernel
def f_X7_isName (l0 : Nat) (h0 : Hp) : Option (Int32 × Hp) :=
  (ck h0 l0 7).bind fun _ => (f_X7_isWord l0 h0).bind fun q1 => if q1.1 = 0 then (some ((0 : Int32), q1.2)) else ((gI q1.2 l0 7 14).bind fun x3 => (gI q1.2 l0 7 13).bind fun x4 => if (6 : Int32) < (x3 - x4) then (some ((0 : Int32), q1.2)) else ((f_X7_key l0 q1.2).bind fun q6 => if 0 ≤ q6.1 then (some ((0 : Int32), q6.2)) else (some ((1 : Int32), q6.2))))
set_option maxRecDepth 100000 in
set_option maxHeartbeats 4000000 in
theorem c_X7_isName {l0 : Nat} {h0 : Hp} {q : Int32 × Hp} (hf : f_X7_isName l0 h0 = some q) : Mt 4 yX7_isName cX7_isName 1 (some .boolean) [.ref l0] h0 (some (.int q.1)) q.2 := by
  refine MtQ.of (by decide) (Nat.le_of_ble_eq_true rfl) (fun X adr hr hn => ?_)
  unfold f_X7_isName at hf
  show AW X cX7_isName 1 RX7 (rmd 4 0 0) (Qmet X 0 0 (Qe (some (.int q.1)) q.2 adr)) 0 0 adr h0 0 [(0, .ref l0)] []
  obtain ⟨u0, e0, hf⟩ := b_some hf
  refine aw_aload_n 0 dX7_isName_0 rfl rfl ?_
  obtain ⟨q1, eq1, hf⟩ := b_some hf
  refine aw_cV (as := []) dX7_isName_1 moX7_isWord voX7_isWord mlX7_158 (k_X7_isWord eq1) rfl (rm_ok (by omega) (by decide)) ⟨Nat.le_refl _, Nat.le_refl _⟩ (Nat.le_of_ble_eq_true rfl) rfl (c_X7_isWord eq1) ?_
  refine aw_if_eq (tgt := 32) dX7_isName_4 (by decide) (fun c2 => ?_) (fun c2 => ?_)
  · have hf := i_pos c2 hf
    refine aw_iconst (v := 0) dX7_isName_32 (by decide) ?_
    have hq := Option.some.inj hf
    subst hq
    exact aw_zret hr (by decide) dX7_isName_33 ⟨rfl, rfl, rfl⟩
  · have hf := i_neg c2 hf
    refine aw_aload_n 0 dX7_isName_7 rfl rfl ?_
    obtain ⟨x3, ex3, hf⟩ := b_some hf
    refine aw_getI dX7_isName_8 gfX7_149 ex3 ?_
    refine aw_aload_n 0 dX7_isName_11 rfl rfl ?_
    obtain ⟨x4, ex4, hf⟩ := b_some hf
    refine aw_getI dX7_isName_12 gfX7_146 ex4 ?_
    refine aw_isub dX7_isName_15 ?_
    refine aw_bipush (v := 6) dX7_isName_16 (by decide) ?_
    refine aw_icmp_gt (tgt := 32) dX7_isName_18 (by decide) (fun c5 => ?_) (fun c5 => ?_)
    · have hf := i_pos c5 hf
      refine aw_iconst (v := 0) dX7_isName_32 (by decide) ?_
      have hq := Option.some.inj hf
      subst hq
      exact aw_zret hr (by decide) dX7_isName_33 ⟨rfl, rfl, rfl⟩
    · have hf := i_neg c5 hf
      refine aw_aload_n 0 dX7_isName_21 rfl rfl ?_
      obtain ⟨q6, eq6, hf⟩ := b_some hf
      refine aw_cV (as := []) dX7_isName_22 moX7_key voX7_key mlX7_161 (k_X7_key eq6) rfl (rm_ok (by omega) (by decide)) ⟨Nat.le_refl _, Nat.le_refl _⟩ (Nat.le_of_ble_eq_true rfl) rfl (c_X7_key eq6) ?_
      refine aw_if_ge (tgt := 32) dX7_isName_25 (by decide) (fun c7 => ?_) (fun c7 => ?_)
      · have hf := i_pos c7 hf
        refine aw_iconst (v := 0) dX7_isName_32 (by decide) ?_
        have hq := Option.some.inj hf
        subst hq
        exact aw_zret hr (by decide) dX7_isName_33 ⟨rfl, rfl, rfl⟩
      · have hf := i_neg c7 hf
        refine aw_iconst (v := 1) dX7_isName_28 (by decide) ?_
        refine aw_goto (tgt := 33) dX7_isName_29 (by decide) ?_
        have hq := Option.some.inj hf
        subst hq
        exact aw_zret hr (by decide) dX7_isName_33 ⟨rfl, rfl, rfl⟩
theorem k_X7_isName {l0 : Nat} {h0 : Hp} {q : Int32 × Hp} (hf : f_X7_isName l0 h0 = some q) : ck h0 l0 7 = some () := by
  unfold f_X7_isName at hf
  obtain ⟨u0, e0, hf⟩ := b_some hf
  exact e0
theorem dX7_isPlayed_0 : decode cX7_isPlayed 0 = .ok (.iconst (-1), 1) := by decide +kernel
theorem dX7_isPlayed_1 : decode cX7_isPlayed 1 = .ok (.istore 4, 2) := by decide +kernel
theorem dX7_isPlayed_3 : decode cX7_isPlayed 3 = .ok (.iconst 0, 1) := by decide +kernel
theorem dX7_isPlayed_4 : decode cX7_isPlayed 4 = .ok (.istore 5, 2) := by decide +kernel
theorem dX7_isPlayed_6 : decode cX7_isPlayed 6 = .ok (.iload 5, 2) := by decide +kernel
theorem dX7_isPlayed_8 : decode cX7_isPlayed 8 = .ok (.aload_n 0, 1) := by decide +kernel
theorem dX7_isPlayed_9 : decode cX7_isPlayed 9 = .ok (.getfield 9, 3) := by decide +kernel
theorem dX7_isPlayed_12 : decode cX7_isPlayed 12 = .ok (.iconst 1, 1) := by decide +kernel
theorem dX7_isPlayed_13 : decode cX7_isPlayed 13 = .ok (.iaload, 1) := by decide +kernel
theorem dX7_isPlayed_14 : decode cX7_isPlayed 14 = .ok (.if_icmp .ge 92, 3) := by decide +kernel
theorem dX7_isPlayed_17 : decode cX7_isPlayed 17 = .ok (.aload_n 0, 1) := by decide +kernel
theorem dX7_isPlayed_18 : decode cX7_isPlayed 18 = .ok (.getfield 9, 3) := by decide +kernel
theorem dX7_isPlayed_21 : decode cX7_isPlayed 21 = .ok (.bipush 78, 2) := by decide +kernel
theorem dX7_isPlayed_23 : decode cX7_isPlayed 23 = .ok (.iload 5, 2) := by decide +kernel
theorem dX7_isPlayed_25 : decode cX7_isPlayed 25 = .ok (.iadd, 1) := by decide +kernel
theorem dX7_isPlayed_26 : decode cX7_isPlayed 26 = .ok (.iaload, 1) := by decide +kernel
theorem dX7_isPlayed_27 : decode cX7_isPlayed 27 = .ok (.iconst (-1), 1) := by decide +kernel
theorem dX7_isPlayed_28 : decode cX7_isPlayed 28 = .ok (.if_icmp .ne 27, 3) := by decide +kernel
theorem dX7_isPlayed_31 : decode cX7_isPlayed 31 = .ok (.aload_n 0, 1) := by decide +kernel
theorem dX7_isPlayed_32 : decode cX7_isPlayed 32 = .ok (.iload 5, 2) := by decide +kernel
theorem dX7_isPlayed_34 : decode cX7_isPlayed 34 = .ok (.iload_n 1, 1) := by decide +kernel
theorem dX7_isPlayed_35 : decode cX7_isPlayed 35 = .ok (.invokevirtual 64, 3) := by decide +kernel
theorem dX7_isPlayed_38 : decode cX7_isPlayed 38 = .ok (.ifCond .eq 17, 3) := by decide +kernel
theorem dX7_isPlayed_41 : decode cX7_isPlayed 41 = .ok (.aload_n 0, 1) := by decide +kernel
theorem dX7_isPlayed_42 : decode cX7_isPlayed 42 = .ok (.iload 5, 2) := by decide +kernel
theorem dX7_isPlayed_44 : decode cX7_isPlayed 44 = .ok (.iload_n 2, 1) := by decide +kernel
theorem dX7_isPlayed_45 : decode cX7_isPlayed 45 = .ok (.invokevirtual 64, 3) := by decide +kernel
theorem dX7_isPlayed_48 : decode cX7_isPlayed 48 = .ok (.ifCond .eq 7, 3) := by decide +kernel
theorem dX7_isPlayed_51 : decode cX7_isPlayed 51 = .ok (.iconst 1, 1) := by decide +kernel
theorem dX7_isPlayed_52 : decode cX7_isPlayed 52 = .ok (.goto 4, 3) := by decide +kernel
theorem dX7_isPlayed_55 : decode cX7_isPlayed 55 = .ok (.iconst 0, 1) := by decide +kernel
theorem dX7_isPlayed_56 : decode cX7_isPlayed 56 = .ok (.istore 6, 2) := by decide +kernel
theorem dX7_isPlayed_58 : decode cX7_isPlayed 58 = .ok (.iload 6, 2) := by decide +kernel
theorem dX7_isPlayed_60 : decode cX7_isPlayed 60 = .ok (.ifCond .eq 36, 3) := by decide +kernel
theorem dX7_isPlayed_63 : decode cX7_isPlayed 63 = .ok (.iload 4, 2) := by decide +kernel
theorem dX7_isPlayed_65 : decode cX7_isPlayed 65 = .ok (.ifCond .lt 26, 3) := by decide +kernel
theorem dX7_isPlayed_68 : decode cX7_isPlayed 68 = .ok (.aload_n 0, 1) := by decide +kernel
theorem dX7_isPlayed_69 : decode cX7_isPlayed 69 = .ok (.getfield 9, 3) := by decide +kernel
theorem dX7_isPlayed_72 : decode cX7_isPlayed 72 = .ok (.bipush 69, 2) := by decide +kernel
theorem dX7_isPlayed_74 : decode cX7_isPlayed 74 = .ok (.iload 5, 2) := by decide +kernel
theorem dX7_isPlayed_76 : decode cX7_isPlayed 76 = .ok (.iadd, 1) := by decide +kernel
theorem dX7_isPlayed_77 : decode cX7_isPlayed 77 = .ok (.iaload, 1) := by decide +kernel
theorem dX7_isPlayed_78 : decode cX7_isPlayed 78 = .ok (.aload_n 0, 1) := by decide +kernel
theorem dX7_isPlayed_79 : decode cX7_isPlayed 79 = .ok (.getfield 9, 3) := by decide +kernel
theorem dX7_isPlayed_82 : decode cX7_isPlayed 82 = .ok (.bipush 69, 2) := by decide +kernel
theorem dX7_isPlayed_84 : decode cX7_isPlayed 84 = .ok (.iload 4, 2) := by decide +kernel
theorem dX7_isPlayed_86 : decode cX7_isPlayed 86 = .ok (.iadd, 1) := by decide +kernel
theorem dX7_isPlayed_87 : decode cX7_isPlayed 87 = .ok (.iaload, 1) := by decide +kernel
theorem dX7_isPlayed_88 : decode cX7_isPlayed 88 = .ok (.if_icmp .ge 8, 3) := by decide +kernel
theorem dX7_isPlayed_91 : decode cX7_isPlayed 91 = .ok (.iload 5, 2) := by decide +kernel
theorem dX7_isPlayed_93 : decode cX7_isPlayed 93 = .ok (.goto 5, 3) := by decide +kernel
theorem dX7_isPlayed_96 : decode cX7_isPlayed 96 = .ok (.iload 4, 2) := by decide +kernel
theorem dX7_isPlayed_98 : decode cX7_isPlayed 98 = .ok (.istore 4, 2) := by decide +kernel
theorem dX7_isPlayed_100 : decode cX7_isPlayed 100 = .ok (.iinc 5 1, 3) := by decide +kernel
theorem dX7_isPlayed_103 : decode cX7_isPlayed 103 = .ok (.goto (-97), 3) := by decide +kernel
theorem dX7_isPlayed_106 : decode cX7_isPlayed 106 = .ok (.iload 4, 2) := by decide +kernel
theorem dX7_isPlayed_108 : decode cX7_isPlayed 108 = .ok (.ifCond .ge 6, 3) := by decide +kernel
theorem dX7_isPlayed_111 : decode cX7_isPlayed 111 = .ok (.bipush (-3), 2) := by decide +kernel
theorem dX7_isPlayed_113 : decode cX7_isPlayed 113 = .ok (.ireturn, 1) := by decide +kernel
theorem dX7_isPlayed_114 : decode cX7_isPlayed 114 = .ok (.aload_n 0, 1) := by decide +kernel
theorem dX7_isPlayed_115 : decode cX7_isPlayed 115 = .ok (.getfield 9, 3) := by decide +kernel
theorem dX7_isPlayed_118 : decode cX7_isPlayed 118 = .ok (.bipush 78, 2) := by decide +kernel
theorem dX7_isPlayed_120 : decode cX7_isPlayed 120 = .ok (.iload 4, 2) := by decide +kernel
theorem dX7_isPlayed_122 : decode cX7_isPlayed 122 = .ok (.iadd, 1) := by decide +kernel
theorem dX7_isPlayed_123 : decode cX7_isPlayed 123 = .ok (.iload_n 3, 1) := by decide +kernel
theorem dX7_isPlayed_124 : decode cX7_isPlayed 124 = .ok (.ifCond .eq 7, 3) := by decide +kernel
theorem dX7_isPlayed_127 : decode cX7_isPlayed 127 = .ok (.iconst 0, 1) := by decide +kernel
theorem dX7_isPlayed_128 : decode cX7_isPlayed 128 = .ok (.goto 22, 3) := by decide +kernel
theorem dX7_isPlayed_131 : decode cX7_isPlayed 131 = .ok (.aload_n 0, 1) := by decide +kernel
theorem dX7_isPlayed_132 : decode cX7_isPlayed 132 = .ok (.getfield 9, 3) := by decide +kernel
theorem dX7_isPlayed_135 : decode cX7_isPlayed 135 = .ok (.bipush 51, 2) := by decide +kernel
theorem dX7_isPlayed_137 : decode cX7_isPlayed 137 = .ok (.iload 4, 2) := by decide +kernel
theorem dX7_isPlayed_139 : decode cX7_isPlayed 139 = .ok (.iadd, 1) := by decide +kernel
theorem dX7_isPlayed_140 : decode cX7_isPlayed 140 = .ok (.iaload, 1) := by decide +kernel
theorem dX7_isPlayed_141 : decode cX7_isPlayed 141 = .ok (.iload_n 1, 1) := by decide +kernel
theorem dX7_isPlayed_142 : decode cX7_isPlayed 142 = .ok (.if_icmp .ne 7, 3) := by decide +kernel
theorem dX7_isPlayed_145 : decode cX7_isPlayed 145 = .ok (.iconst 1, 1) := by decide +kernel
theorem dX7_isPlayed_146 : decode cX7_isPlayed 146 = .ok (.goto 4, 3) := by decide +kernel
theorem dX7_isPlayed_149 : decode cX7_isPlayed 149 = .ok (.iconst 2, 1) := by decide +kernel
theorem dX7_isPlayed_150 : decode cX7_isPlayed 150 = .ok (.iastore, 1) := by decide +kernel
theorem dX7_isPlayed_151 : decode cX7_isPlayed 151 = .ok (.iload 4, 2) := by decide +kernel
theorem dX7_isPlayed_153 : decode cX7_isPlayed 153 = .ok (.ireturn, 1) := by decide +kernel
def f_X7_isPlayed_91 (k6 : Nat × Int32 × Int32 × Int32 × Int32 × Int32 → Hp → Option (Int32 × Hp)) (l0 : Nat) (l1 : Int32) (l2 : Int32) (l3 : Int32) (l5 : Int32) (h0 : Hp) : Option (Int32 × Hp) :=
  (some (l5 + 1)).bind fun x1 => k6 (l0, l1, l2, l3, l5, x1) h0
set_option maxRecDepth 100000 in
set_option maxHeartbeats 4000000 in
theorem c_X7_isPlayed_91 {X : Cx} {adr : Nat → Nat} {q : Int32 × Hp} (hr : (mth X).sig.returnType = (some .int)) {k6 : Nat × Int32 × Int32 × Int32 × Int32 × Int32 → Hp → Option (Int32 × Hp)} (hk6 : ∀ v h, k6 v h = some q → AW X cX7_isPlayed 7 RX7 (rmd 2 0 0) (Qmet X 0 0 (Qe (some (.int q.1)) q.2 adr)) 0 0 adr h 6 [(0, .ref v.1), (1, .int v.2.1), (2, .int v.2.2.1), (3, .int v.2.2.2.1), (4, .int v.2.2.2.2.1), (5, .int v.2.2.2.2.2)] []) {l0 : Nat} {l1 : Int32} {l2 : Int32} {l3 : Int32} {l5 : Int32} {h0 : Hp} (hf : f_X7_isPlayed_91 k6 l0 l1 l2 l3 l5 h0 = some q) : AW X cX7_isPlayed 7 RX7 (rmd 2 0 0) (Qmet X 0 0 (Qe (some (.int q.1)) q.2 adr)) 0 0 adr h0 91 [(0, .ref l0), (1, .int l1), (2, .int l2), (3, .int l3), (5, .int l5)] [] := by
  unfold f_X7_isPlayed_91 at hf
  refine aw_iload 4 dX7_isPlayed_91 rfl ?_
  refine aw_goto (tgt := 98) dX7_isPlayed_93 (by decide) ?_
  refine aw_istore (L' := [(4, .int l5), (0, .ref l0), (1, .int l1), (2, .int l2), (3, .int l3), (5, .int l5)]) dX7_isPlayed_98 (by decide) rfl ?_
  obtain ⟨x1, ex1, hf⟩ := b_some hf
  refine aw_iinc (v := x1) (L' := [(5, .int x1), (4, .int l5), (0, .ref l0), (1, .int l1), (2, .int l2), (3, .int l3)]) 5 dX7_isPlayed_100 rfl (Option.some.inj ex1) (by decide) rfl ?_
  refine aw_goto (tgt := 6) dX7_isPlayed_103 (by decide) ?_
  exact aw_sub [2, 3, 4, 5, 1, 0] rfl (hk6 _ _ hf)
def f_X7_isPlayed_56 (k6 : Nat × Int32 × Int32 × Int32 × Int32 × Int32 → Hp → Option (Int32 × Hp)) (l0 : Nat) (l1 : Int32) (l2 : Int32) (l3 : Int32) (l4 : Int32) (l5 : Int32) (s0 : Int32) (h0 : Hp) : Option (Int32 × Hp) :=
  if s0 = 0 then ((some (l5 + 1)).bind fun x2 => k6 (l0, l1, l2, l3, l4, x2) h0) else (if l4 < 0 then (f_X7_isPlayed_91 k6 l0 l1 l2 l3 l5 h0) else ((gR h0 l0 7 0).bind fun r4 => (aL h0 r4 ((69 : Int32) + l5)).bind fun x5 => (gR h0 l0 7 0).bind fun r6 => (aL h0 r6 ((69 : Int32) + l4)).bind fun x7 => if x7 ≤ x5 then ((some (l5 + 1)).bind fun x9 => k6 (l0, l1, l2, l3, l4, x9) h0) else (f_X7_isPlayed_91 k6 l0 l1 l2 l3 l5 h0)))
set_option maxRecDepth 100000 in
set_option maxHeartbeats 4000000 in
theorem c_X7_isPlayed_56 {X : Cx} {adr : Nat → Nat} {q : Int32 × Hp} (hr : (mth X).sig.returnType = (some .int)) {k6 : Nat × Int32 × Int32 × Int32 × Int32 × Int32 → Hp → Option (Int32 × Hp)} (hk6 : ∀ v h, k6 v h = some q → AW X cX7_isPlayed 7 RX7 (rmd 2 0 0) (Qmet X 0 0 (Qe (some (.int q.1)) q.2 adr)) 0 0 adr h 6 [(0, .ref v.1), (1, .int v.2.1), (2, .int v.2.2.1), (3, .int v.2.2.2.1), (4, .int v.2.2.2.2.1), (5, .int v.2.2.2.2.2)] []) {l0 : Nat} {l1 : Int32} {l2 : Int32} {l3 : Int32} {l4 : Int32} {l5 : Int32} {s0 : Int32} {h0 : Hp} (hf : f_X7_isPlayed_56 k6 l0 l1 l2 l3 l4 l5 s0 h0 = some q) : AW X cX7_isPlayed 7 RX7 (rmd 2 0 0) (Qmet X 0 0 (Qe (some (.int q.1)) q.2 adr)) 0 0 adr h0 56 [(0, .ref l0), (1, .int l1), (2, .int l2), (3, .int l3), (4, .int l4), (5, .int l5)] [.int s0] := by
  unfold f_X7_isPlayed_56 at hf
  refine aw_istore (L' := [(6, .int s0), (0, .ref l0), (1, .int l1), (2, .int l2), (3, .int l3), (4, .int l4), (5, .int l5)]) dX7_isPlayed_56 (by decide) rfl ?_
  refine aw_iload 0 dX7_isPlayed_58 rfl ?_
  refine aw_if_eq (tgt := 96) dX7_isPlayed_60 (by decide) (fun c1 => ?_) (fun c1 => ?_)
  · have hf := i_pos c1 hf
    refine aw_iload 5 dX7_isPlayed_96 rfl ?_
    refine aw_istore (L' := [(4, .int l4), (6, .int s0), (0, .ref l0), (1, .int l1), (2, .int l2), (3, .int l3), (5, .int l5)]) dX7_isPlayed_98 (by decide) rfl ?_
    obtain ⟨x2, ex2, hf⟩ := b_some hf
    refine aw_iinc (v := x2) (L' := [(5, .int x2), (4, .int l4), (6, .int s0), (0, .ref l0), (1, .int l1), (2, .int l2), (3, .int l3)]) 6 dX7_isPlayed_100 rfl (Option.some.inj ex2) (by decide) rfl ?_
    refine aw_goto (tgt := 6) dX7_isPlayed_103 (by decide) ?_
    exact aw_sub [3, 4, 5, 6, 1, 0] rfl (hk6 _ _ hf)
  · have hf := i_neg c1 hf
    refine aw_iload 5 dX7_isPlayed_63 rfl ?_
    refine aw_if_lt (tgt := 91) dX7_isPlayed_65 (by decide) (fun c3 => ?_) (fun c3 => ?_)
    · have hf := i_pos c3 hf
      exact aw_sub [1, 2, 3, 4, 6] rfl (c_X7_isPlayed_91 hr hk6 hf)
    · have hf := i_neg c3 hf
      refine aw_aload_n 1 dX7_isPlayed_68 rfl rfl ?_
      obtain ⟨r4, er4, hf⟩ := b_some hf
      refine aw_getR dX7_isPlayed_69 gfX7_9 er4 ?_
      refine aw_bipush (v := 69) dX7_isPlayed_72 (by decide) ?_
      refine aw_iload 6 dX7_isPlayed_74 rfl ?_
      refine aw_iadd dX7_isPlayed_76 ?_
      obtain ⟨x5, ex5, hf⟩ := b_some hf
      refine aw_iald dX7_isPlayed_77 ex5 ?_
      refine aw_aload_n 1 dX7_isPlayed_78 rfl rfl ?_
      obtain ⟨r6, er6, hf⟩ := b_some hf
      refine aw_getR dX7_isPlayed_79 gfX7_9 er6 ?_
      refine aw_bipush (v := 69) dX7_isPlayed_82 (by decide) ?_
      refine aw_iload 5 dX7_isPlayed_84 rfl ?_
      refine aw_iadd dX7_isPlayed_86 ?_
      obtain ⟨x7, ex7, hf⟩ := b_some hf
      refine aw_iald dX7_isPlayed_87 ex7 ?_
      refine aw_icmp_ge (tgt := 96) dX7_isPlayed_88 (by decide) (fun c8 => ?_) (fun c8 => ?_)
      · have hf := i_pos c8 hf
        refine aw_iload 5 dX7_isPlayed_96 rfl ?_
        refine aw_istore (L' := [(4, .int l4), (6, .int s0), (0, .ref l0), (1, .int l1), (2, .int l2), (3, .int l3), (5, .int l5)]) dX7_isPlayed_98 (by decide) rfl ?_
        obtain ⟨x9, ex9, hf⟩ := b_some hf
        refine aw_iinc (v := x9) (L' := [(5, .int x9), (4, .int l4), (6, .int s0), (0, .ref l0), (1, .int l1), (2, .int l2), (3, .int l3)]) 6 dX7_isPlayed_100 rfl (Option.some.inj ex9) (by decide) rfl ?_
        refine aw_goto (tgt := 6) dX7_isPlayed_103 (by decide) ?_
        exact aw_sub [3, 4, 5, 6, 1, 0] rfl (hk6 _ _ hf)
      · have hf := i_neg c8 hf
        exact aw_sub [1, 2, 3, 4, 6] rfl (c_X7_isPlayed_91 hr hk6 hf)
def f_X7_isPlayed_55 (k6 : Nat × Int32 × Int32 × Int32 × Int32 × Int32 → Hp → Option (Int32 × Hp)) (l0 : Nat) (l1 : Int32) (l2 : Int32) (l3 : Int32) (l4 : Int32) (l5 : Int32) (h0 : Hp) : Option (Int32 × Hp) :=
  f_X7_isPlayed_56 k6 l0 l1 l2 l3 l4 l5 (0 : Int32) h0
set_option maxRecDepth 100000 in
set_option maxHeartbeats 4000000 in
theorem c_X7_isPlayed_55 {X : Cx} {adr : Nat → Nat} {q : Int32 × Hp} (hr : (mth X).sig.returnType = (some .int)) {k6 : Nat × Int32 × Int32 × Int32 × Int32 × Int32 → Hp → Option (Int32 × Hp)} (hk6 : ∀ v h, k6 v h = some q → AW X cX7_isPlayed 7 RX7 (rmd 2 0 0) (Qmet X 0 0 (Qe (some (.int q.1)) q.2 adr)) 0 0 adr h 6 [(0, .ref v.1), (1, .int v.2.1), (2, .int v.2.2.1), (3, .int v.2.2.2.1), (4, .int v.2.2.2.2.1), (5, .int v.2.2.2.2.2)] []) {l0 : Nat} {l1 : Int32} {l2 : Int32} {l3 : Int32} {l4 : Int32} {l5 : Int32} {h0 : Hp} (hf : f_X7_isPlayed_55 k6 l0 l1 l2 l3 l4 l5 h0 = some q) : AW X cX7_isPlayed 7 RX7 (rmd 2 0 0) (Qmet X 0 0 (Qe (some (.int q.1)) q.2 adr)) 0 0 adr h0 55 [(0, .ref l0), (1, .int l1), (2, .int l2), (3, .int l3), (4, .int l4), (5, .int l5)] [] := by
  unfold f_X7_isPlayed_55 at hf
  refine aw_iconst (v := 0) dX7_isPlayed_55 (by decide) ?_
  exact aw_sub [0, 1, 2, 3, 4, 5] rfl (c_X7_isPlayed_56 hr hk6 hf)
def f_X7_isPlayed_150 (l4 : Int32) (s0 : Int32) (s1 : Int32) (s2 : Nat) (h0 : Hp) : Option (Int32 × Hp) :=
  (aS h0 s2 s1 s0).bind fun h1 => some (l4, h1)
set_option maxRecDepth 100000 in
set_option maxHeartbeats 4000000 in
theorem c_X7_isPlayed_150 {X : Cx} {adr : Nat → Nat} {q : Int32 × Hp} (hr : (mth X).sig.returnType = (some .int)) {l4 : Int32} {s0 : Int32} {s1 : Int32} {s2 : Nat} {h0 : Hp} (hf : f_X7_isPlayed_150 l4 s0 s1 s2 h0 = some q) : AW X cX7_isPlayed 7 RX7 (rmd 2 0 0) (Qmet X 0 0 (Qe (some (.int q.1)) q.2 adr)) 0 0 adr h0 150 [(4, .int l4)] [.int s0, .int s1, .ref s2] := by
  unfold f_X7_isPlayed_150 at hf
  obtain ⟨h1, eh1, hf⟩ := b_some hf
  refine aw_iast dX7_isPlayed_150 eh1 ?_
  refine aw_iload 0 dX7_isPlayed_151 rfl ?_
  have hq := Option.some.inj hf
  subst hq
  exact aw_iret hr dX7_isPlayed_153 ⟨rfl, rfl, rfl⟩
def f_X7_isPlayed_6 (k6 : Nat × Int32 × Int32 × Int32 × Int32 × Int32 → Hp → Option (Int32 × Hp)) (v : Nat × Int32 × Int32 × Int32 × Int32 × Int32) (h0 : Hp) : Option (Int32 × Hp) :=
  match v with
  | (l0, l1, l2, l3, l4, l5) => (gR h0 l0 7 0).bind fun r1 => (aL h0 r1 (1 : Int32)).bind fun x2 => if x2 ≤ l5 then (if 0 ≤ l4 then ((gR h0 l0 7 0).bind fun r5 => if l3 = 0 then ((gR h0 l0 7 0).bind fun r7 => (aL h0 r7 ((51 : Int32) + l4)).bind fun x8 => if x8 = l1 then (f_X7_isPlayed_150 l4 (1 : Int32) ((78 : Int32) + l4) r5 h0) else (f_X7_isPlayed_150 l4 (2 : Int32) ((78 : Int32) + l4) r5 h0)) else (f_X7_isPlayed_150 l4 (0 : Int32) ((78 : Int32) + l4) r5 h0)) else (some ((-3 : Int32), h0))) else ((gR h0 l0 7 0).bind fun r10 => (aL h0 r10 ((78 : Int32) + l5)).bind fun x11 => if x11 = (-1 : Int32) then ((f_X7_isOf l0 l5 l1 h0).bind fun q13 => if q13.1 = 0 then (f_X7_isPlayed_55 k6 l0 l1 l2 l3 l4 l5 q13.2) else ((f_X7_isOf l0 l5 l2 q13.2).bind fun q15 => if q15.1 = 0 then (f_X7_isPlayed_55 k6 l0 l1 l2 l3 l4 l5 q15.2) else (f_X7_isPlayed_56 k6 l0 l1 l2 l3 l4 l5 (1 : Int32) q15.2))) else (f_X7_isPlayed_55 k6 l0 l1 l2 l3 l4 l5 h0))
set_option maxRecDepth 100000 in
set_option maxHeartbeats 4000000 in
theorem c_X7_isPlayed_6 {X : Cx} {adr : Nat → Nat} {q : Int32 × Hp} (hr : (mth X).sig.returnType = (some .int)) (n : Nat) : ∀ v h0, lp (f_X7_isPlayed_6) n v h0 = some q → AW X cX7_isPlayed 7 RX7 (rmd 2 0 0) (Qmet X 0 0 (Qe (some (.int q.1)) q.2 adr)) 0 0 adr h0 6 [(0, .ref v.1), (1, .int v.2.1), (2, .int v.2.2.1), (3, .int v.2.2.2.1), (4, .int v.2.2.2.2.1), (5, .int v.2.2.2.2.2)] [] := by
  refine aw_lp (fun k6 hk6 v h0 hf => ?_) n
  obtain ⟨l0, l1, l2, l3, l4, l5⟩ := v
  unfold f_X7_isPlayed_6 at hf
  dsimp only at hf
  show AW X cX7_isPlayed 7 RX7 (rmd 2 0 0) (Qmet X 0 0 (Qe (some (.int q.1)) q.2 adr)) 0 0 adr h0 6 [(0, .ref l0), (1, .int l1), (2, .int l2), (3, .int l3), (4, .int l4), (5, .int l5)] []
  refine aw_iload 5 dX7_isPlayed_6 rfl ?_
  refine aw_aload_n 0 dX7_isPlayed_8 rfl rfl ?_
  obtain ⟨r1, er1, hf⟩ := b_some hf
  refine aw_getR dX7_isPlayed_9 gfX7_9 er1 ?_
  refine aw_iconst (v := 1) dX7_isPlayed_12 (by decide) ?_
  obtain ⟨x2, ex2, hf⟩ := b_some hf
  refine aw_iald dX7_isPlayed_13 ex2 ?_
  refine aw_icmp_ge (tgt := 106) dX7_isPlayed_14 (by decide) (fun c3 => ?_) (fun c3 => ?_)
  · have hf := i_pos c3 hf
    refine aw_iload 4 dX7_isPlayed_106 rfl ?_
    refine aw_if_ge (tgt := 114) dX7_isPlayed_108 (by decide) (fun c4 => ?_) (fun c4 => ?_)
    · have hf := i_pos c4 hf
      refine aw_aload_n 0 dX7_isPlayed_114 rfl rfl ?_
      obtain ⟨r5, er5, hf⟩ := b_some hf
      refine aw_getR dX7_isPlayed_115 gfX7_9 er5 ?_
      refine aw_bipush (v := 78) dX7_isPlayed_118 (by decide) ?_
      refine aw_iload 4 dX7_isPlayed_120 rfl ?_
      refine aw_iadd dX7_isPlayed_122 ?_
      refine aw_iload_n 3 dX7_isPlayed_123 rfl rfl ?_
      refine aw_if_eq (tgt := 131) dX7_isPlayed_124 (by decide) (fun c6 => ?_) (fun c6 => ?_)
      · have hf := i_pos c6 hf
        refine aw_aload_n 0 dX7_isPlayed_131 rfl rfl ?_
        obtain ⟨r7, er7, hf⟩ := b_some hf
        refine aw_getR dX7_isPlayed_132 gfX7_9 er7 ?_
        refine aw_bipush (v := 51) dX7_isPlayed_135 (by decide) ?_
        refine aw_iload 4 dX7_isPlayed_137 rfl ?_
        refine aw_iadd dX7_isPlayed_139 ?_
        obtain ⟨x8, ex8, hf⟩ := b_some hf
        refine aw_iald dX7_isPlayed_140 ex8 ?_
        refine aw_iload_n 1 dX7_isPlayed_141 rfl rfl ?_
        refine aw_icmp_ne (tgt := 149) dX7_isPlayed_142 (by decide) (fun c9 => ?_) (fun c9 => ?_)
        · have hf := i_neg c9 hf
          refine aw_iconst (v := 2) dX7_isPlayed_149 (by decide) ?_
          exact aw_sub [4] rfl (c_X7_isPlayed_150 hr hf)
        · have hf := i_pos c9 hf
          refine aw_iconst (v := 1) dX7_isPlayed_145 (by decide) ?_
          refine aw_goto (tgt := 150) dX7_isPlayed_146 (by decide) ?_
          exact aw_sub [4] rfl (c_X7_isPlayed_150 hr hf)
      · have hf := i_neg c6 hf
        refine aw_iconst (v := 0) dX7_isPlayed_127 (by decide) ?_
        refine aw_goto (tgt := 150) dX7_isPlayed_128 (by decide) ?_
        exact aw_sub [4] rfl (c_X7_isPlayed_150 hr hf)
    · have hf := i_neg c4 hf
      refine aw_bipush (v := -3) dX7_isPlayed_111 (by decide) ?_
      have hq := Option.some.inj hf
      subst hq
      exact aw_iret hr dX7_isPlayed_113 ⟨rfl, rfl, rfl⟩
  · have hf := i_neg c3 hf
    refine aw_aload_n 0 dX7_isPlayed_17 rfl rfl ?_
    obtain ⟨r10, er10, hf⟩ := b_some hf
    refine aw_getR dX7_isPlayed_18 gfX7_9 er10 ?_
    refine aw_bipush (v := 78) dX7_isPlayed_21 (by decide) ?_
    refine aw_iload 5 dX7_isPlayed_23 rfl ?_
    refine aw_iadd dX7_isPlayed_25 ?_
    obtain ⟨x11, ex11, hf⟩ := b_some hf
    refine aw_iald dX7_isPlayed_26 ex11 ?_
    refine aw_iconst (v := -1) dX7_isPlayed_27 (by decide) ?_
    refine aw_icmp_ne (tgt := 55) dX7_isPlayed_28 (by decide) (fun c12 => ?_) (fun c12 => ?_)
    · have hf := i_neg c12 hf
      exact aw_sub [0, 1, 2, 3, 4, 5] rfl (c_X7_isPlayed_55 hr hk6 hf)
    · have hf := i_pos c12 hf
      refine aw_aload_n 0 dX7_isPlayed_31 rfl rfl ?_
      refine aw_iload 5 dX7_isPlayed_32 rfl ?_
      refine aw_iload_n 1 dX7_isPlayed_34 rfl rfl ?_
      obtain ⟨q13, eq13, hf⟩ := b_some hf
      refine aw_cV (as := [.int l5, .int l1]) dX7_isPlayed_35 moX7_isOf voX7_isOf mlX7_64 (k_X7_isOf eq13) rfl (rm_ok (by omega) (by decide)) ⟨Nat.le_refl _, Nat.le_refl _⟩ (Nat.le_of_ble_eq_true rfl) rfl (c_X7_isOf eq13) ?_
      refine aw_if_eq (tgt := 55) dX7_isPlayed_38 (by decide) (fun c14 => ?_) (fun c14 => ?_)
      · have hf := i_pos c14 hf
        exact aw_sub [0, 1, 2, 3, 4, 5] rfl (c_X7_isPlayed_55 hr hk6 hf)
      · have hf := i_neg c14 hf
        refine aw_aload_n 0 dX7_isPlayed_41 rfl rfl ?_
        refine aw_iload 5 dX7_isPlayed_42 rfl ?_
        refine aw_iload_n 2 dX7_isPlayed_44 rfl rfl ?_
        obtain ⟨q15, eq15, hf⟩ := b_some hf
        refine aw_cV (as := [.int l5, .int l2]) dX7_isPlayed_45 moX7_isOf voX7_isOf mlX7_64 (k_X7_isOf eq15) rfl (rm_ok (by omega) (by decide)) ⟨Nat.le_refl _, Nat.le_refl _⟩ (Nat.le_of_ble_eq_true rfl) rfl (c_X7_isOf eq15) ?_
        refine aw_if_eq (tgt := 55) dX7_isPlayed_48 (by decide) (fun c16 => ?_) (fun c16 => ?_)
        · have hf := i_pos c16 hf
          exact aw_sub [0, 1, 2, 3, 4, 5] rfl (c_X7_isPlayed_55 hr hk6 hf)
        · have hf := i_neg c16 hf
          refine aw_iconst (v := 1) dX7_isPlayed_51 (by decide) ?_
          refine aw_goto (tgt := 56) dX7_isPlayed_52 (by decide) ?_
          exact aw_sub [0, 1, 2, 3, 4, 5] rfl (c_X7_isPlayed_56 hr hk6 hf)
def f_X7_isPlayed (l0 : Nat) (l1 : Int32) (l2 : Int32) (l3 : Int32) (h0 : Hp) : Option (Int32 × Hp) :=
  (ck h0 l0 7).bind fun _ => lp (f_X7_isPlayed_6) 600 (l0, l1, l2, l3, (-1 : Int32), (0 : Int32)) h0
set_option maxRecDepth 100000 in
set_option maxHeartbeats 4000000 in
theorem c_X7_isPlayed {l0 : Nat} {l1 : Int32} {l2 : Int32} {l3 : Int32} {h0 : Hp} {q : Int32 × Hp} (hf : f_X7_isPlayed l0 l1 l2 l3 h0 = some q) : Mt 2 yX7_isPlayed cX7_isPlayed 7 (some .int) [.ref l0, .int l1, .int l2, .int l3] h0 (some (.int q.1)) q.2 := by
  refine MtQ.of (by decide) (Nat.le_of_ble_eq_true rfl) (fun X adr hr hn => ?_)
  unfold f_X7_isPlayed at hf
  show AW X cX7_isPlayed 7 RX7 (rmd 2 0 0) (Qmet X 0 0 (Qe (some (.int q.1)) q.2 adr)) 0 0 adr h0 0 [(0, .ref l0), (1, .int l1), (2, .int l2), (3, .int l3)] []
  obtain ⟨u0, e0, hf⟩ := b_some hf
  refine aw_iconst (v := -1) dX7_isPlayed_0 (by decide) ?_
  refine aw_istore (L' := [(4, .int (-1 : Int32)), (0, .ref l0), (1, .int l1), (2, .int l2), (3, .int l3)]) dX7_isPlayed_1 (by decide) rfl ?_
  refine aw_iconst (v := 0) dX7_isPlayed_3 (by decide) ?_
  refine aw_istore (L' := [(5, .int (0 : Int32)), (4, .int (-1 : Int32)), (0, .ref l0), (1, .int l1), (2, .int l2), (3, .int l3)]) dX7_isPlayed_4 (by decide) rfl ?_
  exact aw_sub [2, 3, 4, 5, 1, 0] rfl (c_X7_isPlayed_6 hr 600 _ _ hf)
theorem k_X7_isPlayed {l0 : Nat} {l1 : Int32} {l2 : Int32} {l3 : Int32} {h0 : Hp} {q : Int32 × Hp} (hf : f_X7_isPlayed l0 l1 l2 l3 h0 = some q) : ck h0 l0 7 = some () := by
  unfold f_X7_isPlayed at hf
  obtain ⟨u0, e0, hf⟩ := b_some hf
  exact e0
theorem dX7_number_0 : decode cX7_number 0 = .ok (.aload_n 0, 1) := by decide +kernel
theorem dX7_number_1 : decode cX7_number 1 = .ok (.getfield 149, 3) := by decide +kernel
theorem dX7_number_4 : decode cX7_number 4 = .ok (.aload_n 0, 1) := by decide +kernel
theorem dX7_number_5 : decode cX7_number 5 = .ok (.getfield 146, 3) := by decide +kernel
theorem dX7_number_8 : decode cX7_number 8 = .ok (.if_icmp .eq 23, 3) := by decide +kernel
theorem dX7_number_11 : decode cX7_number 11 = .ok (.aload_n 0, 1) := by decide +kernel
theorem dX7_number_12 : decode cX7_number 12 = .ok (.invokevirtual 158, 3) := by decide +kernel
theorem dX7_number_15 : decode cX7_number 15 = .ok (.ifCond .ne 16, 3) := by decide +kernel
theorem dX7_number_18 : decode cX7_number 18 = .ok (.aload_n 0, 1) := by decide +kernel
theorem dX7_number_19 : decode cX7_number 19 = .ok (.getfield 149, 3) := by decide +kernel
theorem dX7_number_22 : decode cX7_number 22 = .ok (.aload_n 0, 1) := by decide +kernel
theorem dX7_number_23 : decode cX7_number 23 = .ok (.getfield 146, 3) := by decide +kernel
theorem dX7_number_26 : decode cX7_number 26 = .ok (.isub, 1) := by decide +kernel
theorem dX7_number_27 : decode cX7_number 27 = .ok (.iconst 2, 1) := by decide +kernel
theorem dX7_number_28 : decode cX7_number 28 = .ok (.if_icmp .le 5, 3) := by decide +kernel
theorem dX7_number_31 : decode cX7_number 31 = .ok (.iconst (-1), 1) := by decide +kernel
theorem dX7_number_32 : decode cX7_number 32 = .ok (.ireturn, 1) := by decide +kernel
theorem dX7_number_33 : decode cX7_number 33 = .ok (.iconst 0, 1) := by decide +kernel
theorem dX7_number_34 : decode cX7_number 34 = .ok (.istore_n 3, 1) := by decide +kernel
theorem dX7_number_35 : decode cX7_number 35 = .ok (.aload_n 0, 1) := by decide +kernel
theorem dX7_number_36 : decode cX7_number 36 = .ok (.getfield 146, 3) := by decide +kernel
theorem dX7_number_39 : decode cX7_number 39 = .ok (.istore 4, 2) := by decide +kernel
theorem dX7_number_41 : decode cX7_number 41 = .ok (.iload 4, 2) := by decide +kernel
theorem dX7_number_43 : decode cX7_number 43 = .ok (.aload_n 0, 1) := by decide +kernel
theorem dX7_number_44 : decode cX7_number 44 = .ok (.getfield 149, 3) := by decide +kernel
theorem dX7_number_47 : decode cX7_number 47 = .ok (.if_icmp .ge 25, 3) := by decide +kernel
theorem dX7_number_50 : decode cX7_number 50 = .ok (.bipush 10, 2) := by decide +kernel
theorem dX7_number_52 : decode cX7_number 52 = .ok (.iload_n 3, 1) := by decide +kernel
theorem dX7_number_53 : decode cX7_number 53 = .ok (.imul, 1) := by decide +kernel
theorem dX7_number_54 : decode cX7_number 54 = .ok (.aload_n 0, 1) := by decide +kernel
theorem dX7_number_55 : decode cX7_number 55 = .ok (.getfield 25, 3) := by decide +kernel
theorem dX7_number_58 : decode cX7_number 58 = .ok (.iload 4, 2) := by decide +kernel
theorem dX7_number_60 : decode cX7_number 60 = .ok (.iaload, 1) := by decide +kernel
theorem dX7_number_61 : decode cX7_number 61 = .ok (.iadd, 1) := by decide +kernel
theorem dX7_number_62 : decode cX7_number 62 = .ok (.bipush 48, 2) := by decide +kernel
theorem dX7_number_64 : decode cX7_number 64 = .ok (.isub, 1) := by decide +kernel
theorem dX7_number_65 : decode cX7_number 65 = .ok (.istore_n 3, 1) := by decide +kernel
theorem dX7_number_66 : decode cX7_number 66 = .ok (.iinc 4 1, 3) := by decide +kernel
theorem dX7_number_69 : decode cX7_number 69 = .ok (.goto (-28), 3) := by decide +kernel
theorem dX7_number_72 : decode cX7_number 72 = .ok (.iload_n 3, 1) := by decide +kernel
theorem dX7_number_73 : decode cX7_number 73 = .ok (.i2l, 1) := by decide +kernel
theorem dX7_number_74 : decode cX7_number 74 = .ok (.iload_n 1, 1) := by decide +kernel
theorem dX7_number_75 : decode cX7_number 75 = .ok (.i2l, 1) := by decide +kernel
theorem dX7_number_76 : decode cX7_number 76 = .ok (.iload_n 2, 1) := by decide +kernel
theorem dX7_number_77 : decode cX7_number 77 = .ok (.i2l, 1) := by decide +kernel
theorem dX7_number_78 : decode cX7_number 78 = .ok (.invokestatic 43, 3) := by decide +kernel
theorem dX7_number_81 : decode cX7_number 81 = .ok (.ifCond .eq 7, 3) := by decide +kernel
theorem dX7_number_84 : decode cX7_number 84 = .ok (.iload_n 3, 1) := by decide +kernel
theorem dX7_number_85 : decode cX7_number 85 = .ok (.goto 4, 3) := by decide +kernel
theorem dX7_number_88 : decode cX7_number 88 = .ok (.iconst (-1), 1) := by decide +kernel
theorem dX7_number_89 : decode cX7_number 89 = .ok (.ireturn, 1) := by decide +kernel
def f_X7_number_41 (k41 : Nat × Int32 × Int32 × Int32 × Int32 → Hp → Option (Int32 × Hp)) (v : Nat × Int32 × Int32 × Int32 × Int32) (h0 : Hp) : Option (Int32 × Hp) :=
  match v with
  | (l0, l1, l2, l3, l4) => (gI h0 l0 7 14).bind fun x1 => if x1 ≤ l4 then ((f_X7_in (Int32.toInt64 l3) (Int32.toInt64 l1) (Int32.toInt64 l2) h0).bind fun q3 => if q3.1 = 0 then (some ((-1 : Int32), q3.2)) else (some (l3, q3.2))) else ((gR h0 l0 7 10).bind fun r5 => (aL h0 r5 l4).bind fun x6 => (some ((((10 : Int32) * l3) + x6) - (48 : Int32))).bind fun x7 => (some (l4 + 1)).bind fun x8 => k41 (l0, l1, l2, x7, x8) h0)
set_option maxRecDepth 100000 in
set_option maxHeartbeats 4000000 in
theorem c_X7_number_41 {X : Cx} {adr : Nat → Nat} {q : Int32 × Hp} (hr : (mth X).sig.returnType = (some .int)) (n : Nat) : ∀ v h0, lp (f_X7_number_41) n v h0 = some q → AW X cX7_number 5 RX7 (rmd 4 0 0) (Qmet X 0 0 (Qe (some (.int q.1)) q.2 adr)) 0 0 adr h0 41 [(0, .ref v.1), (1, .int v.2.1), (2, .int v.2.2.1), (3, .int v.2.2.2.1), (4, .int v.2.2.2.2)] [] := by
  refine aw_lp (fun k41 hk41 v h0 hf => ?_) n
  obtain ⟨l0, l1, l2, l3, l4⟩ := v
  unfold f_X7_number_41 at hf
  dsimp only at hf
  show AW X cX7_number 5 RX7 (rmd 4 0 0) (Qmet X 0 0 (Qe (some (.int q.1)) q.2 adr)) 0 0 adr h0 41 [(0, .ref l0), (1, .int l1), (2, .int l2), (3, .int l3), (4, .int l4)] []
  refine aw_iload 4 dX7_number_41 rfl ?_
  refine aw_aload_n 0 dX7_number_43 rfl rfl ?_
  obtain ⟨x1, ex1, hf⟩ := b_some hf
  refine aw_getI dX7_number_44 gfX7_149 ex1 ?_
  refine aw_icmp_ge (tgt := 72) dX7_number_47 (by decide) (fun c2 => ?_) (fun c2 => ?_)
  · have hf := i_pos c2 hf
    refine aw_iload_n 3 dX7_number_72 rfl rfl ?_
    refine aw_i2l dX7_number_73 ?_
    refine aw_iload_n 1 dX7_number_74 rfl rfl ?_
    refine aw_i2l dX7_number_75 ?_
    refine aw_iload_n 2 dX7_number_76 rfl rfl ?_
    refine aw_i2l dX7_number_77 ?_
    obtain ⟨q3, eq3, hf⟩ := b_some hf
    refine aw_cS (as := [.long (Int32.toInt64 l3), .long (Int32.toInt64 l1), .long (Int32.toInt64 l2)]) dX7_number_78 moX7_in soX7_in mlX7_43 (rm_ok (by omega) (by decide)) ⟨Nat.le_refl _, Nat.le_refl _⟩ (Nat.le_of_ble_eq_true rfl) rfl (c_X7_in eq3) ?_
    refine aw_if_eq (tgt := 88) dX7_number_81 (by decide) (fun c4 => ?_) (fun c4 => ?_)
    · have hf := i_pos c4 hf
      refine aw_iconst (v := -1) dX7_number_88 (by decide) ?_
      have hq := Option.some.inj hf
      subst hq
      exact aw_iret hr dX7_number_89 ⟨rfl, rfl, rfl⟩
    · have hf := i_neg c4 hf
      refine aw_iload_n 3 dX7_number_84 rfl rfl ?_
      refine aw_goto (tgt := 89) dX7_number_85 (by decide) ?_
      have hq := Option.some.inj hf
      subst hq
      exact aw_iret hr dX7_number_89 ⟨rfl, rfl, rfl⟩
  · have hf := i_neg c2 hf
    refine aw_bipush (v := 10) dX7_number_50 (by decide) ?_
    refine aw_iload_n 3 dX7_number_52 rfl rfl ?_
    refine aw_imul dX7_number_53 ?_
    refine aw_aload_n 0 dX7_number_54 rfl rfl ?_
    obtain ⟨r5, er5, hf⟩ := b_some hf
    refine aw_getR dX7_number_55 gfX7_25 er5 ?_
    refine aw_iload 4 dX7_number_58 rfl ?_
    obtain ⟨x6, ex6, hf⟩ := b_some hf
    refine aw_iald dX7_number_60 ex6 ?_
    refine aw_iadd dX7_number_61 ?_
    refine aw_bipush (v := 48) dX7_number_62 (by decide) ?_
    refine aw_isub dX7_number_64 ?_
    obtain ⟨x7, ex7, hf⟩ := b_some hf
    refine aw_nm ex7 ?_
    refine aw_istore_n (L' := [(3, .int x7), (0, .ref l0), (1, .int l1), (2, .int l2), (4, .int l4)]) dX7_number_65 rfl (by decide) rfl ?_
    obtain ⟨x8, ex8, hf⟩ := b_some hf
    refine aw_iinc (v := x8) (L' := [(4, .int x8), (3, .int x7), (0, .ref l0), (1, .int l1), (2, .int l2)]) 4 dX7_number_66 rfl (Option.some.inj ex8) (by decide) rfl ?_
    refine aw_goto (tgt := 41) dX7_number_69 (by decide) ?_
    exact aw_sub [2, 3, 4, 1, 0] rfl (hk41 _ _ hf)
def f_X7_number (l0 : Nat) (l1 : Int32) (l2 : Int32) (h0 : Hp) : Option (Int32 × Hp) :=
  (ck h0 l0 7).bind fun _ => (gI h0 l0 7 14).bind fun x1 => (gI h0 l0 7 13).bind fun x2 => if x1 = x2 then (some ((-1 : Int32), h0)) else ((f_X7_isWord l0 h0).bind fun q4 => if q4.1 = 0 then ((gI q4.2 l0 7 14).bind fun x6 => (gI q4.2 l0 7 13).bind fun x7 => if (x6 - x7) ≤ (2 : Int32) then ((gI q4.2 l0 7 13).bind fun x9 => lp (f_X7_number_41) 600 (l0, l1, l2, (0 : Int32), x9) q4.2) else (some ((-1 : Int32), q4.2))) else (some ((-1 : Int32), q4.2)))
set_option maxRecDepth 100000 in
set_option maxHeartbeats 4000000 in
theorem c_X7_number {l0 : Nat} {l1 : Int32} {l2 : Int32} {h0 : Hp} {q : Int32 × Hp} (hf : f_X7_number l0 l1 l2 h0 = some q) : Mt 4 yX7_number cX7_number 5 (some .int) [.ref l0, .int l1, .int l2] h0 (some (.int q.1)) q.2 := by
  refine MtQ.of (by decide) (Nat.le_of_ble_eq_true rfl) (fun X adr hr hn => ?_)
  unfold f_X7_number at hf
  show AW X cX7_number 5 RX7 (rmd 4 0 0) (Qmet X 0 0 (Qe (some (.int q.1)) q.2 adr)) 0 0 adr h0 0 [(0, .ref l0), (1, .int l1), (2, .int l2)] []
  obtain ⟨u0, e0, hf⟩ := b_some hf
  refine aw_aload_n 0 dX7_number_0 rfl rfl ?_
  obtain ⟨x1, ex1, hf⟩ := b_some hf
  refine aw_getI dX7_number_1 gfX7_149 ex1 ?_
  refine aw_aload_n 0 dX7_number_4 rfl rfl ?_
  obtain ⟨x2, ex2, hf⟩ := b_some hf
  refine aw_getI dX7_number_5 gfX7_146 ex2 ?_
  refine aw_icmp_eq (tgt := 31) dX7_number_8 (by decide) (fun c3 => ?_) (fun c3 => ?_)
  · have hf := i_pos c3 hf
    refine aw_iconst (v := -1) dX7_number_31 (by decide) ?_
    have hq := Option.some.inj hf
    subst hq
    exact aw_iret hr dX7_number_32 ⟨rfl, rfl, rfl⟩
  · have hf := i_neg c3 hf
    refine aw_aload_n 0 dX7_number_11 rfl rfl ?_
    obtain ⟨q4, eq4, hf⟩ := b_some hf
    refine aw_cV (as := []) dX7_number_12 moX7_isWord voX7_isWord mlX7_158 (k_X7_isWord eq4) rfl (rm_ok (by omega) (by decide)) ⟨Nat.le_refl _, Nat.le_refl _⟩ (Nat.le_of_ble_eq_true rfl) rfl (c_X7_isWord eq4) ?_
    refine aw_if_ne (tgt := 31) dX7_number_15 (by decide) (fun c5 => ?_) (fun c5 => ?_)
    · have hf := i_neg c5 hf
      refine aw_iconst (v := -1) dX7_number_31 (by decide) ?_
      have hq := Option.some.inj hf
      subst hq
      exact aw_iret hr dX7_number_32 ⟨rfl, rfl, rfl⟩
    · have hf := i_pos c5 hf
      refine aw_aload_n 0 dX7_number_18 rfl rfl ?_
      obtain ⟨x6, ex6, hf⟩ := b_some hf
      refine aw_getI dX7_number_19 gfX7_149 ex6 ?_
      refine aw_aload_n 0 dX7_number_22 rfl rfl ?_
      obtain ⟨x7, ex7, hf⟩ := b_some hf
      refine aw_getI dX7_number_23 gfX7_146 ex7 ?_
      refine aw_isub dX7_number_26 ?_
      refine aw_iconst (v := 2) dX7_number_27 (by decide) ?_
      refine aw_icmp_le (tgt := 33) dX7_number_28 (by decide) (fun c8 => ?_) (fun c8 => ?_)
      · have hf := i_pos c8 hf
        refine aw_iconst (v := 0) dX7_number_33 (by decide) ?_
        refine aw_istore_n (L' := [(3, .int (0 : Int32)), (0, .ref l0), (1, .int l1), (2, .int l2)]) dX7_number_34 rfl (by decide) rfl ?_
        refine aw_aload_n 1 dX7_number_35 rfl rfl ?_
        obtain ⟨x9, ex9, hf⟩ := b_some hf
        refine aw_getI dX7_number_36 gfX7_146 ex9 ?_
        refine aw_istore (L' := [(4, .int x9), (3, .int (0 : Int32)), (0, .ref l0), (1, .int l1), (2, .int l2)]) dX7_number_39 (by decide) rfl ?_
        exact aw_sub [2, 3, 4, 1, 0] rfl (c_X7_number_41 hr 600 _ _ hf)
      · have hf := i_neg c8 hf
        refine aw_iconst (v := -1) dX7_number_31 (by decide) ?_
        have hq := Option.some.inj hf
        subst hq
        exact aw_iret hr dX7_number_32 ⟨rfl, rfl, rfl⟩
theorem k_X7_number {l0 : Nat} {l1 : Int32} {l2 : Int32} {h0 : Hp} {q : Int32 × Hp} (hf : f_X7_number l0 l1 l2 h0 = some q) : ck h0 l0 7 = some () := by
  unfold f_X7_number at hf
  obtain ⟨u0, e0, hf⟩ := b_some hf
  exact e0
theorem dX7_whose_0 : decode cX7_whose 0 = .ok (.iconst 0, 1) := by decide +kernel
theorem dX7_whose_1 : decode cX7_whose 1 = .ok (.istore_n 3, 1) := by decide +kernel
theorem dX7_whose_2 : decode cX7_whose 2 = .ok (.iload_n 3, 1) := by decide +kernel
theorem dX7_whose_3 : decode cX7_whose 3 = .ok (.aload_n 0, 1) := by decide +kernel
theorem dX7_whose_4 : decode cX7_whose 4 = .ok (.getfield 9, 3) := by decide +kernel
theorem dX7_whose_7 : decode cX7_whose 7 = .ok (.iconst 0, 1) := by decide +kernel
theorem dX7_whose_8 : decode cX7_whose 8 = .ok (.iaload, 1) := by decide +kernel
theorem dX7_whose_9 : decode cX7_whose 9 = .ok (.if_icmp .ge 100, 3) := by decide +kernel
theorem dX7_whose_12 : decode cX7_whose 12 = .ok (.aload_n 0, 1) := by decide +kernel
theorem dX7_whose_13 : decode cX7_whose 13 = .ok (.getfield 9, 3) := by decide +kernel
theorem dX7_whose_16 : decode cX7_whose 16 = .ok (.bipush 9, 2) := by decide +kernel
theorem dX7_whose_18 : decode cX7_whose 18 = .ok (.iload_n 3, 1) := by decide +kernel
theorem dX7_whose_19 : decode cX7_whose 19 = .ok (.iadd, 1) := by decide +kernel
theorem dX7_whose_20 : decode cX7_whose 20 = .ok (.iaload, 1) := by decide +kernel
theorem dX7_whose_21 : decode cX7_whose 21 = .ok (.iload_n 2, 1) := by decide +kernel
theorem dX7_whose_22 : decode cX7_whose 22 = .ok (.iload_n 1, 1) := by decide +kernel
theorem dX7_whose_23 : decode cX7_whose 23 = .ok (.isub, 1) := by decide +kernel
theorem dX7_whose_24 : decode cX7_whose 24 = .ok (.if_icmp .ne 7, 3) := by decide +kernel
theorem dX7_whose_27 : decode cX7_whose 27 = .ok (.iconst 1, 1) := by decide +kernel
theorem dX7_whose_28 : decode cX7_whose 28 = .ok (.goto 4, 3) := by decide +kernel
theorem dX7_whose_31 : decode cX7_whose 31 = .ok (.iconst 0, 1) := by decide +kernel
theorem dX7_whose_32 : decode cX7_whose 32 = .ok (.istore 4, 2) := by decide +kernel
theorem dX7_whose_34 : decode cX7_whose 34 = .ok (.iconst 0, 1) := by decide +kernel
theorem dX7_whose_35 : decode cX7_whose 35 = .ok (.istore 5, 2) := by decide +kernel
theorem dX7_whose_37 : decode cX7_whose 37 = .ok (.iload 5, 2) := by decide +kernel
theorem dX7_whose_39 : decode cX7_whose 39 = .ok (.aload_n 0, 1) := by decide +kernel
theorem dX7_whose_40 : decode cX7_whose 40 = .ok (.getfield 9, 3) := by decide +kernel
theorem dX7_whose_43 : decode cX7_whose 43 = .ok (.bipush 9, 2) := by decide +kernel
theorem dX7_whose_45 : decode cX7_whose 45 = .ok (.iload_n 3, 1) := by decide +kernel
theorem dX7_whose_46 : decode cX7_whose 46 = .ok (.iadd, 1) := by decide +kernel
theorem dX7_whose_47 : decode cX7_whose 47 = .ok (.iaload, 1) := by decide +kernel
theorem dX7_whose_48 : decode cX7_whose 48 = .ok (.if_icmp .ge 48, 3) := by decide +kernel
theorem dX7_whose_51 : decode cX7_whose 51 = .ok (.iload 4, 2) := by decide +kernel
theorem dX7_whose_53 : decode cX7_whose 53 = .ok (.ifCond .eq 43, 3) := by decide +kernel
theorem dX7_whose_56 : decode cX7_whose 56 = .ok (.aload_n 0, 1) := by decide +kernel
theorem dX7_whose_57 : decode cX7_whose 57 = .ok (.getfield 25, 3) := by decide +kernel
theorem dX7_whose_60 : decode cX7_whose 60 = .ok (.iload_n 1, 1) := by decide +kernel
theorem dX7_whose_61 : decode cX7_whose 61 = .ok (.iload 5, 2) := by decide +kernel
theorem dX7_whose_63 : decode cX7_whose 63 = .ok (.iadd, 1) := by decide +kernel
theorem dX7_whose_64 : decode cX7_whose 64 = .ok (.iaload, 1) := by decide +kernel
theorem dX7_whose_65 : decode cX7_whose 65 = .ok (.aload_n 0, 1) := by decide +kernel
theorem dX7_whose_66 : decode cX7_whose 66 = .ok (.getfield 9, 3) := by decide +kernel
theorem dX7_whose_69 : decode cX7_whose 69 = .ok (.bipush 15, 2) := by decide +kernel
theorem dX7_whose_71 : decode cX7_whose 71 = .ok (.bipush 6, 2) := by decide +kernel
theorem dX7_whose_73 : decode cX7_whose 73 = .ok (.iload_n 3, 1) := by decide +kernel
theorem dX7_whose_74 : decode cX7_whose 74 = .ok (.imul, 1) := by decide +kernel
theorem dX7_whose_75 : decode cX7_whose 75 = .ok (.iadd, 1) := by decide +kernel
theorem dX7_whose_76 : decode cX7_whose 76 = .ok (.iload 5, 2) := by decide +kernel
theorem dX7_whose_78 : decode cX7_whose 78 = .ok (.iadd, 1) := by decide +kernel
theorem dX7_whose_79 : decode cX7_whose 79 = .ok (.iaload, 1) := by decide +kernel
theorem dX7_whose_80 : decode cX7_whose 80 = .ok (.if_icmp .ne 7, 3) := by decide +kernel
theorem dX7_whose_83 : decode cX7_whose 83 = .ok (.iconst 1, 1) := by decide +kernel
theorem dX7_whose_84 : decode cX7_whose 84 = .ok (.goto 4, 3) := by decide +kernel
theorem dX7_whose_87 : decode cX7_whose 87 = .ok (.iconst 0, 1) := by decide +kernel
theorem dX7_whose_88 : decode cX7_whose 88 = .ok (.istore 4, 2) := by decide +kernel
theorem dX7_whose_90 : decode cX7_whose 90 = .ok (.iinc 5 1, 3) := by decide +kernel
theorem dX7_whose_93 : decode cX7_whose 93 = .ok (.goto (-56), 3) := by decide +kernel
theorem dX7_whose_96 : decode cX7_whose 96 = .ok (.iload 4, 2) := by decide +kernel
theorem dX7_whose_98 : decode cX7_whose 98 = .ok (.ifCond .eq 5, 3) := by decide +kernel
theorem dX7_whose_101 : decode cX7_whose 101 = .ok (.iload_n 3, 1) := by decide +kernel
theorem dX7_whose_102 : decode cX7_whose 102 = .ok (.ireturn, 1) := by decide +kernel
theorem dX7_whose_103 : decode cX7_whose 103 = .ok (.iinc 3 1, 3) := by decide +kernel
theorem dX7_whose_106 : decode cX7_whose 106 = .ok (.goto (-104), 3) := by decide +kernel
theorem dX7_whose_109 : decode cX7_whose 109 = .ok (.iconst (-1), 1) := by decide +kernel
theorem dX7_whose_110 : decode cX7_whose 110 = .ok (.ireturn, 1) := by decide +kernel
def f_X7_whose_96 (k2 : Nat × Int32 × Int32 × Int32 → Hp → Option (Int32 × Hp)) (l0 : Nat) (l1 : Int32) (l2 : Int32) (l3 : Int32) (l4 : Int32) (h0 : Hp) : Option (Int32 × Hp) :=
  if l4 = 0 then ((some (l3 + 1)).bind fun x2 => k2 (l0, l1, l2, x2) h0) else (some (l3, h0))
set_option maxRecDepth 100000 in
set_option maxHeartbeats 4000000 in
theorem c_X7_whose_96 {X : Cx} {adr : Nat → Nat} {q : Int32 × Hp} (hr : (mth X).sig.returnType = (some .int)) {k2 : Nat × Int32 × Int32 × Int32 → Hp → Option (Int32 × Hp)} (hk2 : ∀ v h, k2 v h = some q → AW X cX7_whose 6 RX7 (rmd 1 0 0) (Qmet X 0 0 (Qe (some (.int q.1)) q.2 adr)) 0 0 adr h 2 [(0, .ref v.1), (1, .int v.2.1), (2, .int v.2.2.1), (3, .int v.2.2.2)] []) {l0 : Nat} {l1 : Int32} {l2 : Int32} {l3 : Int32} {l4 : Int32} {h0 : Hp} (hf : f_X7_whose_96 k2 l0 l1 l2 l3 l4 h0 = some q) : AW X cX7_whose 6 RX7 (rmd 1 0 0) (Qmet X 0 0 (Qe (some (.int q.1)) q.2 adr)) 0 0 adr h0 96 [(0, .ref l0), (1, .int l1), (2, .int l2), (3, .int l3), (4, .int l4)] [] := by
  unfold f_X7_whose_96 at hf
  refine aw_iload 4 dX7_whose_96 rfl ?_
  refine aw_if_eq (tgt := 103) dX7_whose_98 (by decide) (fun c1 => ?_) (fun c1 => ?_)
  · have hf := i_pos c1 hf
    obtain ⟨x2, ex2, hf⟩ := b_some hf
    refine aw_iinc (v := x2) (L' := [(3, .int x2), (0, .ref l0), (1, .int l1), (2, .int l2), (4, .int l4)]) 3 dX7_whose_103 rfl (Option.some.inj ex2) (by decide) rfl ?_
    refine aw_goto (tgt := 2) dX7_whose_106 (by decide) ?_
    exact aw_sub [1, 2, 3, 0] rfl (hk2 _ _ hf)
  · have hf := i_neg c1 hf
    refine aw_iload_n 3 dX7_whose_101 rfl rfl ?_
    have hq := Option.some.inj hf
    subst hq
    exact aw_iret hr dX7_whose_102 ⟨rfl, rfl, rfl⟩
def f_X7_whose_37 (k2 : Nat × Int32 × Int32 × Int32 → Hp → Option (Int32 × Hp)) (k37 : Nat × Int32 × Int32 × Int32 × Int32 × Int32 → Hp → Option (Int32 × Hp)) (v : Nat × Int32 × Int32 × Int32 × Int32 × Int32) (h0 : Hp) : Option (Int32 × Hp) :=
  match v with
  | (l0, l1, l2, l3, l4, l5) => (gR h0 l0 7 0).bind fun r1 => (aL h0 r1 ((9 : Int32) + l3)).bind fun x2 => if x2 ≤ l5 then (f_X7_whose_96 k2 l0 l1 l2 l3 l4 h0) else (if l4 = 0 then (f_X7_whose_96 k2 l0 l1 l2 l3 l4 h0) else ((gR h0 l0 7 10).bind fun r5 => (aL h0 r5 (l1 + l5)).bind fun x6 => (gR h0 l0 7 0).bind fun r7 => (aL h0 r7 (((15 : Int32) + ((6 : Int32) * l3)) + l5)).bind fun x8 => if x6 = x8 then ((some (l5 + 1)).bind fun x11 => k37 (l0, l1, l2, l3, (1 : Int32), x11) h0) else ((some (l5 + 1)).bind fun x10 => k37 (l0, l1, l2, l3, (0 : Int32), x10) h0)))
set_option maxRecDepth 100000 in
set_option maxHeartbeats 4000000 in
theorem c_X7_whose_37 {X : Cx} {adr : Nat → Nat} {q : Int32 × Hp} (hr : (mth X).sig.returnType = (some .int)) {k2 : Nat × Int32 × Int32 × Int32 → Hp → Option (Int32 × Hp)} (hk2 : ∀ v h, k2 v h = some q → AW X cX7_whose 6 RX7 (rmd 1 0 0) (Qmet X 0 0 (Qe (some (.int q.1)) q.2 adr)) 0 0 adr h 2 [(0, .ref v.1), (1, .int v.2.1), (2, .int v.2.2.1), (3, .int v.2.2.2)] []) (n : Nat) : ∀ v h0, lp (f_X7_whose_37 k2) n v h0 = some q → AW X cX7_whose 6 RX7 (rmd 1 0 0) (Qmet X 0 0 (Qe (some (.int q.1)) q.2 adr)) 0 0 adr h0 37 [(0, .ref v.1), (1, .int v.2.1), (2, .int v.2.2.1), (3, .int v.2.2.2.1), (4, .int v.2.2.2.2.1), (5, .int v.2.2.2.2.2)] [] := by
  refine aw_lp (fun k37 hk37 v h0 hf => ?_) n
  obtain ⟨l0, l1, l2, l3, l4, l5⟩ := v
  unfold f_X7_whose_37 at hf
  dsimp only at hf
  show AW X cX7_whose 6 RX7 (rmd 1 0 0) (Qmet X 0 0 (Qe (some (.int q.1)) q.2 adr)) 0 0 adr h0 37 [(0, .ref l0), (1, .int l1), (2, .int l2), (3, .int l3), (4, .int l4), (5, .int l5)] []
  refine aw_iload 5 dX7_whose_37 rfl ?_
  refine aw_aload_n 0 dX7_whose_39 rfl rfl ?_
  obtain ⟨r1, er1, hf⟩ := b_some hf
  refine aw_getR dX7_whose_40 gfX7_9 er1 ?_
  refine aw_bipush (v := 9) dX7_whose_43 (by decide) ?_
  refine aw_iload_n 3 dX7_whose_45 rfl rfl ?_
  refine aw_iadd dX7_whose_46 ?_
  obtain ⟨x2, ex2, hf⟩ := b_some hf
  refine aw_iald dX7_whose_47 ex2 ?_
  refine aw_icmp_ge (tgt := 96) dX7_whose_48 (by decide) (fun c3 => ?_) (fun c3 => ?_)
  · have hf := i_pos c3 hf
    exact aw_sub [0, 1, 2, 3, 4] rfl (c_X7_whose_96 hr hk2 hf)
  · have hf := i_neg c3 hf
    refine aw_iload 4 dX7_whose_51 rfl ?_
    refine aw_if_eq (tgt := 96) dX7_whose_53 (by decide) (fun c4 => ?_) (fun c4 => ?_)
    · have hf := i_pos c4 hf
      exact aw_sub [0, 1, 2, 3, 4] rfl (c_X7_whose_96 hr hk2 hf)
    · have hf := i_neg c4 hf
      refine aw_aload_n 0 dX7_whose_56 rfl rfl ?_
      obtain ⟨r5, er5, hf⟩ := b_some hf
      refine aw_getR dX7_whose_57 gfX7_25 er5 ?_
      refine aw_iload_n 1 dX7_whose_60 rfl rfl ?_
      refine aw_iload 5 dX7_whose_61 rfl ?_
      refine aw_iadd dX7_whose_63 ?_
      obtain ⟨x6, ex6, hf⟩ := b_some hf
      refine aw_iald dX7_whose_64 ex6 ?_
      refine aw_aload_n 0 dX7_whose_65 rfl rfl ?_
      obtain ⟨r7, er7, hf⟩ := b_some hf
      refine aw_getR dX7_whose_66 gfX7_9 er7 ?_
      refine aw_bipush (v := 15) dX7_whose_69 (by decide) ?_
      refine aw_bipush (v := 6) dX7_whose_71 (by decide) ?_
      refine aw_iload_n 3 dX7_whose_73 rfl rfl ?_
      refine aw_imul dX7_whose_74 ?_
      refine aw_iadd dX7_whose_75 ?_
      refine aw_iload 5 dX7_whose_76 rfl ?_
      refine aw_iadd dX7_whose_78 ?_
      obtain ⟨x8, ex8, hf⟩ := b_some hf
      refine aw_iald dX7_whose_79 ex8 ?_
      refine aw_icmp_ne (tgt := 87) dX7_whose_80 (by decide) (fun c9 => ?_) (fun c9 => ?_)
      · have hf := i_neg c9 hf
        refine aw_iconst (v := 0) dX7_whose_87 (by decide) ?_
        refine aw_istore (L' := [(4, .int (0 : Int32)), (0, .ref l0), (1, .int l1), (2, .int l2), (3, .int l3), (5, .int l5)]) dX7_whose_88 (by decide) rfl ?_
        obtain ⟨x10, ex10, hf⟩ := b_some hf
        refine aw_iinc (v := x10) (L' := [(5, .int x10), (4, .int (0 : Int32)), (0, .ref l0), (1, .int l1), (2, .int l2), (3, .int l3)]) 5 dX7_whose_90 rfl (Option.some.inj ex10) (by decide) rfl ?_
        refine aw_goto (tgt := 37) dX7_whose_93 (by decide) ?_
        exact aw_sub [2, 3, 4, 5, 1, 0] rfl (hk37 _ _ hf)
      · have hf := i_pos c9 hf
        refine aw_iconst (v := 1) dX7_whose_83 (by decide) ?_
        refine aw_goto (tgt := 88) dX7_whose_84 (by decide) ?_
        refine aw_istore (L' := [(4, .int (1 : Int32)), (0, .ref l0), (1, .int l1), (2, .int l2), (3, .int l3), (5, .int l5)]) dX7_whose_88 (by decide) rfl ?_
        obtain ⟨x11, ex11, hf⟩ := b_some hf
        refine aw_iinc (v := x11) (L' := [(5, .int x11), (4, .int (1 : Int32)), (0, .ref l0), (1, .int l1), (2, .int l2), (3, .int l3)]) 5 dX7_whose_90 rfl (Option.some.inj ex11) (by decide) rfl ?_
        refine aw_goto (tgt := 37) dX7_whose_93 (by decide) ?_
        exact aw_sub [2, 3, 4, 5, 1, 0] rfl (hk37 _ _ hf)
def f_X7_whose_32 (k2 : Nat × Int32 × Int32 × Int32 → Hp → Option (Int32 × Hp)) (l0 : Nat) (l1 : Int32) (l2 : Int32) (l3 : Int32) (s0 : Int32) (h0 : Hp) : Option (Int32 × Hp) :=
  lp (f_X7_whose_37 k2) 600 (l0, l1, l2, l3, s0, (0 : Int32)) h0
set_option maxRecDepth 100000 in
set_option maxHeartbeats 4000000 in
theorem c_X7_whose_32 {X : Cx} {adr : Nat → Nat} {q : Int32 × Hp} (hr : (mth X).sig.returnType = (some .int)) {k2 : Nat × Int32 × Int32 × Int32 → Hp → Option (Int32 × Hp)} (hk2 : ∀ v h, k2 v h = some q → AW X cX7_whose 6 RX7 (rmd 1 0 0) (Qmet X 0 0 (Qe (some (.int q.1)) q.2 adr)) 0 0 adr h 2 [(0, .ref v.1), (1, .int v.2.1), (2, .int v.2.2.1), (3, .int v.2.2.2)] []) {l0 : Nat} {l1 : Int32} {l2 : Int32} {l3 : Int32} {s0 : Int32} {h0 : Hp} (hf : f_X7_whose_32 k2 l0 l1 l2 l3 s0 h0 = some q) : AW X cX7_whose 6 RX7 (rmd 1 0 0) (Qmet X 0 0 (Qe (some (.int q.1)) q.2 adr)) 0 0 adr h0 32 [(0, .ref l0), (1, .int l1), (2, .int l2), (3, .int l3)] [.int s0] := by
  unfold f_X7_whose_32 at hf
  refine aw_istore (L' := [(4, .int s0), (0, .ref l0), (1, .int l1), (2, .int l2), (3, .int l3)]) dX7_whose_32 (by decide) rfl ?_
  refine aw_iconst (v := 0) dX7_whose_34 (by decide) ?_
  refine aw_istore (L' := [(5, .int (0 : Int32)), (4, .int s0), (0, .ref l0), (1, .int l1), (2, .int l2), (3, .int l3)]) dX7_whose_35 (by decide) rfl ?_
  exact aw_sub [2, 3, 4, 5, 1, 0] rfl (c_X7_whose_37 hr hk2 600 _ _ hf)
def f_X7_whose_2 (k2 : Nat × Int32 × Int32 × Int32 → Hp → Option (Int32 × Hp)) (v : Nat × Int32 × Int32 × Int32) (h0 : Hp) : Option (Int32 × Hp) :=
  match v with
  | (l0, l1, l2, l3) => (gR h0 l0 7 0).bind fun r1 => (aL h0 r1 (0 : Int32)).bind fun x2 => if x2 ≤ l3 then (some ((-1 : Int32), h0)) else ((gR h0 l0 7 0).bind fun r4 => (aL h0 r4 ((9 : Int32) + l3)).bind fun x5 => if x5 = (l2 - l1) then (f_X7_whose_32 k2 l0 l1 l2 l3 (1 : Int32) h0) else (f_X7_whose_32 k2 l0 l1 l2 l3 (0 : Int32) h0))
set_option maxRecDepth 100000 in
set_option maxHeartbeats 4000000 in
theorem c_X7_whose_2 {X : Cx} {adr : Nat → Nat} {q : Int32 × Hp} (hr : (mth X).sig.returnType = (some .int)) (n : Nat) : ∀ v h0, lp (f_X7_whose_2) n v h0 = some q → AW X cX7_whose 6 RX7 (rmd 1 0 0) (Qmet X 0 0 (Qe (some (.int q.1)) q.2 adr)) 0 0 adr h0 2 [(0, .ref v.1), (1, .int v.2.1), (2, .int v.2.2.1), (3, .int v.2.2.2)] [] := by
  refine aw_lp (fun k2 hk2 v h0 hf => ?_) n
  obtain ⟨l0, l1, l2, l3⟩ := v
  unfold f_X7_whose_2 at hf
  dsimp only at hf
  show AW X cX7_whose 6 RX7 (rmd 1 0 0) (Qmet X 0 0 (Qe (some (.int q.1)) q.2 adr)) 0 0 adr h0 2 [(0, .ref l0), (1, .int l1), (2, .int l2), (3, .int l3)] []
  refine aw_iload_n 3 dX7_whose_2 rfl rfl ?_
  refine aw_aload_n 0 dX7_whose_3 rfl rfl ?_
  obtain ⟨r1, er1, hf⟩ := b_some hf
  refine aw_getR dX7_whose_4 gfX7_9 er1 ?_
  refine aw_iconst (v := 0) dX7_whose_7 (by decide) ?_
  obtain ⟨x2, ex2, hf⟩ := b_some hf
  refine aw_iald dX7_whose_8 ex2 ?_
  refine aw_icmp_ge (tgt := 109) dX7_whose_9 (by decide) (fun c3 => ?_) (fun c3 => ?_)
  · have hf := i_pos c3 hf
    refine aw_iconst (v := -1) dX7_whose_109 (by decide) ?_
    have hq := Option.some.inj hf
    subst hq
    exact aw_iret hr dX7_whose_110 ⟨rfl, rfl, rfl⟩
  · have hf := i_neg c3 hf
    refine aw_aload_n 0 dX7_whose_12 rfl rfl ?_
    obtain ⟨r4, er4, hf⟩ := b_some hf
    refine aw_getR dX7_whose_13 gfX7_9 er4 ?_
    refine aw_bipush (v := 9) dX7_whose_16 (by decide) ?_
    refine aw_iload_n 3 dX7_whose_18 rfl rfl ?_
    refine aw_iadd dX7_whose_19 ?_
    obtain ⟨x5, ex5, hf⟩ := b_some hf
    refine aw_iald dX7_whose_20 ex5 ?_
    refine aw_iload_n 2 dX7_whose_21 rfl rfl ?_
    refine aw_iload_n 1 dX7_whose_22 rfl rfl ?_
    refine aw_isub dX7_whose_23 ?_
    refine aw_icmp_ne (tgt := 31) dX7_whose_24 (by decide) (fun c6 => ?_) (fun c6 => ?_)
    · have hf := i_neg c6 hf
      refine aw_iconst (v := 0) dX7_whose_31 (by decide) ?_
      exact aw_sub [0, 1, 2, 3] rfl (c_X7_whose_32 hr hk2 hf)
    · have hf := i_pos c6 hf
      refine aw_iconst (v := 1) dX7_whose_27 (by decide) ?_
      refine aw_goto (tgt := 32) dX7_whose_28 (by decide) ?_
      exact aw_sub [0, 1, 2, 3] rfl (c_X7_whose_32 hr hk2 hf)
def f_X7_whose (l0 : Nat) (l1 : Int32) (l2 : Int32) (h0 : Hp) : Option (Int32 × Hp) :=
  (ck h0 l0 7).bind fun _ => lp (f_X7_whose_2) 600 (l0, l1, l2, (0 : Int32)) h0
set_option maxRecDepth 100000 in
set_option maxHeartbeats 4000000 in
theorem c_X7_whose {l0 : Nat} {l1 : Int32} {l2 : Int32} {h0 : Hp} {q : Int32 × Hp} (hf : f_X7_whose l0 l1 l2 h0 = some q) : Mt 1 yX7_whose cX7_whose 6 (some .int) [.ref l0, .int l1, .int l2] h0 (some (.int q.1)) q.2 := by
  refine MtQ.of (by decide) (Nat.le_of_ble_eq_true rfl) (fun X adr hr hn => ?_)
  unfold f_X7_whose at hf
  show AW X cX7_whose 6 RX7 (rmd 1 0 0) (Qmet X 0 0 (Qe (some (.int q.1)) q.2 adr)) 0 0 adr h0 0 [(0, .ref l0), (1, .int l1), (2, .int l2)] []
  obtain ⟨u0, e0, hf⟩ := b_some hf
  refine aw_iconst (v := 0) dX7_whose_0 (by decide) ?_
  refine aw_istore_n (L' := [(3, .int (0 : Int32)), (0, .ref l0), (1, .int l1), (2, .int l2)]) dX7_whose_1 rfl (by decide) rfl ?_
  exact aw_sub [1, 2, 3, 0] rfl (c_X7_whose_2 hr 600 _ _ hf)
theorem k_X7_whose {l0 : Nat} {l1 : Int32} {l2 : Int32} {h0 : Hp} {q : Int32 × Hp} (hf : f_X7_whose l0 l1 l2 h0 = some q) : ck h0 l0 7 = some () := by
  unfold f_X7_whose at hf
  obtain ⟨u0, e0, hf⟩ := b_some hf
  exact e0
theorem dX7_games_0 : decode cX7_games 0 = .ok (.aload_n 0, 1) := by decide +kernel
theorem dX7_games_1 : decode cX7_games 1 = .ok (.aload_n 0, 1) := by decide +kernel
theorem dX7_games_2 : decode cX7_games 2 = .ok (.getfield 146, 3) := by decide +kernel
theorem dX7_games_5 : decode cX7_games 5 = .ok (.aload_n 0, 1) := by decide +kernel
theorem dX7_games_6 : decode cX7_games 6 = .ok (.getfield 149, 3) := by decide +kernel
theorem dX7_games_9 : decode cX7_games 9 = .ok (.invokevirtual 173, 3) := by decide +kernel
theorem dX7_games_12 : decode cX7_games 12 = .ok (.istore_n 2, 1) := by decide +kernel
theorem dX7_games_13 : decode cX7_games 13 = .ok (.aload_n 0, 1) := by decide +kernel
theorem dX7_games_14 : decode cX7_games 14 = .ok (.invokevirtual 164, 3) := by decide +kernel
theorem dX7_games_17 : decode cX7_games 17 = .ok (.aload_n 0, 1) := by decide +kernel
theorem dX7_games_18 : decode cX7_games 18 = .ok (.invokevirtual 170, 3) := by decide +kernel
theorem dX7_games_21 : decode cX7_games 21 = .ok (.ifCond .eq 34, 3) := by decide +kernel
theorem dX7_games_24 : decode cX7_games 24 = .ok (.aload_n 0, 1) := by decide +kernel
theorem dX7_games_25 : decode cX7_games 25 = .ok (.aload_n 0, 1) := by decide +kernel
theorem dX7_games_26 : decode cX7_games 26 = .ok (.getfield 146, 3) := by decide +kernel
theorem dX7_games_29 : decode cX7_games 29 = .ok (.aload_n 0, 1) := by decide +kernel
theorem dX7_games_30 : decode cX7_games 30 = .ok (.getfield 149, 3) := by decide +kernel
theorem dX7_games_33 : decode cX7_games 33 = .ok (.invokevirtual 173, 3) := by decide +kernel
theorem dX7_games_36 : decode cX7_games 36 = .ok (.ifCond .lt 19, 3) := by decide +kernel
theorem dX7_games_39 : decode cX7_games 39 = .ok (.aload_n 0, 1) := by decide +kernel
theorem dX7_games_40 : decode cX7_games 40 = .ok (.aload_n 0, 1) := by decide +kernel
theorem dX7_games_41 : decode cX7_games 41 = .ok (.getfield 146, 3) := by decide +kernel
theorem dX7_games_44 : decode cX7_games 44 = .ok (.aload_n 0, 1) := by decide +kernel
theorem dX7_games_45 : decode cX7_games 45 = .ok (.getfield 149, 3) := by decide +kernel
theorem dX7_games_48 : decode cX7_games 48 = .ok (.invokevirtual 173, 3) := by decide +kernel
theorem dX7_games_51 : decode cX7_games 51 = .ok (.iload_n 2, 1) := by decide +kernel
theorem dX7_games_52 : decode cX7_games 52 = .ok (.if_icmp .ne 8, 3) := by decide +kernel
theorem dX7_games_55 : decode cX7_games 55 = .ok (.aload_n 0, 1) := by decide +kernel
theorem dX7_games_56 : decode cX7_games 56 = .ok (.invokevirtual 167, 3) := by decide +kernel
theorem dX7_games_59 : decode cX7_games 59 = .ok (.ireturn, 1) := by decide +kernel
theorem dX7_games_60 : decode cX7_games 60 = .ok (.aload_n 0, 1) := by decide +kernel
theorem dX7_games_61 : decode cX7_games 61 = .ok (.aload_n 0, 1) := by decide +kernel
theorem dX7_games_62 : decode cX7_games 62 = .ok (.getfield 146, 3) := by decide +kernel
theorem dX7_games_65 : decode cX7_games 65 = .ok (.aload_n 0, 1) := by decide +kernel
theorem dX7_games_66 : decode cX7_games 66 = .ok (.getfield 149, 3) := by decide +kernel
theorem dX7_games_69 : decode cX7_games 69 = .ok (.invokevirtual 173, 3) := by decide +kernel
theorem dX7_games_72 : decode cX7_games 72 = .ok (.istore_n 3, 1) := by decide +kernel
theorem dX7_games_73 : decode cX7_games 73 = .ok (.iconst 0, 1) := by decide +kernel
theorem dX7_games_74 : decode cX7_games 74 = .ok (.istore 4, 2) := by decide +kernel
theorem dX7_games_76 : decode cX7_games 76 = .ok (.iload_n 1, 1) := by decide +kernel
theorem dX7_games_77 : decode cX7_games 77 = .ok (.iconst 2, 1) := by decide +kernel
theorem dX7_games_78 : decode cX7_games 78 = .ok (.if_icmp .ne 16, 3) := by decide +kernel
theorem dX7_games_81 : decode cX7_games 81 = .ok (.aload_n 0, 1) := by decide +kernel
theorem dX7_games_82 : decode cX7_games 82 = .ok (.invokevirtual 164, 3) := by decide +kernel
theorem dX7_games_85 : decode cX7_games 85 = .ok (.aload_n 0, 1) := by decide +kernel
theorem dX7_games_86 : decode cX7_games 86 = .ok (.iconst 1, 1) := by decide +kernel
theorem dX7_games_87 : decode cX7_games 87 = .ok (.bipush 30, 2) := by decide +kernel
theorem dX7_games_89 : decode cX7_games 89 = .ok (.invokevirtual 189, 3) := by decide +kernel
theorem dX7_games_92 : decode cX7_games 92 = .ok (.istore 4, 2) := by decide +kernel
theorem dX7_games_94 : decode cX7_games 94 = .ok (.iload 4, 2) := by decide +kernel
theorem dX7_games_96 : decode cX7_games 96 = .ok (.ifCond .lt 10, 3) := by decide +kernel
theorem dX7_games_99 : decode cX7_games 99 = .ok (.aload_n 0, 1) := by decide +kernel
theorem dX7_games_100 : decode cX7_games 100 = .ok (.invokevirtual 186, 3) := by decide +kernel
theorem dX7_games_103 : decode cX7_games 103 = .ok (.ifCond .ne 8, 3) := by decide +kernel
theorem dX7_games_106 : decode cX7_games 106 = .ok (.aload_n 0, 1) := by decide +kernel
theorem dX7_games_107 : decode cX7_games 107 = .ok (.invokevirtual 167, 3) := by decide +kernel
theorem dX7_games_110 : decode cX7_games 110 = .ok (.ireturn, 1) := by decide +kernel
theorem dX7_games_111 : decode cX7_games 111 = .ok (.aload_n 0, 1) := by decide +kernel
theorem dX7_games_112 : decode cX7_games 112 = .ok (.iconst 0, 1) := by decide +kernel
theorem dX7_games_113 : decode cX7_games 113 = .ok (.putfield 129, 3) := by decide +kernel
theorem dX7_games_116 : decode cX7_games 116 = .ok (.iload_n 1, 1) := by decide +kernel
theorem dX7_games_117 : decode cX7_games 117 = .ok (.iconst 2, 1) := by decide +kernel
theorem dX7_games_118 : decode cX7_games 118 = .ok (.if_icmp .ne 14, 3) := by decide +kernel
theorem dX7_games_121 : decode cX7_games 121 = .ok (.aload_n 0, 1) := by decide +kernel
theorem dX7_games_122 : decode cX7_games 122 = .ok (.iload_n 2, 1) := by decide +kernel
theorem dX7_games_123 : decode cX7_games 123 = .ok (.iload_n 3, 1) := by decide +kernel
theorem dX7_games_124 : decode cX7_games 124 = .ok (.iload 4, 2) := by decide +kernel
theorem dX7_games_126 : decode cX7_games 126 = .ok (.invokevirtual 192, 3) := by decide +kernel
theorem dX7_games_129 : decode cX7_games 129 = .ok (.goto 19, 3) := by decide +kernel
theorem dX7_games_132 : decode cX7_games 132 = .ok (.aload_n 0, 1) := by decide +kernel
theorem dX7_games_133 : decode cX7_games 133 = .ok (.iload_n 2, 1) := by decide +kernel
theorem dX7_games_134 : decode cX7_games 134 = .ok (.iload_n 3, 1) := by decide +kernel
theorem dX7_games_135 : decode cX7_games 135 = .ok (.iload_n 1, 1) := by decide +kernel
theorem dX7_games_136 : decode cX7_games 136 = .ok (.iconst 4, 1) := by decide +kernel
theorem dX7_games_137 : decode cX7_games 137 = .ok (.if_icmp .ne 7, 3) := by decide +kernel
theorem dX7_games_140 : decode cX7_games 140 = .ok (.iconst 1, 1) := by decide +kernel
theorem dX7_games_141 : decode cX7_games 141 = .ok (.goto 4, 3) := by decide +kernel
theorem dX7_games_144 : decode cX7_games 144 = .ok (.iconst 0, 1) := by decide +kernel
theorem dX7_games_145 : decode cX7_games 145 = .ok (.invokevirtual 196, 3) := by decide +kernel
theorem dX7_games_148 : decode cX7_games 148 = .ok (.ireturn, 1) := by decide +kernel
def f_X7_games_55 (l0 : Nat) (h0 : Hp) : Option (Int32 × Hp) :=
  (f_X7_faults l0 h0).bind fun q1 => some (q1.1, q1.2)
set_option maxRecDepth 100000 in
set_option maxHeartbeats 4000000 in
theorem c_X7_games_55 {X : Cx} {adr : Nat → Nat} {q : Int32 × Hp} (hr : (mth X).sig.returnType = (some .int)) {l0 : Nat} {h0 : Hp} (hf : f_X7_games_55 l0 h0 = some q) : AW X cX7_games 5 RX7 (rmd 5 0 0) (Qmet X 0 0 (Qe (some (.int q.1)) q.2 adr)) 0 0 adr h0 55 [(0, .ref l0)] [] := by
  unfold f_X7_games_55 at hf
  refine aw_aload_n 0 dX7_games_55 rfl rfl ?_
  obtain ⟨q1, eq1, hf⟩ := b_some hf
  refine aw_cV (as := []) dX7_games_56 moX7_faults voX7_faults mlX7_167 (k_X7_faults eq1) rfl (rm_ok (by omega) (by decide)) ⟨Nat.le_refl _, Nat.le_refl _⟩ (Nat.le_of_ble_eq_true rfl) rfl (c_X7_faults eq1) ?_
  have hq := Option.some.inj hf
  subst hq
  exact aw_iret hr dX7_games_59 ⟨rfl, rfl, rfl⟩
def f_X7_games_106 (l0 : Nat) (h0 : Hp) : Option (Int32 × Hp) :=
  (f_X7_faults l0 h0).bind fun q1 => some (q1.1, q1.2)
set_option maxRecDepth 100000 in
set_option maxHeartbeats 4000000 in
theorem c_X7_games_106 {X : Cx} {adr : Nat → Nat} {q : Int32 × Hp} (hr : (mth X).sig.returnType = (some .int)) {l0 : Nat} {h0 : Hp} (hf : f_X7_games_106 l0 h0 = some q) : AW X cX7_games 5 RX7 (rmd 5 0 0) (Qmet X 0 0 (Qe (some (.int q.1)) q.2 adr)) 0 0 adr h0 106 [(0, .ref l0)] [] := by
  unfold f_X7_games_106 at hf
  refine aw_aload_n 0 dX7_games_106 rfl rfl ?_
  obtain ⟨q1, eq1, hf⟩ := b_some hf
  refine aw_cV (as := []) dX7_games_107 moX7_faults voX7_faults mlX7_167 (k_X7_faults eq1) rfl (rm_ok (by omega) (by decide)) ⟨Nat.le_refl _, Nat.le_refl _⟩ (Nat.le_of_ble_eq_true rfl) rfl (c_X7_faults eq1) ?_
  have hq := Option.some.inj hf
  subst hq
  exact aw_iret hr dX7_games_110 ⟨rfl, rfl, rfl⟩
def f_X7_games_145 (s0 : Int32) (s1 : Int32) (s2 : Int32) (s3 : Nat) (h0 : Hp) : Option (Int32 × Hp) :=
  (f_X7_isPlayed s3 s2 s1 s0 h0).bind fun q1 => some (q1.1, q1.2)
set_option maxRecDepth 100000 in
set_option maxHeartbeats 4000000 in
theorem c_X7_games_145 {X : Cx} {adr : Nat → Nat} {q : Int32 × Hp} (hr : (mth X).sig.returnType = (some .int)) {s0 : Int32} {s1 : Int32} {s2 : Int32} {s3 : Nat} {h0 : Hp} (hf : f_X7_games_145 s0 s1 s2 s3 h0 = some q) : AW X cX7_games 5 RX7 (rmd 5 0 0) (Qmet X 0 0 (Qe (some (.int q.1)) q.2 adr)) 0 0 adr h0 145 [] [.int s0, .int s1, .int s2, .ref s3] := by
  unfold f_X7_games_145 at hf
  obtain ⟨q1, eq1, hf⟩ := b_some hf
  refine aw_cV (as := [.int s2, .int s1, .int s0]) dX7_games_145 moX7_isPlayed voX7_isPlayed mlX7_196 (k_X7_isPlayed eq1) rfl (rm_ok (by omega) (by decide)) ⟨Nat.le_refl _, Nat.le_refl _⟩ (Nat.le_of_ble_eq_true rfl) rfl (c_X7_isPlayed eq1) ?_
  have hq := Option.some.inj hf
  subst hq
  exact aw_iret hr dX7_games_148 ⟨rfl, rfl, rfl⟩
def f_X7_games_94 (l0 : Nat) (l1 : Int32) (l2 : Int32) (l3 : Int32) (l4 : Int32) (h0 : Hp) : Option (Int32 × Hp) :=
  if l4 < 0 then (f_X7_games_106 l0 h0) else ((f_X7_isOver l0 h0).bind fun q2 => if q2.1 = 0 then (f_X7_games_106 l0 q2.2) else ((pI q2.2 l0 7 11 (0 : Int32)).bind fun h4 => if l1 = (2 : Int32) then ((f_X7_comesGame l0 l2 l3 l4 h4).bind fun q7 => some (q7.1, q7.2)) else (if l1 = (4 : Int32) then (f_X7_games_145 (1 : Int32) l3 l2 l0 h4) else (f_X7_games_145 (0 : Int32) l3 l2 l0 h4))))
set_option maxRecDepth 100000 in
set_option maxHeartbeats 4000000 in
theorem c_X7_games_94 {X : Cx} {adr : Nat → Nat} {q : Int32 × Hp} (hr : (mth X).sig.returnType = (some .int)) {l0 : Nat} {l1 : Int32} {l2 : Int32} {l3 : Int32} {l4 : Int32} {h0 : Hp} (hf : f_X7_games_94 l0 l1 l2 l3 l4 h0 = some q) : AW X cX7_games 5 RX7 (rmd 5 0 0) (Qmet X 0 0 (Qe (some (.int q.1)) q.2 adr)) 0 0 adr h0 94 [(0, .ref l0), (1, .int l1), (2, .int l2), (3, .int l3), (4, .int l4)] [] := by
  unfold f_X7_games_94 at hf
  refine aw_iload 4 dX7_games_94 rfl ?_
  refine aw_if_lt (tgt := 106) dX7_games_96 (by decide) (fun c1 => ?_) (fun c1 => ?_)
  · have hf := i_pos c1 hf
    exact aw_sub [0] rfl (c_X7_games_106 hr hf)
  · have hf := i_neg c1 hf
    refine aw_aload_n 0 dX7_games_99 rfl rfl ?_
    obtain ⟨q2, eq2, hf⟩ := b_some hf
    refine aw_cV (as := []) dX7_games_100 moX7_isOver voX7_isOver mlX7_186 (k_X7_isOver eq2) rfl (rm_ok (by omega) (by decide)) ⟨Nat.le_refl _, Nat.le_refl _⟩ (Nat.le_of_ble_eq_true rfl) rfl (c_X7_isOver eq2) ?_
    refine aw_if_ne (tgt := 111) dX7_games_103 (by decide) (fun c3 => ?_) (fun c3 => ?_)
    · have hf := i_neg c3 hf
      refine aw_aload_n 0 dX7_games_111 rfl rfl ?_
      refine aw_iconst (v := 0) dX7_games_112 (by decide) ?_
      obtain ⟨h4, eh4, hf⟩ := b_some hf
      refine aw_putI dX7_games_113 pfX7_129 eh4 ?_
      refine aw_iload_n 1 dX7_games_116 rfl rfl ?_
      refine aw_iconst (v := 2) dX7_games_117 (by decide) ?_
      refine aw_icmp_ne (tgt := 132) dX7_games_118 (by decide) (fun c5 => ?_) (fun c5 => ?_)
      · have hf := i_neg c5 hf
        refine aw_aload_n 0 dX7_games_132 rfl rfl ?_
        refine aw_iload_n 2 dX7_games_133 rfl rfl ?_
        refine aw_iload_n 3 dX7_games_134 rfl rfl ?_
        refine aw_iload_n 1 dX7_games_135 rfl rfl ?_
        refine aw_iconst (v := 4) dX7_games_136 (by decide) ?_
        refine aw_icmp_ne (tgt := 144) dX7_games_137 (by decide) (fun c6 => ?_) (fun c6 => ?_)
        · have hf := i_neg c6 hf
          refine aw_iconst (v := 0) dX7_games_144 (by decide) ?_
          exact aw_sub [] rfl (c_X7_games_145 hr hf)
        · have hf := i_pos c6 hf
          refine aw_iconst (v := 1) dX7_games_140 (by decide) ?_
          refine aw_goto (tgt := 145) dX7_games_141 (by decide) ?_
          exact aw_sub [] rfl (c_X7_games_145 hr hf)
      · have hf := i_pos c5 hf
        refine aw_aload_n 0 dX7_games_121 rfl rfl ?_
        refine aw_iload_n 2 dX7_games_122 rfl rfl ?_
        refine aw_iload_n 3 dX7_games_123 rfl rfl ?_
        refine aw_iload 4 dX7_games_124 rfl ?_
        obtain ⟨q7, eq7, hf⟩ := b_some hf
        refine aw_cV (as := [.int l2, .int l3, .int l4]) dX7_games_126 moX7_comesGame voX7_comesGame mlX7_192 (k_X7_comesGame eq7) rfl (rm_ok (by omega) (by decide)) ⟨Nat.le_refl _, Nat.le_refl _⟩ (Nat.le_of_ble_eq_true rfl) rfl (c_X7_comesGame eq7) ?_
        refine aw_goto (tgt := 148) dX7_games_129 (by decide) ?_
        have hq := Option.some.inj hf
        subst hq
        exact aw_iret hr dX7_games_148 ⟨rfl, rfl, rfl⟩
    · have hf := i_pos c3 hf
      exact aw_sub [0] rfl (c_X7_games_106 hr hf)
def f_X7_games (l0 : Nat) (l1 : Int32) (h0 : Hp) : Option (Int32 × Hp) :=
  (ck h0 l0 7).bind fun _ => (gI h0 l0 7 13).bind fun x1 => (gI h0 l0 7 14).bind fun x2 => (f_X7_whose l0 x1 x2 h0).bind fun q3 => (f_X7_next l0 q3.2).bind fun q4 => (f_X7_isName l0 q4.2).bind fun q5 => if q5.1 = 0 then (f_X7_games_55 l0 q5.2) else ((gI q5.2 l0 7 13).bind fun x7 => (gI q5.2 l0 7 14).bind fun x8 => (f_X7_whose l0 x7 x8 q5.2).bind fun q9 => if q9.1 < 0 then (f_X7_games_55 l0 q9.2) else ((gI q9.2 l0 7 13).bind fun x11 => (gI q9.2 l0 7 14).bind fun x12 => (f_X7_whose l0 x11 x12 q9.2).bind fun q13 => if q13.1 = q3.1 then (f_X7_games_55 l0 q13.2) else ((gI q13.2 l0 7 13).bind fun x15 => (gI q13.2 l0 7 14).bind fun x16 => (f_X7_whose l0 x15 x16 q13.2).bind fun q17 => if l1 = (2 : Int32) then ((f_X7_next l0 q17.2).bind fun q19 => (f_X7_number l0 (1 : Int32) (30 : Int32) q19.2).bind fun q20 => f_X7_games_94 l0 l1 q3.1 q17.1 q20.1 q20.2) else (f_X7_games_94 l0 l1 q3.1 q17.1 (0 : Int32) q17.2))))
set_option maxRecDepth 100000 in
set_option maxHeartbeats 4000000 in
theorem c_X7_games {l0 : Nat} {l1 : Int32} {h0 : Hp} {q : Int32 × Hp} (hf : f_X7_games l0 l1 h0 = some q) : Mt 5 yX7_games cX7_games 5 (some .int) [.ref l0, .int l1] h0 (some (.int q.1)) q.2 := by
  refine MtQ.of (by decide) (Nat.le_of_ble_eq_true rfl) (fun X adr hr hn => ?_)
  unfold f_X7_games at hf
  show AW X cX7_games 5 RX7 (rmd 5 0 0) (Qmet X 0 0 (Qe (some (.int q.1)) q.2 adr)) 0 0 adr h0 0 [(0, .ref l0), (1, .int l1)] []
  obtain ⟨u0, e0, hf⟩ := b_some hf
  refine aw_aload_n 0 dX7_games_0 rfl rfl ?_
  refine aw_aload_n 0 dX7_games_1 rfl rfl ?_
  obtain ⟨x1, ex1, hf⟩ := b_some hf
  refine aw_getI dX7_games_2 gfX7_146 ex1 ?_
  refine aw_aload_n 0 dX7_games_5 rfl rfl ?_
  obtain ⟨x2, ex2, hf⟩ := b_some hf
  refine aw_getI dX7_games_6 gfX7_149 ex2 ?_
  obtain ⟨q3, eq3, hf⟩ := b_some hf
  refine aw_cV (as := [.int x1, .int x2]) dX7_games_9 moX7_whose voX7_whose mlX7_173 (k_X7_whose eq3) rfl (rm_ok (by omega) (by decide)) ⟨Nat.le_refl _, Nat.le_refl _⟩ (Nat.le_of_ble_eq_true rfl) rfl (c_X7_whose eq3) ?_
  refine aw_istore_n (L' := [(2, .int q3.1), (0, .ref l0), (1, .int l1)]) dX7_games_12 rfl (by decide) rfl ?_
  refine aw_aload_n 1 dX7_games_13 rfl rfl ?_
  obtain ⟨q4, eq4, hf⟩ := b_some hf
  refine aw_cV0 (as := []) dX7_games_14 moX7_next voX7_next mlX7_164 (k_X7_next eq4) rfl (rm_ok (by omega) (by decide)) ⟨Nat.le_refl _, Nat.le_refl _⟩ (Nat.le_of_ble_eq_true rfl) rfl (c_X7_next eq4) ?_
  refine aw_aload_n 1 dX7_games_17 rfl rfl ?_
  obtain ⟨q5, eq5, hf⟩ := b_some hf
  refine aw_cV (as := []) dX7_games_18 moX7_isName voX7_isName mlX7_170 (k_X7_isName eq5) rfl (rm_ok (by omega) (by decide)) ⟨Nat.le_refl _, Nat.le_refl _⟩ (Nat.le_of_ble_eq_true rfl) rfl (c_X7_isName eq5) ?_
  refine aw_if_eq (tgt := 55) dX7_games_21 (by decide) (fun c6 => ?_) (fun c6 => ?_)
  · have hf := i_pos c6 hf
    exact aw_sub [1] rfl (c_X7_games_55 hr hf)
  · have hf := i_neg c6 hf
    refine aw_aload_n 1 dX7_games_24 rfl rfl ?_
    refine aw_aload_n 1 dX7_games_25 rfl rfl ?_
    obtain ⟨x7, ex7, hf⟩ := b_some hf
    refine aw_getI dX7_games_26 gfX7_146 ex7 ?_
    refine aw_aload_n 1 dX7_games_29 rfl rfl ?_
    obtain ⟨x8, ex8, hf⟩ := b_some hf
    refine aw_getI dX7_games_30 gfX7_149 ex8 ?_
    obtain ⟨q9, eq9, hf⟩ := b_some hf
    refine aw_cV (as := [.int x7, .int x8]) dX7_games_33 moX7_whose voX7_whose mlX7_173 (k_X7_whose eq9) rfl (rm_ok (by omega) (by decide)) ⟨Nat.le_refl _, Nat.le_refl _⟩ (Nat.le_of_ble_eq_true rfl) rfl (c_X7_whose eq9) ?_
    refine aw_if_lt (tgt := 55) dX7_games_36 (by decide) (fun c10 => ?_) (fun c10 => ?_)
    · have hf := i_pos c10 hf
      exact aw_sub [1] rfl (c_X7_games_55 hr hf)
    · have hf := i_neg c10 hf
      refine aw_aload_n 1 dX7_games_39 rfl rfl ?_
      refine aw_aload_n 1 dX7_games_40 rfl rfl ?_
      obtain ⟨x11, ex11, hf⟩ := b_some hf
      refine aw_getI dX7_games_41 gfX7_146 ex11 ?_
      refine aw_aload_n 1 dX7_games_44 rfl rfl ?_
      obtain ⟨x12, ex12, hf⟩ := b_some hf
      refine aw_getI dX7_games_45 gfX7_149 ex12 ?_
      obtain ⟨q13, eq13, hf⟩ := b_some hf
      refine aw_cV (as := [.int x11, .int x12]) dX7_games_48 moX7_whose voX7_whose mlX7_173 (k_X7_whose eq13) rfl (rm_ok (by omega) (by decide)) ⟨Nat.le_refl _, Nat.le_refl _⟩ (Nat.le_of_ble_eq_true rfl) rfl (c_X7_whose eq13) ?_
      refine aw_iload_n 0 dX7_games_51 rfl rfl ?_
      refine aw_icmp_ne (tgt := 60) dX7_games_52 (by decide) (fun c14 => ?_) (fun c14 => ?_)
      · have hf := i_neg c14 hf
        refine aw_aload_n 1 dX7_games_60 rfl rfl ?_
        refine aw_aload_n 1 dX7_games_61 rfl rfl ?_
        obtain ⟨x15, ex15, hf⟩ := b_some hf
        refine aw_getI dX7_games_62 gfX7_146 ex15 ?_
        refine aw_aload_n 1 dX7_games_65 rfl rfl ?_
        obtain ⟨x16, ex16, hf⟩ := b_some hf
        refine aw_getI dX7_games_66 gfX7_149 ex16 ?_
        obtain ⟨q17, eq17, hf⟩ := b_some hf
        refine aw_cV (as := [.int x15, .int x16]) dX7_games_69 moX7_whose voX7_whose mlX7_173 (k_X7_whose eq17) rfl (rm_ok (by omega) (by decide)) ⟨Nat.le_refl _, Nat.le_refl _⟩ (Nat.le_of_ble_eq_true rfl) rfl (c_X7_whose eq17) ?_
        refine aw_istore_n (L' := [(3, .int q17.1), (2, .int q3.1), (0, .ref l0), (1, .int l1)]) dX7_games_72 rfl (by decide) rfl ?_
        refine aw_iconst (v := 0) dX7_games_73 (by decide) ?_
        refine aw_istore (L' := [(4, .int (0 : Int32)), (3, .int q17.1), (2, .int q3.1), (0, .ref l0), (1, .int l1)]) dX7_games_74 (by decide) rfl ?_
        refine aw_iload_n 4 dX7_games_76 rfl rfl ?_
        refine aw_iconst (v := 2) dX7_games_77 (by decide) ?_
        refine aw_icmp_ne (tgt := 94) dX7_games_78 (by decide) (fun c18 => ?_) (fun c18 => ?_)
        · have hf := i_neg c18 hf
          exact aw_sub [3, 4, 2, 1, 0] rfl (c_X7_games_94 hr hf)
        · have hf := i_pos c18 hf
          refine aw_aload_n 3 dX7_games_81 rfl rfl ?_
          obtain ⟨q19, eq19, hf⟩ := b_some hf
          refine aw_cV0 (as := []) dX7_games_82 moX7_next voX7_next mlX7_164 (k_X7_next eq19) rfl (rm_ok (by omega) (by decide)) ⟨Nat.le_refl _, Nat.le_refl _⟩ (Nat.le_of_ble_eq_true rfl) rfl (c_X7_next eq19) ?_
          refine aw_aload_n 3 dX7_games_85 rfl rfl ?_
          refine aw_iconst (v := 1) dX7_games_86 (by decide) ?_
          refine aw_bipush (v := 30) dX7_games_87 (by decide) ?_
          obtain ⟨q20, eq20, hf⟩ := b_some hf
          refine aw_cV (as := [.int (1 : Int32), .int (30 : Int32)]) dX7_games_89 moX7_number voX7_number mlX7_189 (k_X7_number eq20) rfl (rm_ok (by omega) (by decide)) ⟨Nat.le_refl _, Nat.le_refl _⟩ (Nat.le_of_ble_eq_true rfl) rfl (c_X7_number eq20) ?_
          refine aw_istore (L' := [(4, .int q20.1), (3, .int q17.1), (2, .int q3.1), (0, .ref l0), (1, .int l1)]) dX7_games_92 (by decide) rfl ?_
          exact aw_sub [3, 4, 2, 1, 0] rfl (c_X7_games_94 hr hf)
      · have hf := i_pos c14 hf
        exact aw_sub [1] rfl (c_X7_games_55 hr hf)
theorem k_X7_games {l0 : Nat} {l1 : Int32} {h0 : Hp} {q : Int32 × Hp} (hf : f_X7_games l0 l1 h0 = some q) : ck h0 l0 7 = some () := by
  unfold f_X7_games at hf
  obtain ⟨u0, e0, hf⟩ := b_some hf
  exact e0
theorem dX7_looksWith_0 : decode cX7_looksWith 0 = .ok (.aload_n 0, 1) := by decide +kernel
theorem dX7_looksWith_1 : decode cX7_looksWith 1 = .ok (.invokevirtual 61, 3) := by decide +kernel
theorem dX7_looksWith_4 : decode cX7_looksWith 4 = .ok (.aload_n 0, 1) := by decide +kernel
theorem dX7_looksWith_5 : decode cX7_looksWith 5 = .ok (.getfield 16, 3) := by decide +kernel
theorem dX7_looksWith_8 : decode cX7_looksWith 8 = .ok (.iload_n 1, 1) := by decide +kernel
theorem dX7_looksWith_9 : decode cX7_looksWith 9 = .ok (.iload_n 2, 1) := by decide +kernel
theorem dX7_looksWith_10 : decode cX7_looksWith 10 = .ok (.iastore, 1) := by decide +kernel
theorem dX7_looksWith_11 : decode cX7_looksWith 11 = .ok (.aload_n 0, 1) := by decide +kernel
theorem dX7_looksWith_12 : decode cX7_looksWith 12 = .ok (.invokevirtual 58, 3) := by decide +kernel
theorem dX7_looksWith_15 : decode cX7_looksWith 15 = .ok (.return_, 1) := by decide +kernel
def f_X7_looksWith (l0 : Nat) (l1 : Int32) (l2 : Int32) (h0 : Hp) : Option (Unit × Hp) :=
  (ck h0 l0 7).bind fun _ => (f_X7_looks l0 h0).bind fun q1 => (gR q1.2 l0 7 3).bind fun r2 => (aS q1.2 r2 l1 l2).bind fun h3 => (f_X7_counts l0 h3).bind fun q4 => some ((), q4.2)
set_option maxRecDepth 100000 in
set_option maxHeartbeats 4000000 in
theorem c_X7_looksWith {l0 : Nat} {l1 : Int32} {l2 : Int32} {h0 : Hp} {q : Unit × Hp} (hf : f_X7_looksWith l0 l1 l2 h0 = some q) : Mt 5 yX7_looksWith cX7_looksWith 3 none [.ref l0, .int l1, .int l2] h0 none q.2 := by
  refine MtQ.of (by decide) (Nat.le_of_ble_eq_true rfl) (fun X adr hr hn => ?_)
  unfold f_X7_looksWith at hf
  show AW X cX7_looksWith 3 RX7 (rmd 5 0 0) (Qmet X 0 0 (Qe none q.2 adr)) 0 0 adr h0 0 [(0, .ref l0), (1, .int l1), (2, .int l2)] []
  obtain ⟨u0, e0, hf⟩ := b_some hf
  refine aw_aload_n 0 dX7_looksWith_0 rfl rfl ?_
  obtain ⟨q1, eq1, hf⟩ := b_some hf
  refine aw_cV0 (as := []) dX7_looksWith_1 moX7_looks voX7_looks mlX7_61 (k_X7_looks eq1) rfl (rm_ok (by omega) (by decide)) ⟨Nat.le_refl _, Nat.le_refl _⟩ (Nat.le_of_ble_eq_true rfl) rfl (c_X7_looks eq1) ?_
  refine aw_aload_n 0 dX7_looksWith_4 rfl rfl ?_
  obtain ⟨r2, er2, hf⟩ := b_some hf
  refine aw_getR dX7_looksWith_5 gfX7_16 er2 ?_
  refine aw_iload_n 1 dX7_looksWith_8 rfl rfl ?_
  refine aw_iload_n 2 dX7_looksWith_9 rfl rfl ?_
  obtain ⟨h3, eh3, hf⟩ := b_some hf
  refine aw_iast dX7_looksWith_10 eh3 ?_
  refine aw_aload_n 0 dX7_looksWith_11 rfl rfl ?_
  obtain ⟨q4, eq4, hf⟩ := b_some hf
  refine aw_cV0 (as := []) dX7_looksWith_12 moX7_counts voX7_counts mlX7_58 (k_X7_counts eq4) rfl (rm_ok (by omega) (by decide)) ⟨Nat.le_refl _, Nat.le_refl _⟩ (Nat.le_of_ble_eq_true rfl) rfl (c_X7_counts eq4) ?_
  have hq := Option.some.inj hf
  subst hq
  exact aw_vret hr dX7_looksWith_15 ⟨rfl, rfl, rfl⟩
theorem k_X7_looksWith {l0 : Nat} {l1 : Int32} {l2 : Int32} {h0 : Hp} {q : Unit × Hp} (hf : f_X7_looksWith l0 l1 l2 h0 = some q) : ck h0 l0 7 = some () := by
  unfold f_X7_looksWith at hf
  obtain ⟨u0, e0, hf⟩ := b_some hf
  exact e0
theorem dX7_help_0 : decode cX7_help 0 = .ok (.aload_n 0, 1) := by decide +kernel
theorem dX7_help_1 : decode cX7_help 1 = .ok (.iload_n 1, 1) := by decide +kernel
theorem dX7_help_2 : decode cX7_help 2 = .ok (.invokevirtual 205, 3) := by decide +kernel
theorem dX7_help_5 : decode cX7_help 5 = .ok (.ifCond .eq 11, 3) := by decide +kernel
theorem dX7_help_8 : decode cX7_help 8 = .ok (.aload_n 0, 1) := by decide +kernel
theorem dX7_help_9 : decode cX7_help 9 = .ok (.iload_n 2, 1) := by decide +kernel
theorem dX7_help_10 : decode cX7_help 10 = .ok (.invokevirtual 202, 3) := by decide +kernel
theorem dX7_help_13 : decode cX7_help 13 = .ok (.ifCond .ne 6, 3) := by decide +kernel
theorem dX7_help_16 : decode cX7_help 16 = .ok (.bipush (-2), 2) := by decide +kernel
theorem dX7_help_18 : decode cX7_help 18 = .ok (.ireturn, 1) := by decide +kernel
theorem dX7_help_19 : decode cX7_help 19 = .ok (.aload_n 0, 1) := by decide +kernel
theorem dX7_help_20 : decode cX7_help 20 = .ok (.getfield 9, 3) := by decide +kernel
theorem dX7_help_23 : decode cX7_help 23 = .ok (.bipush 78, 2) := by decide +kernel
theorem dX7_help_25 : decode cX7_help 25 = .ok (.iload_n 2, 1) := by decide +kernel
theorem dX7_help_26 : decode cX7_help 26 = .ok (.iadd, 1) := by decide +kernel
theorem dX7_help_27 : decode cX7_help 27 = .ok (.iaload, 1) := by decide +kernel
theorem dX7_help_28 : decode cX7_help 28 = .ok (.iconst (-1), 1) := by decide +kernel
theorem dX7_help_29 : decode cX7_help 29 = .ok (.if_icmp .eq 6, 3) := by decide +kernel
theorem dX7_help_32 : decode cX7_help 32 = .ok (.bipush (-3), 2) := by decide +kernel
theorem dX7_help_34 : decode cX7_help 34 = .ok (.ireturn, 1) := by decide +kernel
theorem dX7_help_35 : decode cX7_help 35 = .ok (.iconst 0, 1) := by decide +kernel
theorem dX7_help_36 : decode cX7_help 36 = .ok (.istore_n 3, 1) := by decide +kernel
theorem dX7_help_37 : decode cX7_help 37 = .ok (.iconst 0, 1) := by decide +kernel
theorem dX7_help_38 : decode cX7_help 38 = .ok (.istore 4, 2) := by decide +kernel
theorem dX7_help_40 : decode cX7_help 40 = .ok (.iload 4, 2) := by decide +kernel
theorem dX7_help_42 : decode cX7_help 42 = .ok (.aload_n 0, 1) := by decide +kernel
theorem dX7_help_43 : decode cX7_help 43 = .ok (.invokevirtual 98, 3) := by decide +kernel
theorem dX7_help_46 : decode cX7_help 46 = .ok (.if_icmp .ge 42, 3) := by decide +kernel
theorem dX7_help_49 : decode cX7_help 49 = .ok (.aload_n 0, 1) := by decide +kernel
theorem dX7_help_50 : decode cX7_help 50 = .ok (.iload_n 2, 1) := by decide +kernel
theorem dX7_help_51 : decode cX7_help 51 = .ok (.iload 4, 2) := by decide +kernel
theorem dX7_help_53 : decode cX7_help 53 = .ok (.invokestatic 105, 3) := by decide +kernel
theorem dX7_help_56 : decode cX7_help 56 = .ok (.invokevirtual 228, 3) := by decide +kernel
theorem dX7_help_59 : decode cX7_help 59 = .ok (.iload_n 3, 1) := by decide +kernel
theorem dX7_help_60 : decode cX7_help 60 = .ok (.aload_n 0, 1) := by decide +kernel
theorem dX7_help_61 : decode cX7_help 61 = .ok (.iload_n 1, 1) := by decide +kernel
theorem dX7_help_62 : decode cX7_help 62 = .ok (.iconst 0, 1) := by decide +kernel
theorem dX7_help_63 : decode cX7_help 63 = .ok (.invokevirtual 114, 3) := by decide +kernel
theorem dX7_help_66 : decode cX7_help 66 = .ok (.ifCond .eq 13, 3) := by decide +kernel
theorem dX7_help_69 : decode cX7_help 69 = .ok (.iconst 1, 1) := by decide +kernel
theorem dX7_help_70 : decode cX7_help 70 = .ok (.iload 4, 2) := by decide +kernel
theorem dX7_help_72 : decode cX7_help 72 = .ok (.invokestatic 105, 3) := by decide +kernel
theorem dX7_help_75 : decode cX7_help 75 = .ok (.ishl, 1) := by decide +kernel
theorem dX7_help_76 : decode cX7_help 76 = .ok (.goto 4, 3) := by decide +kernel
theorem dX7_help_79 : decode cX7_help 79 = .ok (.iconst 0, 1) := by decide +kernel
theorem dX7_help_80 : decode cX7_help 80 = .ok (.ior, 1) := by decide +kernel
theorem dX7_help_81 : decode cX7_help 81 = .ok (.istore_n 3, 1) := by decide +kernel
theorem dX7_help_82 : decode cX7_help 82 = .ok (.iinc 4 1, 3) := by decide +kernel
theorem dX7_help_85 : decode cX7_help 85 = .ok (.goto (-45), 3) := by decide +kernel
theorem dX7_help_88 : decode cX7_help 88 = .ok (.iload_n 3, 1) := by decide +kernel
theorem dX7_help_89 : decode cX7_help 89 = .ok (.ireturn, 1) := by decide +kernel
def f_X7_help_40 (k40 : Nat × Int32 × Int32 × Int32 × Int32 → Hp → Option (Int32 × Hp)) (v : Nat × Int32 × Int32 × Int32 × Int32) (h0 : Hp) : Option (Int32 × Hp) :=
  match v with
  | (l0, l1, l2, l3, l4) => (f_X7_results l0 h0).bind fun q1 => if q1.1 ≤ l4 then (some (l3, q1.2)) else ((f_X7_resultAt l4 q1.2).bind fun q3 => (f_X7_looksWith l0 l2 q3.1 q3.2).bind fun q4 => (f_X7_isInNow l0 l1 (0 : Int32) q4.2).bind fun q5 => if q5.1 = 0 then ((some (l3 ||| (0 : Int32))).bind fun x7 => (some (l4 + 1)).bind fun x8 => k40 (l0, l1, l2, x7, x8) q5.2) else ((f_X7_resultAt l4 q5.2).bind fun q9 => (some (l3 ||| ((1 : Int32) <<< (q9.1 &&& 31)))).bind fun x10 => (some (l4 + 1)).bind fun x11 => k40 (l0, l1, l2, x10, x11) q9.2))
set_option maxRecDepth 100000 in
set_option maxHeartbeats 4000000 in
theorem c_X7_help_40 {X : Cx} {adr : Nat → Nat} {q : Int32 × Hp} (hr : (mth X).sig.returnType = (some .int)) (n : Nat) : ∀ v h0, lp (f_X7_help_40) n v h0 = some q → AW X cX7_help 5 RX7 (rmd 16 0 0) (Qmet X 0 0 (Qe (some (.int q.1)) q.2 adr)) 0 0 adr h0 40 [(0, .ref v.1), (1, .int v.2.1), (2, .int v.2.2.1), (3, .int v.2.2.2.1), (4, .int v.2.2.2.2)] [] := by
  refine aw_lp (fun k40 hk40 v h0 hf => ?_) n
  obtain ⟨l0, l1, l2, l3, l4⟩ := v
  unfold f_X7_help_40 at hf
  dsimp only at hf
  show AW X cX7_help 5 RX7 (rmd 16 0 0) (Qmet X 0 0 (Qe (some (.int q.1)) q.2 adr)) 0 0 adr h0 40 [(0, .ref l0), (1, .int l1), (2, .int l2), (3, .int l3), (4, .int l4)] []
  refine aw_iload 4 dX7_help_40 rfl ?_
  refine aw_aload_n 0 dX7_help_42 rfl rfl ?_
  obtain ⟨q1, eq1, hf⟩ := b_some hf
  refine aw_cV (as := []) dX7_help_43 moX7_results voX7_results mlX7_98 (k_X7_results eq1) rfl (rm_ok (by omega) (by decide)) ⟨Nat.le_refl _, Nat.le_refl _⟩ (Nat.le_of_ble_eq_true rfl) rfl (c_X7_results eq1) ?_
  refine aw_icmp_ge (tgt := 88) dX7_help_46 (by decide) (fun c2 => ?_) (fun c2 => ?_)
  · have hf := i_pos c2 hf
    refine aw_iload_n 3 dX7_help_88 rfl rfl ?_
    have hq := Option.some.inj hf
    subst hq
    exact aw_iret hr dX7_help_89 ⟨rfl, rfl, rfl⟩
  · have hf := i_neg c2 hf
    refine aw_aload_n 0 dX7_help_49 rfl rfl ?_
    refine aw_iload_n 2 dX7_help_50 rfl rfl ?_
    refine aw_iload 4 dX7_help_51 rfl ?_
    obtain ⟨q3, eq3, hf⟩ := b_some hf
    refine aw_cS (as := [.int l4]) dX7_help_53 moX7_resultAt soX7_resultAt mlX7_105 (rm_ok (by omega) (by decide)) ⟨Nat.le_refl _, Nat.le_refl _⟩ (Nat.le_of_ble_eq_true rfl) rfl (c_X7_resultAt eq3) ?_
    obtain ⟨q4, eq4, hf⟩ := b_some hf
    refine aw_cV0 (as := [.int l2, .int q3.1]) dX7_help_56 moX7_looksWith voX7_looksWith mlX7_228 (k_X7_looksWith eq4) rfl (rm_ok (by omega) (by decide)) ⟨Nat.le_refl _, Nat.le_refl _⟩ (Nat.le_of_ble_eq_true rfl) rfl (c_X7_looksWith eq4) ?_
    refine aw_iload_n 3 dX7_help_59 rfl rfl ?_
    refine aw_aload_n 0 dX7_help_60 rfl rfl ?_
    refine aw_iload_n 1 dX7_help_61 rfl rfl ?_
    refine aw_iconst (v := 0) dX7_help_62 (by decide) ?_
    obtain ⟨q5, eq5, hf⟩ := b_some hf
    refine aw_cV (as := [.int l1, .int (0 : Int32)]) dX7_help_63 moX7_isInNow voX7_isInNow mlX7_114 (k_X7_isInNow eq5) rfl (rm_ok (by omega) (by decide)) ⟨Nat.le_refl _, Nat.le_refl _⟩ (Nat.le_of_ble_eq_true rfl) rfl (c_X7_isInNow eq5) ?_
    refine aw_if_eq (tgt := 79) dX7_help_66 (by decide) (fun c6 => ?_) (fun c6 => ?_)
    · have hf := i_pos c6 hf
      refine aw_iconst (v := 0) dX7_help_79 (by decide) ?_
      refine aw_ior dX7_help_80 ?_
      obtain ⟨x7, ex7, hf⟩ := b_some hf
      refine aw_nm ex7 ?_
      refine aw_istore_n (L' := [(3, .int x7), (0, .ref l0), (1, .int l1), (2, .int l2), (4, .int l4)]) dX7_help_81 rfl (by decide) rfl ?_
      obtain ⟨x8, ex8, hf⟩ := b_some hf
      refine aw_iinc (v := x8) (L' := [(4, .int x8), (3, .int x7), (0, .ref l0), (1, .int l1), (2, .int l2)]) 4 dX7_help_82 rfl (Option.some.inj ex8) (by decide) rfl ?_
      refine aw_goto (tgt := 40) dX7_help_85 (by decide) ?_
      exact aw_sub [2, 3, 4, 1, 0] rfl (hk40 _ _ hf)
    · have hf := i_neg c6 hf
      refine aw_iconst (v := 1) dX7_help_69 (by decide) ?_
      refine aw_iload 4 dX7_help_70 rfl ?_
      obtain ⟨q9, eq9, hf⟩ := b_some hf
      refine aw_cS (as := [.int l4]) dX7_help_72 moX7_resultAt soX7_resultAt mlX7_105 (rm_ok (by omega) (by decide)) ⟨Nat.le_refl _, Nat.le_refl _⟩ (Nat.le_of_ble_eq_true rfl) rfl (c_X7_resultAt eq9) ?_
      refine aw_ishl dX7_help_75 ?_
      refine aw_goto (tgt := 80) dX7_help_76 (by decide) ?_
      refine aw_ior dX7_help_80 ?_
      obtain ⟨x10, ex10, hf⟩ := b_some hf
      refine aw_nm ex10 ?_
      refine aw_istore_n (L' := [(3, .int x10), (0, .ref l0), (1, .int l1), (2, .int l2), (4, .int l4)]) dX7_help_81 rfl (by decide) rfl ?_
      obtain ⟨x11, ex11, hf⟩ := b_some hf
      refine aw_iinc (v := x11) (L' := [(4, .int x11), (3, .int x10), (0, .ref l0), (1, .int l1), (2, .int l2)]) 4 dX7_help_82 rfl (Option.some.inj ex11) (by decide) rfl ?_
      refine aw_goto (tgt := 40) dX7_help_85 (by decide) ?_
      exact aw_sub [2, 3, 4, 1, 0] rfl (hk40 _ _ hf)
def f_X7_help (l0 : Nat) (l1 : Int32) (l2 : Int32) (h0 : Hp) : Option (Int32 × Hp) :=
  (ck h0 l0 7).bind fun _ => (f_X7_isTeam l0 l1 h0).bind fun q1 => if q1.1 = 0 then (some ((-2 : Int32), q1.2)) else ((f_X7_isGame l0 l2 q1.2).bind fun q3 => if q3.1 = 0 then (some ((-2 : Int32), q3.2)) else ((gR q3.2 l0 7 0).bind fun r5 => (aL q3.2 r5 ((78 : Int32) + l2)).bind fun x6 => if x6 = (-1 : Int32) then (lp (f_X7_help_40) 600 (l0, l1, l2, (0 : Int32), (0 : Int32)) q3.2) else (some ((-3 : Int32), q3.2))))
set_option maxRecDepth 100000 in
set_option maxHeartbeats 4000000 in
theorem c_X7_help {l0 : Nat} {l1 : Int32} {l2 : Int32} {h0 : Hp} {q : Int32 × Hp} (hf : f_X7_help l0 l1 l2 h0 = some q) : Mt 16 yX7_help cX7_help 5 (some .int) [.ref l0, .int l1, .int l2] h0 (some (.int q.1)) q.2 := by
  refine MtQ.of (by decide) (Nat.le_of_ble_eq_true rfl) (fun X adr hr hn => ?_)
  unfold f_X7_help at hf
  show AW X cX7_help 5 RX7 (rmd 16 0 0) (Qmet X 0 0 (Qe (some (.int q.1)) q.2 adr)) 0 0 adr h0 0 [(0, .ref l0), (1, .int l1), (2, .int l2)] []
  obtain ⟨u0, e0, hf⟩ := b_some hf
  refine aw_aload_n 0 dX7_help_0 rfl rfl ?_
  refine aw_iload_n 1 dX7_help_1 rfl rfl ?_
  obtain ⟨q1, eq1, hf⟩ := b_some hf
  refine aw_cV (as := [.int l1]) dX7_help_2 moX7_isTeam voX7_isTeam mlX7_205 (k_X7_isTeam eq1) rfl (rm_ok (by omega) (by decide)) ⟨Nat.le_refl _, Nat.le_refl _⟩ (Nat.le_of_ble_eq_true rfl) rfl (c_X7_isTeam eq1) ?_
  refine aw_if_eq (tgt := 16) dX7_help_5 (by decide) (fun c2 => ?_) (fun c2 => ?_)
  · have hf := i_pos c2 hf
    refine aw_bipush (v := -2) dX7_help_16 (by decide) ?_
    have hq := Option.some.inj hf
    subst hq
    exact aw_iret hr dX7_help_18 ⟨rfl, rfl, rfl⟩
  · have hf := i_neg c2 hf
    refine aw_aload_n 0 dX7_help_8 rfl rfl ?_
    refine aw_iload_n 2 dX7_help_9 rfl rfl ?_
    obtain ⟨q3, eq3, hf⟩ := b_some hf
    refine aw_cV (as := [.int l2]) dX7_help_10 moX7_isGame voX7_isGame mlX7_202 (k_X7_isGame eq3) rfl (rm_ok (by omega) (by decide)) ⟨Nat.le_refl _, Nat.le_refl _⟩ (Nat.le_of_ble_eq_true rfl) rfl (c_X7_isGame eq3) ?_
    refine aw_if_ne (tgt := 19) dX7_help_13 (by decide) (fun c4 => ?_) (fun c4 => ?_)
    · have hf := i_neg c4 hf
      refine aw_aload_n 0 dX7_help_19 rfl rfl ?_
      obtain ⟨r5, er5, hf⟩ := b_some hf
      refine aw_getR dX7_help_20 gfX7_9 er5 ?_
      refine aw_bipush (v := 78) dX7_help_23 (by decide) ?_
      refine aw_iload_n 2 dX7_help_25 rfl rfl ?_
      refine aw_iadd dX7_help_26 ?_
      obtain ⟨x6, ex6, hf⟩ := b_some hf
      refine aw_iald dX7_help_27 ex6 ?_
      refine aw_iconst (v := -1) dX7_help_28 (by decide) ?_
      refine aw_icmp_eq (tgt := 35) dX7_help_29 (by decide) (fun c7 => ?_) (fun c7 => ?_)
      · have hf := i_pos c7 hf
        refine aw_iconst (v := 0) dX7_help_35 (by decide) ?_
        refine aw_istore_n (L' := [(3, .int (0 : Int32)), (0, .ref l0), (1, .int l1), (2, .int l2)]) dX7_help_36 rfl (by decide) rfl ?_
        refine aw_iconst (v := 0) dX7_help_37 (by decide) ?_
        refine aw_istore (L' := [(4, .int (0 : Int32)), (3, .int (0 : Int32)), (0, .ref l0), (1, .int l1), (2, .int l2)]) dX7_help_38 (by decide) rfl ?_
        exact aw_sub [2, 3, 4, 1, 0] rfl (c_X7_help_40 hr 600 _ _ hf)
      · have hf := i_neg c7 hf
        refine aw_bipush (v := -3) dX7_help_32 (by decide) ?_
        have hq := Option.some.inj hf
        subst hq
        exact aw_iret hr dX7_help_34 ⟨rfl, rfl, rfl⟩
    · have hf := i_pos c4 hf
      refine aw_bipush (v := -2) dX7_help_16 (by decide) ?_
      have hq := Option.some.inj hf
      subst hq
      exact aw_iret hr dX7_help_18 ⟨rfl, rfl, rfl⟩
theorem k_X7_help {l0 : Nat} {l1 : Int32} {l2 : Int32} {h0 : Hp} {q : Int32 × Hp} (hf : f_X7_help l0 l1 l2 h0 = some q) : ck h0 l0 7 = some () := by
  unfold f_X7_help at hf
  obtain ⟨u0, e0, hf⟩ := b_some hf
  exact e0
