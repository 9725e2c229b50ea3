theorem dX6_between_0 : decode cX6_between 0 = .ok (.aload_n 0, 1) := by decide +kernel
theorem dX6_between_1 : decode cX6_between 1 = .ok (.getfield 19, 3) := by decide +kernel
theorem dX6_between_4 : decode cX6_between 4 = .ok (.iload_n 1, 1) := by decide +kernel
theorem dX6_between_5 : decode cX6_between 5 = .ok (.invokevirtual 102, 3) := by decide +kernel
theorem dX6_between_8 : decode cX6_between 8 = .ok (.ifCond .eq 19, 3) := by decide +kernel
theorem dX6_between_11 : decode cX6_between 11 = .ok (.aload_n 0, 1) := by decide +kernel
theorem dX6_between_12 : decode cX6_between 12 = .ok (.getfield 19, 3) := by decide +kernel
theorem dX6_between_15 : decode cX6_between 15 = .ok (.iload_n 2, 1) := by decide +kernel
theorem dX6_between_16 : decode cX6_between 16 = .ok (.invokevirtual 102, 3) := by decide +kernel
theorem dX6_between_19 : decode cX6_between 19 = .ok (.ifCond .eq 8, 3) := by decide +kernel
theorem dX6_between_22 : decode cX6_between 22 = .ok (.iload_n 1, 1) := by decide +kernel
theorem dX6_between_23 : decode cX6_between 23 = .ok (.iload_n 2, 1) := by decide +kernel
theorem dX6_between_24 : decode cX6_between 24 = .ok (.if_icmp .ne 6, 3) := by decide +kernel
theorem dX6_between_27 : decode cX6_between 27 = .ok (.bipush (-2), 2) := by decide +kernel
theorem dX6_between_29 : decode cX6_between 29 = .ok (.ireturn, 1) := by decide +kernel
theorem dX6_between_30 : decode cX6_between 30 = .ok (.iconst 0, 1) := by decide +kernel
theorem dX6_between_31 : decode cX6_between 31 = .ok (.istore_n 3, 1) := by decide +kernel
theorem dX6_between_32 : decode cX6_between 32 = .ok (.iconst 0, 1) := by decide +kernel
theorem dX6_between_33 : decode cX6_between 33 = .ok (.istore 4, 2) := by decide +kernel
theorem dX6_between_35 : decode cX6_between 35 = .ok (.iload 4, 2) := by decide +kernel
theorem dX6_between_37 : decode cX6_between 37 = .ok (.aload_n 0, 1) := by decide +kernel
theorem dX6_between_38 : decode cX6_between 38 = .ok (.getfield 19, 3) := by decide +kernel
theorem dX6_between_41 : decode cX6_between 41 = .ok (.getfield 135, 3) := by decide +kernel
theorem dX6_between_44 : decode cX6_between 44 = .ok (.if_icmp .ge 30, 3) := by decide +kernel
theorem dX6_between_47 : decode cX6_between 47 = .ok (.aload_n 0, 1) := by decide +kernel
theorem dX6_between_48 : decode cX6_between 48 = .ok (.getfield 19, 3) := by decide +kernel
theorem dX6_between_51 : decode cX6_between 51 = .ok (.iload 4, 2) := by decide +kernel
theorem dX6_between_53 : decode cX6_between 53 = .ok (.iload_n 1, 1) := by decide +kernel
theorem dX6_between_54 : decode cX6_between 54 = .ok (.invokevirtual 138, 3) := by decide +kernel
theorem dX6_between_57 : decode cX6_between 57 = .ok (.iload_n 2, 1) := by decide +kernel
theorem dX6_between_58 : decode cX6_between 58 = .ok (.if_icmp .ne 10, 3) := by decide +kernel
theorem dX6_between_61 : decode cX6_between 61 = .ok (.iload_n 3, 1) := by decide +kernel
theorem dX6_between_62 : decode cX6_between 62 = .ok (.iconst 1, 1) := by decide +kernel
theorem dX6_between_63 : decode cX6_between 63 = .ok (.iload 4, 2) := by decide +kernel
theorem dX6_between_65 : decode cX6_between 65 = .ok (.ishl, 1) := by decide +kernel
theorem dX6_between_66 : decode cX6_between 66 = .ok (.ior, 1) := by decide +kernel
theorem dX6_between_67 : decode cX6_between 67 = .ok (.istore_n 3, 1) := by decide +kernel
theorem dX6_between_68 : decode cX6_between 68 = .ok (.iinc 4 1, 3) := by decide +kernel
theorem dX6_between_71 : decode cX6_between 71 = .ok (.goto (-36), 3) := by decide +kernel
theorem dX6_between_74 : decode cX6_between 74 = .ok (.iload_n 3, 1) := by decide +kernel
theorem dX6_between_75 : decode cX6_between 75 = .ok (.ireturn, 1) := by decide +kernel
def f_X6_between_35 (k35 : Nat × Int32 × Int32 × Int32 × Int32 → Hp → Option (Int32 × Hp)) (v : Nat × Int32 × Int32 × Int32 × Int32) (h0 : Hp) : Option (Int32 × Hp) :=
  match v with
  | (l0, l1, l2, l3, l4) => (gR h0 l0 6 1).bind fun r1 => (gI h0 r1 0 1).bind fun x2 => if x2 ≤ l4 then (some (l3, h0)) else ((gR h0 l0 6 1).bind fun r4 => (f_X0_foe r4 l4 l1 h0).bind fun q5 => if q5.1 = l2 then ((some (l3 ||| ((1 : Int32) <<< (l4 &&& 31)))).bind fun x8 => (some (l4 + 1)).bind fun x9 => k35 (l0, l1, l2, x8, x9) q5.2) else ((some (l4 + 1)).bind fun x7 => k35 (l0, l1, l2, l3, x7) q5.2))
set_option maxRecDepth 100000 in
set_option maxHeartbeats 4000000 in
theorem c_X6_between_35 {X : Cx} {adr : Nat → Nat} {q : Int32 × Hp} (hr : (mth X).sig.returnType = (some .int)) (n : Nat) : ∀ v h0, lp (f_X6_between_35) n v h0 = some q → AW X cX6_between 5 RX6 (rmd 2 0 0) (Qmet X 0 0 (Qe (some (.int q.1)) q.2 adr)) 0 0 adr h0 35 [(0, .ref v.1), (1, .int v.2.1), (2, .int v.2.2.1), (3, .int v.2.2.2.1), (4, .int v.2.2.2.2)] [] := by
  refine aw_lp (fun k35 hk35 v h0 hf => ?_) n
  obtain ⟨l0, l1, l2, l3, l4⟩ := v
  unfold f_X6_between_35 at hf
  dsimp only at hf
  show AW X cX6_between 5 RX6 (rmd 2 0 0) (Qmet X 0 0 (Qe (some (.int q.1)) q.2 adr)) 0 0 adr h0 35 [(0, .ref l0), (1, .int l1), (2, .int l2), (3, .int l3), (4, .int l4)] []
  refine aw_iload 4 dX6_between_35 rfl ?_
  refine aw_aload_n 0 dX6_between_37 rfl rfl ?_
  obtain ⟨r1, er1, hf⟩ := b_some hf
  refine aw_getR dX6_between_38 gfX6_19 er1 ?_
  obtain ⟨x2, ex2, hf⟩ := b_some hf
  refine aw_getI dX6_between_41 gfX6_135 ex2 ?_
  refine aw_icmp_ge (tgt := 74) dX6_between_44 (by decide) (fun c3 => ?_) (fun c3 => ?_)
  · have hf := i_pos c3 hf
    refine aw_iload_n 3 dX6_between_74 rfl rfl ?_
    have hq := Option.some.inj hf
    subst hq
    exact aw_iret hr dX6_between_75 ⟨rfl, rfl, rfl⟩
  · have hf := i_neg c3 hf
    refine aw_aload_n 0 dX6_between_47 rfl rfl ?_
    obtain ⟨r4, er4, hf⟩ := b_some hf
    refine aw_getR dX6_between_48 gfX6_19 er4 ?_
    refine aw_iload 4 dX6_between_51 rfl ?_
    refine aw_iload_n 1 dX6_between_53 rfl rfl ?_
    obtain ⟨q5, eq5, hf⟩ := b_some hf
    refine aw_cV (as := [.int l4, .int l1]) dX6_between_54 moX0_foe voX0_foe mlX6_138 (k_X0_foe eq5) rfl (rm_ok (by omega) (by decide)) ⟨Nat.le_refl _, Nat.le_refl _⟩ (Nat.le_of_ble_eq_true rfl) rfl (c_X0_foe eq5) ?_
    refine aw_iload_n 2 dX6_between_57 rfl rfl ?_
    refine aw_icmp_ne (tgt := 68) dX6_between_58 (by decide) (fun c6 => ?_) (fun c6 => ?_)
    · have hf := i_neg c6 hf
      obtain ⟨x7, ex7, hf⟩ := b_some hf
      refine aw_iinc (v := x7) (L' := [(4, .int x7), (0, .ref l0), (1, .int l1), (2, .int l2), (3, .int l3)]) 4 dX6_between_68 rfl (Option.some.inj ex7) (by decide) rfl ?_
      refine aw_goto (tgt := 35) dX6_between_71 (by decide) ?_
      exact aw_sub [1, 2, 3, 4, 0] rfl (hk35 _ _ hf)
    · have hf := i_pos c6 hf
      refine aw_iload_n 3 dX6_between_61 rfl rfl ?_
      refine aw_iconst (v := 1) dX6_between_62 (by decide) ?_
      refine aw_iload 4 dX6_between_63 rfl ?_
      refine aw_ishl dX6_between_65 ?_
      refine aw_ior dX6_between_66 ?_
      obtain ⟨x8, ex8, hf⟩ := b_some hf
      refine aw_nm ex8 ?_
      refine aw_istore_n (L' := [(3, .int x8), (0, .ref l0), (1, .int l1), (2, .int l2), (4, .int l4)]) dX6_between_67 rfl (by decide) rfl ?_
      obtain ⟨x9, ex9, hf⟩ := b_some hf
      refine aw_iinc (v := x9) (L' := [(4, .int x9), (3, .int x8), (0, .ref l0), (1, .int l1), (2, .int l2)]) 4 dX6_between_68 rfl (Option.some.inj ex9) (by decide) rfl ?_
      refine aw_goto (tgt := 35) dX6_between_71 (by decide) ?_
      exact aw_sub [2, 3, 4, 1, 0] rfl (hk35 _ _ hf)
def f_X6_between (l0 : Nat) (l1 : Int32) (l2 : Int32) (h0 : Hp) : Option (Int32 × Hp) :=
  (ck h0 l0 6).bind fun _ => (gR h0 l0 6 1).bind fun r1 => (f_X0_hasTeam r1 l1 h0).bind fun q2 => if q2.1 = 0 then (some ((-2 : Int32), q2.2)) else ((gR q2.2 l0 6 1).bind fun r4 => (f_X0_hasTeam r4 l2 q2.2).bind fun q5 => if q5.1 = 0 then (some ((-2 : Int32), q5.2)) else (if l1 = l2 then (some ((-2 : Int32), q5.2)) else (lp (f_X6_between_35) 600 (l0, l1, l2, (0 : Int32), (0 : Int32)) q5.2)))
set_option maxRecDepth 100000 in
set_option maxHeartbeats 4000000 in
theorem c_X6_between {l0 : Nat} {l1 : Int32} {l2 : Int32} {h0 : Hp} {q : Int32 × Hp} (hf : f_X6_between l0 l1 l2 h0 = some q) : Mt 2 yX6_between cX6_between 5 (some .int) [.ref l0, .int l1, .int l2] h0 (some (.int q.1)) q.2 := by
  refine MtQ.of (by decide) (Nat.le_of_ble_eq_true rfl) (fun X adr hr hn => ?_)
  unfold f_X6_between at hf
  show AW X cX6_between 5 RX6 (rmd 2 0 0) (Qmet X 0 0 (Qe (some (.int q.1)) q.2 adr)) 0 0 adr h0 0 [(0, .ref l0), (1, .int l1), (2, .int l2)] []
  obtain ⟨u0, e0, hf⟩ := b_some hf
  refine aw_aload_n 0 dX6_between_0 rfl rfl ?_
  obtain ⟨r1, er1, hf⟩ := b_some hf
  refine aw_getR dX6_between_1 gfX6_19 er1 ?_
  refine aw_iload_n 1 dX6_between_4 rfl rfl ?_
  obtain ⟨q2, eq2, hf⟩ := b_some hf
  refine aw_cV (as := [.int l1]) dX6_between_5 moX0_hasTeam voX0_hasTeam mlX6_102 (k_X0_hasTeam eq2) rfl (rm_ok (by omega) (by decide)) ⟨Nat.le_refl _, Nat.le_refl _⟩ (Nat.le_of_ble_eq_true rfl) rfl (c_X0_hasTeam eq2) ?_
  refine aw_if_eq (tgt := 27) dX6_between_8 (by decide) (fun c3 => ?_) (fun c3 => ?_)
  · have hf := i_pos c3 hf
    refine aw_bipush (v := -2) dX6_between_27 (by decide) ?_
    have hq := Option.some.inj hf
    subst hq
    exact aw_iret hr dX6_between_29 ⟨rfl, rfl, rfl⟩
  · have hf := i_neg c3 hf
    refine aw_aload_n 0 dX6_between_11 rfl rfl ?_
    obtain ⟨r4, er4, hf⟩ := b_some hf
    refine aw_getR dX6_between_12 gfX6_19 er4 ?_
    refine aw_iload_n 2 dX6_between_15 rfl rfl ?_
    obtain ⟨q5, eq5, hf⟩ := b_some hf
    refine aw_cV (as := [.int l2]) dX6_between_16 moX0_hasTeam voX0_hasTeam mlX6_102 (k_X0_hasTeam eq5) rfl (rm_ok (by omega) (by decide)) ⟨Nat.le_refl _, Nat.le_refl _⟩ (Nat.le_of_ble_eq_true rfl) rfl (c_X0_hasTeam eq5) ?_
    refine aw_if_eq (tgt := 27) dX6_between_19 (by decide) (fun c6 => ?_) (fun c6 => ?_)
    · have hf := i_pos c6 hf
      refine aw_bipush (v := -2) dX6_between_27 (by decide) ?_
      have hq := Option.some.inj hf
      subst hq
      exact aw_iret hr dX6_between_29 ⟨rfl, rfl, rfl⟩
    · have hf := i_neg c6 hf
      refine aw_iload_n 1 dX6_between_22 rfl rfl ?_
      refine aw_iload_n 2 dX6_between_23 rfl rfl ?_
      refine aw_icmp_ne (tgt := 30) dX6_between_24 (by decide) (fun c7 => ?_) (fun c7 => ?_)
      · have hf := i_neg c7 hf
        refine aw_iconst (v := 0) dX6_between_30 (by decide) ?_
        refine aw_istore_n (L' := [(3, .int (0 : Int32)), (0, .ref l0), (1, .int l1), (2, .int l2)]) dX6_between_31 rfl (by decide) rfl ?_
        refine aw_iconst (v := 0) dX6_between_32 (by decide) ?_
        refine aw_istore (L' := [(4, .int (0 : Int32)), (3, .int (0 : Int32)), (0, .ref l0), (1, .int l1), (2, .int l2)]) dX6_between_33 (by decide) rfl ?_
        exact aw_sub [2, 3, 4, 1, 0] rfl (c_X6_between_35 hr 600 _ _ hf)
      · have hf := i_pos c7 hf
        refine aw_bipush (v := -2) dX6_between_27 (by decide) ?_
        have hq := Option.some.inj hf
        subst hq
        exact aw_iret hr dX6_between_29 ⟨rfl, rfl, rfl⟩
theorem k_X6_between {l0 : Nat} {l1 : Int32} {l2 : Int32} {h0 : Hp} {q : Int32 × Hp} (hf : f_X6_between l0 l1 l2 h0 = some q) : ck h0 l0 6 = some () := by
  unfold f_X6_between at hf
  obtain ⟨u0, e0, hf⟩ := b_some hf
  exact e0
theorem dX6_commonDivisor_0 : decode cX6_commonDivisor 0 = .ok (.iload_n 0, 1) := by decide +kernel
theorem dX6_commonDivisor_1 : decode cX6_commonDivisor 1 = .ok (.istore_n 2, 1) := by decide +kernel
theorem dX6_commonDivisor_2 : decode cX6_commonDivisor 2 = .ok (.iload_n 1, 1) := by decide +kernel
theorem dX6_commonDivisor_3 : decode cX6_commonDivisor 3 = .ok (.istore_n 3, 1) := by decide +kernel
theorem dX6_commonDivisor_4 : decode cX6_commonDivisor 4 = .ok (.iconst 0, 1) := by decide +kernel
theorem dX6_commonDivisor_5 : decode cX6_commonDivisor 5 = .ok (.istore 4, 2) := by decide +kernel
theorem dX6_commonDivisor_7 : decode cX6_commonDivisor 7 = .ok (.iload 4, 2) := by decide +kernel
theorem dX6_commonDivisor_9 : decode cX6_commonDivisor 9 = .ok (.bipush 40, 2) := by decide +kernel
theorem dX6_commonDivisor_11 : decode cX6_commonDivisor 11 = .ok (.if_icmp .ge 23, 3) := by decide +kernel
theorem dX6_commonDivisor_14 : decode cX6_commonDivisor 14 = .ok (.iload_n 3, 1) := by decide +kernel
theorem dX6_commonDivisor_15 : decode cX6_commonDivisor 15 = .ok (.ifCond .le 19, 3) := by decide +kernel
theorem dX6_commonDivisor_18 : decode cX6_commonDivisor 18 = .ok (.iload_n 2, 1) := by decide +kernel
theorem dX6_commonDivisor_19 : decode cX6_commonDivisor 19 = .ok (.iload_n 3, 1) := by decide +kernel
theorem dX6_commonDivisor_20 : decode cX6_commonDivisor 20 = .ok (.irem, 1) := by decide +kernel
theorem dX6_commonDivisor_21 : decode cX6_commonDivisor 21 = .ok (.istore 5, 2) := by decide +kernel
theorem dX6_commonDivisor_23 : decode cX6_commonDivisor 23 = .ok (.iload_n 3, 1) := by decide +kernel
theorem dX6_commonDivisor_24 : decode cX6_commonDivisor 24 = .ok (.istore_n 2, 1) := by decide +kernel
theorem dX6_commonDivisor_25 : decode cX6_commonDivisor 25 = .ok (.iload 5, 2) := by decide +kernel
theorem dX6_commonDivisor_27 : decode cX6_commonDivisor 27 = .ok (.istore_n 3, 1) := by decide +kernel
theorem dX6_commonDivisor_28 : decode cX6_commonDivisor 28 = .ok (.iinc 4 1, 3) := by decide +kernel
theorem dX6_commonDivisor_31 : decode cX6_commonDivisor 31 = .ok (.goto (-24), 3) := by decide +kernel
theorem dX6_commonDivisor_34 : decode cX6_commonDivisor 34 = .ok (.iload_n 2, 1) := by decide +kernel
theorem dX6_commonDivisor_35 : decode cX6_commonDivisor 35 = .ok (.ireturn, 1) := by decide +kernel
def f_X6_commonDivisor_7 (k7 : Int32 × Int32 × Int32 → Hp → Option (Int32 × Hp)) (v : Int32 × Int32 × Int32) (h0 : Hp) : Option (Int32 × Hp) :=
  match v with
  | (l2, l3, l4) => if (40 : Int32) ≤ l4 then (some (l2, h0)) else (if l3 ≤ 0 then (some (l2, h0)) else (if l3 = 0 then none else (some (l2 - l2 / l3 * l3)).bind fun x4 => (some (l4 + 1)).bind fun x5 => k7 (l3, x4, x5) h0))
set_option maxRecDepth 100000 in
set_option maxHeartbeats 4000000 in
theorem c_X6_commonDivisor_7 {X : Cx} {adr : Nat → Nat} {q : Int32 × Hp} (hr : (mth X).sig.returnType = (some .int)) (n : Nat) : ∀ v h0, lp (f_X6_commonDivisor_7) n v h0 = some q → AW X cX6_commonDivisor 6 RX6 (rmd 1 0 0) (Qmet X 0 0 (Qe (some (.int q.1)) q.2 adr)) 0 0 adr h0 7 [(2, .int v.1), (3, .int v.2.1), (4, .int v.2.2)] [] := by
  refine aw_lp (fun k7 hk7 v h0 hf => ?_) n
  obtain ⟨l2, l3, l4⟩ := v
  unfold f_X6_commonDivisor_7 at hf
  dsimp only at hf
  show AW X cX6_commonDivisor 6 RX6 (rmd 1 0 0) (Qmet X 0 0 (Qe (some (.int q.1)) q.2 adr)) 0 0 adr h0 7 [(2, .int l2), (3, .int l3), (4, .int l4)] []
  refine aw_iload 2 dX6_commonDivisor_7 rfl ?_
  refine aw_bipush (v := 40) dX6_commonDivisor_9 (by decide) ?_
  refine aw_icmp_ge (tgt := 34) dX6_commonDivisor_11 (by decide) (fun c1 => ?_) (fun c1 => ?_)
  · have hf := i_pos c1 hf
    refine aw_iload_n 0 dX6_commonDivisor_34 rfl rfl ?_
    have hq := Option.some.inj hf
    subst hq
    exact aw_iret hr dX6_commonDivisor_35 ⟨rfl, rfl, rfl⟩
  · have hf := i_neg c1 hf
    refine aw_iload_n 1 dX6_commonDivisor_14 rfl rfl ?_
    refine aw_if_le (tgt := 34) dX6_commonDivisor_15 (by decide) (fun c2 => ?_) (fun c2 => ?_)
    · have hf := i_pos c2 hf
      refine aw_iload_n 0 dX6_commonDivisor_34 rfl rfl ?_
      have hq := Option.some.inj hf
      subst hq
      exact aw_iret hr dX6_commonDivisor_35 ⟨rfl, rfl, rfl⟩
    · have hf := i_neg c2 hf
      refine aw_iload_n 0 dX6_commonDivisor_18 rfl rfl ?_
      refine aw_iload_n 1 dX6_commonDivisor_19 rfl rfl ?_
      by_cases z3 : l3 = 0
      · exact absurd (i_pos z3 hf) (by simp)
      have hf := i_neg z3 hf
      refine aw_irem dX6_commonDivisor_20 z3 ?_
      obtain ⟨x4, ex4, hf⟩ := b_some hf
      refine aw_nm ex4 ?_
      refine aw_istore (L' := [(5, .int x4), (2, .int l2), (3, .int l3), (4, .int l4)]) dX6_commonDivisor_21 (by decide) rfl ?_
      refine aw_iload_n 2 dX6_commonDivisor_23 rfl rfl ?_
      refine aw_istore_n (L' := [(2, .int l3), (5, .int x4), (3, .int l3), (4, .int l4)]) dX6_commonDivisor_24 rfl (by decide) rfl ?_
      refine aw_iload 1 dX6_commonDivisor_25 rfl ?_
      refine aw_istore_n (L' := [(3, .int x4), (2, .int l3), (5, .int x4), (4, .int l4)]) dX6_commonDivisor_27 rfl (by decide) rfl ?_
      obtain ⟨x5, ex5, hf⟩ := b_some hf
      refine aw_iinc (v := x5) (L' := [(4, .int x5), (3, .int x4), (2, .int l3), (5, .int x4)]) 3 dX6_commonDivisor_28 rfl (Option.some.inj ex5) (by decide) rfl ?_
      refine aw_goto (tgt := 7) dX6_commonDivisor_31 (by decide) ?_
      exact aw_sub [2, 1, 0] rfl (hk7 _ _ hf)
def f_X6_commonDivisor (l0 : Int32) (l1 : Int32) (h0 : Hp) : Option (Int32 × Hp) :=
  lp (f_X6_commonDivisor_7) 600 (l0, l1, (0 : Int32)) h0
set_option maxRecDepth 100000 in
set_option maxHeartbeats 4000000 in
theorem c_X6_commonDivisor {l0 : Int32} {l1 : Int32} {h0 : Hp} {q : Int32 × Hp} (hf : f_X6_commonDivisor l0 l1 h0 = some q) : Mt 1 yX6_commonDivisor cX6_commonDivisor 6 (some .int) [.int l0, .int l1] h0 (some (.int q.1)) q.2 := by
  refine MtQ.of (by decide) (Nat.le_of_ble_eq_true rfl) (fun X adr hr hn => ?_)
  unfold f_X6_commonDivisor at hf
  show AW X cX6_commonDivisor 6 RX6 (rmd 1 0 0) (Qmet X 0 0 (Qe (some (.int q.1)) q.2 adr)) 0 0 adr h0 0 [(0, .int l0), (1, .int l1)] []
  refine aw_iload_n 0 dX6_commonDivisor_0 rfl rfl ?_
  refine aw_istore_n (L' := [(2, .int l0), (0, .int l0), (1, .int l1)]) dX6_commonDivisor_1 rfl (by decide) rfl ?_
  refine aw_iload_n 2 dX6_commonDivisor_2 rfl rfl ?_
  refine aw_istore_n (L' := [(3, .int l1), (2, .int l0), (0, .int l0), (1, .int l1)]) dX6_commonDivisor_3 rfl (by decide) rfl ?_
  refine aw_iconst (v := 0) dX6_commonDivisor_4 (by decide) ?_
  refine aw_istore (L' := [(4, .int (0 : Int32)), (3, .int l1), (2, .int l0), (0, .int l0), (1, .int l1)]) dX6_commonDivisor_5 (by decide) rfl ?_
  exact aw_sub [2, 1, 0] rfl (c_X6_commonDivisor_7 hr 600 _ _ hf)
theorem dX6_drawInto_0 : decode cX6_drawInto 0 = .ok (.aload_n 0, 1) := by decide +kernel
theorem dX6_drawInto_1 : decode cX6_drawInto 1 = .ok (.getfield 19, 3) := by decide +kernel
theorem dX6_drawInto_4 : decode cX6_drawInto 4 = .ok (.aload_n 0, 1) := by decide +kernel
theorem dX6_drawInto_5 : decode cX6_drawInto 5 = .ok (.getfield 50, 3) := by decide +kernel
theorem dX6_drawInto_8 : decode cX6_drawInto 8 = .ok (.invokevirtual 321, 3) := by decide +kernel
theorem dX6_drawInto_11 : decode cX6_drawInto 11 = .ok (.aload_n 0, 1) := by decide +kernel
theorem dX6_drawInto_12 : decode cX6_drawInto 12 = .ok (.getfield 19, 3) := by decide +kernel
theorem dX6_drawInto_15 : decode cX6_drawInto 15 = .ok (.invokevirtual 200, 3) := by decide +kernel
theorem dX6_drawInto_18 : decode cX6_drawInto 18 = .ok (.istore_n 2, 1) := by decide +kernel
theorem dX6_drawInto_19 : decode cX6_drawInto 19 = .ok (.iload_n 1, 1) := by decide +kernel
theorem dX6_drawInto_20 : decode cX6_drawInto 20 = .ok (.istore_n 3, 1) := by decide +kernel
theorem dX6_drawInto_21 : decode cX6_drawInto 21 = .ok (.iconst 0, 1) := by decide +kernel
theorem dX6_drawInto_22 : decode cX6_drawInto 22 = .ok (.istore 4, 2) := by decide +kernel
theorem dX6_drawInto_24 : decode cX6_drawInto 24 = .ok (.iload 4, 2) := by decide +kernel
theorem dX6_drawInto_26 : decode cX6_drawInto 26 = .ok (.aload_n 0, 1) := by decide +kernel
theorem dX6_drawInto_27 : decode cX6_drawInto 27 = .ok (.getfield 19, 3) := by decide +kernel
theorem dX6_drawInto_30 : decode cX6_drawInto 30 = .ok (.getfield 135, 3) := by decide +kernel
theorem dX6_drawInto_33 : decode cX6_drawInto 33 = .ok (.if_icmp .ge 58, 3) := by decide +kernel
theorem dX6_drawInto_36 : decode cX6_drawInto 36 = .ok (.aload_n 0, 1) := by decide +kernel
theorem dX6_drawInto_37 : decode cX6_drawInto 37 = .ok (.getfield 19, 3) := by decide +kernel
theorem dX6_drawInto_40 : decode cX6_drawInto 40 = .ok (.iload 4, 2) := by decide +kernel
theorem dX6_drawInto_42 : decode cX6_drawInto 42 = .ok (.invokevirtual 96, 3) := by decide +kernel
theorem dX6_drawInto_45 : decode cX6_drawInto 45 = .ok (.ifCond .ne 6, 3) := by decide +kernel
theorem dX6_drawInto_48 : decode cX6_drawInto 48 = .ok (.goto 37, 3) := by decide +kernel
theorem dX6_drawInto_51 : decode cX6_drawInto 51 = .ok (.iload_n 3, 1) := by decide +kernel
theorem dX6_drawInto_52 : decode cX6_drawInto 52 = .ok (.ldc_w 332, 3) := by decide +kernel
theorem dX6_drawInto_55 : decode cX6_drawInto 55 = .ok (.imul, 1) := by decide +kernel
theorem dX6_drawInto_56 : decode cX6_drawInto 56 = .ok (.sipush 12345, 3) := by decide +kernel
theorem dX6_drawInto_59 : decode cX6_drawInto 59 = .ok (.iadd, 1) := by decide +kernel
theorem dX6_drawInto_60 : decode cX6_drawInto 60 = .ok (.istore_n 3, 1) := by decide +kernel
theorem dX6_drawInto_61 : decode cX6_drawInto 61 = .ok (.aload_n 0, 1) := by decide +kernel
theorem dX6_drawInto_62 : decode cX6_drawInto 62 = .ok (.getfield 19, 3) := by decide +kernel
theorem dX6_drawInto_65 : decode cX6_drawInto 65 = .ok (.aload_n 0, 1) := by decide +kernel
theorem dX6_drawInto_66 : decode cX6_drawInto 66 = .ok (.getfield 50, 3) := by decide +kernel
theorem dX6_drawInto_69 : decode cX6_drawInto 69 = .ok (.iload 4, 2) := by decide +kernel
theorem dX6_drawInto_71 : decode cX6_drawInto 71 = .ok (.iload_n 2, 1) := by decide +kernel
theorem dX6_drawInto_72 : decode cX6_drawInto 72 = .ok (.iload_n 3, 1) := by decide +kernel
theorem dX6_drawInto_73 : decode cX6_drawInto 73 = .ok (.bipush 9, 2) := by decide +kernel
theorem dX6_drawInto_75 : decode cX6_drawInto 75 = .ok (.iushr, 1) := by decide +kernel
theorem dX6_drawInto_76 : decode cX6_drawInto 76 = .ok (.iconst 3, 1) := by decide +kernel
theorem dX6_drawInto_77 : decode cX6_drawInto 77 = .ok (.iload_n 2, 1) := by decide +kernel
theorem dX6_drawInto_78 : decode cX6_drawInto 78 = .ok (.isub, 1) := by decide +kernel
theorem dX6_drawInto_79 : decode cX6_drawInto 79 = .ok (.irem, 1) := by decide +kernel
theorem dX6_drawInto_80 : decode cX6_drawInto 80 = .ok (.iadd, 1) := by decide +kernel
theorem dX6_drawInto_81 : decode cX6_drawInto 81 = .ok (.iconst 1, 1) := by decide +kernel
theorem dX6_drawInto_82 : decode cX6_drawInto 82 = .ok (.invokevirtual 333, 3) := by decide +kernel
theorem dX6_drawInto_85 : decode cX6_drawInto 85 = .ok (.iinc 4 1, 3) := by decide +kernel
theorem dX6_drawInto_88 : decode cX6_drawInto 88 = .ok (.goto (-64), 3) := by decide +kernel
theorem dX6_drawInto_91 : decode cX6_drawInto 91 = .ok (.return_, 1) := by decide +kernel
def f_X6_drawInto_24 (k24 : Nat × Int32 × Int32 × Int32 → Hp → Option (Unit × Hp)) (v : Nat × Int32 × Int32 × Int32) (h0 : Hp) : Option (Unit × Hp) :=
  match v with
  | (l0, l2, l3, l4) => (gR h0 l0 6 1).bind fun r1 => (gI h0 r1 0 1).bind fun x2 => if x2 ≤ l4 then (some ((), h0)) else ((gR h0 l0 6 1).bind fun r4 => (f_X0_isLeft r4 l4 h0).bind fun q5 => if q5.1 = 0 then ((some (l4 + 1)).bind fun x13 => k24 (l0, l2, l3, x13) q5.2) else ((some ((l3 * (1103515245 : Int32)) + (12345 : Int32))).bind fun x7 => (gR q5.2 l0 6 1).bind fun r8 => (gR q5.2 l0 6 8).bind fun r9 => if ((3 : Int32) - l2) = 0 then none else (f_X0_award r8 r9 l4 (l2 + ((ushr x7 (9 : Int32)) - (ushr x7 (9 : Int32)) / ((3 : Int32) - l2) * ((3 : Int32) - l2))) (1 : Int32) q5.2).bind fun q11 => (some (l4 + 1)).bind fun x12 => k24 (l0, l2, x7, x12) q11.2))
set_option maxRecDepth 100000 in
set_option maxHeartbeats 4000000 in
theorem c_X6_drawInto_24 {X : Cx} {adr : Nat → Nat} {q : Unit × Hp} (hr : (mth X).sig.returnType = none) (n : Nat) : ∀ v h0, lp (f_X6_drawInto_24) n v h0 = some q → AW X cX6_drawInto 5 RX6 (rmd 3 0 0) (Qmet X 0 0 (Qe none q.2 adr)) 0 0 adr h0 24 [(0, .ref v.1), (2, .int v.2.1), (3, .int v.2.2.1), (4, .int v.2.2.2)] [] := by
  refine aw_lp (fun k24 hk24 v h0 hf => ?_) n
  obtain ⟨l0, l2, l3, l4⟩ := v
  unfold f_X6_drawInto_24 at hf
  dsimp only at hf
  show AW X cX6_drawInto 5 RX6 (rmd 3 0 0) (Qmet X 0 0 (Qe none q.2 adr)) 0 0 adr h0 24 [(0, .ref l0), (2, .int l2), (3, .int l3), (4, .int l4)] []
  refine aw_iload 3 dX6_drawInto_24 rfl ?_
  refine aw_aload_n 0 dX6_drawInto_26 rfl rfl ?_
  obtain ⟨r1, er1, hf⟩ := b_some hf
  refine aw_getR dX6_drawInto_27 gfX6_19 er1 ?_
  obtain ⟨x2, ex2, hf⟩ := b_some hf
  refine aw_getI dX6_drawInto_30 gfX6_135 ex2 ?_
  refine aw_icmp_ge (tgt := 91) dX6_drawInto_33 (by decide) (fun c3 => ?_) (fun c3 => ?_)
  · have hf := i_pos c3 hf
    have hq := Option.some.inj hf
    subst hq
    exact aw_vret hr dX6_drawInto_91 ⟨rfl, rfl, rfl⟩
  · have hf := i_neg c3 hf
    refine aw_aload_n 0 dX6_drawInto_36 rfl rfl ?_
    obtain ⟨r4, er4, hf⟩ := b_some hf
    refine aw_getR dX6_drawInto_37 gfX6_19 er4 ?_
    refine aw_iload 3 dX6_drawInto_40 rfl ?_
    obtain ⟨q5, eq5, hf⟩ := b_some hf
    refine aw_cV (as := [.int l4]) dX6_drawInto_42 moX0_isLeft voX0_isLeft mlX6_96 (k_X0_isLeft eq5) rfl (rm_ok (by omega) (by decide)) ⟨Nat.le_refl _, Nat.le_refl _⟩ (Nat.le_of_ble_eq_true rfl) rfl (c_X0_isLeft eq5) ?_
    refine aw_if_ne (tgt := 51) dX6_drawInto_45 (by decide) (fun c6 => ?_) (fun c6 => ?_)
    · have hf := i_neg c6 hf
      refine aw_iload_n 2 dX6_drawInto_51 rfl rfl ?_
      refine aw_ldcw dX6_drawInto_52 kcX6_332 ?_
      refine aw_imul dX6_drawInto_55 ?_
      refine aw_sipush (v := 12345) dX6_drawInto_56 (by decide) ?_
      refine aw_iadd dX6_drawInto_59 ?_
      obtain ⟨x7, ex7, hf⟩ := b_some hf
      refine aw_nm ex7 ?_
      refine aw_istore_n (L' := [(3, .int x7), (0, .ref l0), (2, .int l2), (4, .int l4)]) dX6_drawInto_60 rfl (by decide) rfl ?_
      refine aw_aload_n 1 dX6_drawInto_61 rfl rfl ?_
      obtain ⟨r8, er8, hf⟩ := b_some hf
      refine aw_getR dX6_drawInto_62 gfX6_19 er8 ?_
      refine aw_aload_n 1 dX6_drawInto_65 rfl rfl ?_
      obtain ⟨r9, er9, hf⟩ := b_some hf
      refine aw_getR dX6_drawInto_66 gfX6_50 er9 ?_
      refine aw_iload 3 dX6_drawInto_69 rfl ?_
      refine aw_iload_n 2 dX6_drawInto_71 rfl rfl ?_
      refine aw_iload_n 0 dX6_drawInto_72 rfl rfl ?_
      refine aw_bipush (v := 9) dX6_drawInto_73 (by decide) ?_
      refine aw_iushr dX6_drawInto_75 ?_
      refine aw_iconst (v := 3) dX6_drawInto_76 (by decide) ?_
      refine aw_iload_n 2 dX6_drawInto_77 rfl rfl ?_
      refine aw_isub dX6_drawInto_78 ?_
      by_cases z10 : ((3 : Int32) - l2) = 0
      · exact absurd (i_pos z10 hf) (by simp)
      have hf := i_neg z10 hf
      refine aw_irem dX6_drawInto_79 z10 ?_
      refine aw_iadd dX6_drawInto_80 ?_
      refine aw_iconst (v := 1) dX6_drawInto_81 (by decide) ?_
      obtain ⟨q11, eq11, hf⟩ := b_some hf
      refine aw_cV0 (as := [.ref r9, .int l4, .int (l2 + ((ushr x7 (9 : Int32)) - (ushr x7 (9 : Int32)) / ((3 : Int32) - l2) * ((3 : Int32) - l2))), .int (1 : Int32)]) dX6_drawInto_82 moX0_award voX0_award mlX6_333 (k_X0_award eq11) rfl (rm_ok (by omega) (by decide)) ⟨Nat.le_refl _, Nat.le_refl _⟩ (Nat.le_of_ble_eq_true rfl) rfl (c_X0_award eq11) ?_
      obtain ⟨x12, ex12, hf⟩ := b_some hf
      refine aw_iinc (v := x12) (L' := [(4, .int x12), (3, .int x7), (0, .ref l0), (2, .int l2)]) 3 dX6_drawInto_85 rfl (Option.some.inj ex12) (by decide) rfl ?_
      refine aw_goto (tgt := 24) dX6_drawInto_88 (by decide) ?_
      exact aw_sub [2, 3, 1, 0] rfl (hk24 _ _ hf)
    · have hf := i_pos c6 hf
      refine aw_goto (tgt := 85) dX6_drawInto_48 (by decide) ?_
      obtain ⟨x13, ex13, hf⟩ := b_some hf
      refine aw_iinc (v := x13) (L' := [(4, .int x13), (0, .ref l0), (2, .int l2), (3, .int l3)]) 3 dX6_drawInto_85 rfl (Option.some.inj ex13) (by decide) rfl ?_
      refine aw_goto (tgt := 24) dX6_drawInto_88 (by decide) ?_
      exact aw_sub [1, 2, 3, 0] rfl (hk24 _ _ hf)
def f_X6_drawInto (l0 : Nat) (l1 : Int32) (h0 : Hp) : Option (Unit × Hp) :=
  (ck h0 l0 6).bind fun _ => (gR h0 l0 6 1).bind fun r1 => (gR h0 l0 6 8).bind fun r2 => (f_X0_pointsInto r1 r2 h0).bind fun q3 => (gR q3.2 l0 6 1).bind fun r4 => (f_X0_firstResult r4 q3.2).bind fun q5 => lp (f_X6_drawInto_24) 600 (l0, q5.1, l1, (0 : Int32)) q5.2
set_option maxRecDepth 100000 in
set_option maxHeartbeats 4000000 in
theorem c_X6_drawInto {l0 : Nat} {l1 : Int32} {h0 : Hp} {q : Unit × Hp} (hf : f_X6_drawInto l0 l1 h0 = some q) : Mt 3 yX6_drawInto cX6_drawInto 5 none [.ref l0, .int l1] h0 none q.2 := by
  refine MtQ.of (by decide) (Nat.le_of_ble_eq_true rfl) (fun X adr hr hn => ?_)
  unfold f_X6_drawInto at hf
  show AW X cX6_drawInto 5 RX6 (rmd 3 0 0) (Qmet X 0 0 (Qe none q.2 adr)) 0 0 adr h0 0 [(0, .ref l0), (1, .int l1)] []
  obtain ⟨u0, e0, hf⟩ := b_some hf
  refine aw_aload_n 0 dX6_drawInto_0 rfl rfl ?_
  obtain ⟨r1, er1, hf⟩ := b_some hf
  refine aw_getR dX6_drawInto_1 gfX6_19 er1 ?_
  refine aw_aload_n 0 dX6_drawInto_4 rfl rfl ?_
  obtain ⟨r2, er2, hf⟩ := b_some hf
  refine aw_getR dX6_drawInto_5 gfX6_50 er2 ?_
  obtain ⟨q3, eq3, hf⟩ := b_some hf
  refine aw_cV0 (as := [.ref r2]) dX6_drawInto_8 moX0_pointsInto voX0_pointsInto mlX6_321 (k_X0_pointsInto eq3) rfl (rm_ok (by omega) (by decide)) ⟨Nat.le_refl _, Nat.le_refl _⟩ (Nat.le_of_ble_eq_true rfl) rfl (c_X0_pointsInto eq3) ?_
  refine aw_aload_n 0 dX6_drawInto_11 rfl rfl ?_
  obtain ⟨r4, er4, hf⟩ := b_some hf
  refine aw_getR dX6_drawInto_12 gfX6_19 er4 ?_
  obtain ⟨q5, eq5, hf⟩ := b_some hf
  refine aw_cV (as := []) dX6_drawInto_15 moX0_firstResult voX0_firstResult mlX6_200 (k_X0_firstResult eq5) rfl (rm_ok (by omega) (by decide)) ⟨Nat.le_refl _, Nat.le_refl _⟩ (Nat.le_of_ble_eq_true rfl) rfl (c_X0_firstResult eq5) ?_
  refine aw_istore_n (L' := [(2, .int q5.1), (0, .ref l0), (1, .int l1)]) dX6_drawInto_18 rfl (by decide) rfl ?_
  refine aw_iload_n 2 dX6_drawInto_19 rfl rfl ?_
  refine aw_istore_n (L' := [(3, .int l1), (2, .int q5.1), (0, .ref l0), (1, .int l1)]) dX6_drawInto_20 rfl (by decide) rfl ?_
  refine aw_iconst (v := 0) dX6_drawInto_21 (by decide) ?_
  refine aw_istore (L' := [(4, .int (0 : Int32)), (3, .int l1), (2, .int q5.1), (0, .ref l0), (1, .int l1)]) dX6_drawInto_22 (by decide) rfl ?_
  exact aw_sub [3, 2, 1, 0] rfl (c_X6_drawInto_24 hr 600 _ _ hf)
theorem k_X6_drawInto {l0 : Nat} {l1 : Int32} {h0 : Hp} {q : Unit × Hp} (hf : f_X6_drawInto l0 l1 h0 = some q) : ck h0 l0 6 = some () := by
  unfold f_X6_drawInto at hf
  obtain ⟨u0, e0, hf⟩ := b_some hf
  exact e0
theorem dX6_firstOf_0 : decode cX6_firstOf 0 = .ok (.iconst 0, 1) := by decide +kernel
theorem dX6_firstOf_1 : decode cX6_firstOf 1 = .ok (.istore_n 2, 1) := by decide +kernel
theorem dX6_firstOf_2 : decode cX6_firstOf 2 = .ok (.iconst 0, 1) := by decide +kernel
theorem dX6_firstOf_3 : decode cX6_firstOf 3 = .ok (.istore_n 3, 1) := by decide +kernel
theorem dX6_firstOf_4 : decode cX6_firstOf 4 = .ok (.iconst 0, 1) := by decide +kernel
theorem dX6_firstOf_5 : decode cX6_firstOf 5 = .ok (.istore 4, 2) := by decide +kernel
theorem dX6_firstOf_7 : decode cX6_firstOf 7 = .ok (.iload 4, 2) := by decide +kernel
theorem dX6_firstOf_9 : decode cX6_firstOf 9 = .ok (.iload_n 1, 1) := by decide +kernel
theorem dX6_firstOf_10 : decode cX6_firstOf 10 = .ok (.if_icmp .ge 50, 3) := by decide +kernel
theorem dX6_firstOf_13 : decode cX6_firstOf 13 = .ok (.iload 4, 2) := by decide +kernel
theorem dX6_firstOf_15 : decode cX6_firstOf 15 = .ok (.aload_n 0, 1) := by decide +kernel
theorem dX6_firstOf_16 : decode cX6_firstOf 16 = .ok (.arraylength, 1) := by decide +kernel
theorem dX6_firstOf_17 : decode cX6_firstOf 17 = .ok (.if_icmp .ge 43, 3) := by decide +kernel
theorem dX6_firstOf_20 : decode cX6_firstOf 20 = .ok (.iload_n 2, 1) := by decide +kernel
theorem dX6_firstOf_21 : decode cX6_firstOf 21 = .ok (.ifCond .eq 11, 3) := by decide +kernel
theorem dX6_firstOf_24 : decode cX6_firstOf 24 = .ok (.aload_n 0, 1) := by decide +kernel
theorem dX6_firstOf_25 : decode cX6_firstOf 25 = .ok (.iload 4, 2) := by decide +kernel
theorem dX6_firstOf_27 : decode cX6_firstOf 27 = .ok (.iaload, 1) := by decide +kernel
theorem dX6_firstOf_28 : decode cX6_firstOf 28 = .ok (.iload_n 3, 1) := by decide +kernel
theorem dX6_firstOf_29 : decode cX6_firstOf 29 = .ok (.if_icmp .le 10, 3) := by decide +kernel
theorem dX6_firstOf_32 : decode cX6_firstOf 32 = .ok (.iconst 0, 1) := by decide +kernel
theorem dX6_firstOf_33 : decode cX6_firstOf 33 = .ok (.istore_n 2, 1) := by decide +kernel
theorem dX6_firstOf_34 : decode cX6_firstOf 34 = .ok (.aload_n 0, 1) := by decide +kernel
theorem dX6_firstOf_35 : decode cX6_firstOf 35 = .ok (.iload 4, 2) := by decide +kernel
theorem dX6_firstOf_37 : decode cX6_firstOf 37 = .ok (.iaload, 1) := by decide +kernel
theorem dX6_firstOf_38 : decode cX6_firstOf 38 = .ok (.istore_n 3, 1) := by decide +kernel
theorem dX6_firstOf_39 : decode cX6_firstOf 39 = .ok (.aload_n 0, 1) := by decide +kernel
theorem dX6_firstOf_40 : decode cX6_firstOf 40 = .ok (.iload 4, 2) := by decide +kernel
theorem dX6_firstOf_42 : decode cX6_firstOf 42 = .ok (.iaload, 1) := by decide +kernel
theorem dX6_firstOf_43 : decode cX6_firstOf 43 = .ok (.iload_n 3, 1) := by decide +kernel
theorem dX6_firstOf_44 : decode cX6_firstOf 44 = .ok (.if_icmp .ne 10, 3) := by decide +kernel
theorem dX6_firstOf_47 : decode cX6_firstOf 47 = .ok (.iload_n 2, 1) := by decide +kernel
theorem dX6_firstOf_48 : decode cX6_firstOf 48 = .ok (.iconst 1, 1) := by decide +kernel
theorem dX6_firstOf_49 : decode cX6_firstOf 49 = .ok (.iload 4, 2) := by decide +kernel
theorem dX6_firstOf_51 : decode cX6_firstOf 51 = .ok (.ishl, 1) := by decide +kernel
theorem dX6_firstOf_52 : decode cX6_firstOf 52 = .ok (.ior, 1) := by decide +kernel
theorem dX6_firstOf_53 : decode cX6_firstOf 53 = .ok (.istore_n 2, 1) := by decide +kernel
theorem dX6_firstOf_54 : decode cX6_firstOf 54 = .ok (.iinc 4 1, 3) := by decide +kernel
theorem dX6_firstOf_57 : decode cX6_firstOf 57 = .ok (.goto (-50), 3) := by decide +kernel
theorem dX6_firstOf_60 : decode cX6_firstOf 60 = .ok (.iload_n 2, 1) := by decide +kernel
theorem dX6_firstOf_61 : decode cX6_firstOf 61 = .ok (.ireturn, 1) := by decide +kernel
def f_X6_firstOf_39 (k7 : Nat × Int32 × Int32 × Int32 × Int32 → Hp → Option (Int32 × Hp)) (l0 : Nat) (l1 : Int32) (l2 : Int32) (l3 : Int32) (l4 : Int32) (h0 : Hp) : Option (Int32 × Hp) :=
  (aL h0 l0 l4).bind fun x1 => if x1 = l3 then ((some (l2 ||| ((1 : Int32) <<< (l4 &&& 31)))).bind fun x4 => (some (l4 + 1)).bind fun x5 => k7 (l0, l1, x4, l3, x5) h0) else ((some (l4 + 1)).bind fun x3 => k7 (l0, l1, l2, l3, x3) h0)
set_option maxRecDepth 100000 in
set_option maxHeartbeats 4000000 in
theorem c_X6_firstOf_39 {X : Cx} {adr : Nat → Nat} {q : Int32 × Hp} (hr : (mth X).sig.returnType = (some .int)) {k7 : Nat × Int32 × Int32 × Int32 × Int32 → Hp → Option (Int32 × Hp)} (hk7 : ∀ v h, k7 v h = some q → AW X cX6_firstOf 5 RX6 (rmd 1 0 0) (Qmet X 0 0 (Qe (some (.int q.1)) q.2 adr)) 0 0 adr h 7 [(0, .ref v.1), (1, .int v.2.1), (2, .int v.2.2.1), (3, .int v.2.2.2.1), (4, .int v.2.2.2.2)] []) {l0 : Nat} {l1 : Int32} {l2 : Int32} {l3 : Int32} {l4 : Int32} {h0 : Hp} (hf : f_X6_firstOf_39 k7 l0 l1 l2 l3 l4 h0 = some q) : AW X cX6_firstOf 5 RX6 (rmd 1 0 0) (Qmet X 0 0 (Qe (some (.int q.1)) q.2 adr)) 0 0 adr h0 39 [(0, .ref l0), (1, .int l1), (2, .int l2), (3, .int l3), (4, .int l4)] [] := by
  unfold f_X6_firstOf_39 at hf
  refine aw_aload_n 0 dX6_firstOf_39 rfl rfl ?_
  refine aw_iload 4 dX6_firstOf_40 rfl ?_
  obtain ⟨x1, ex1, hf⟩ := b_some hf
  refine aw_iald dX6_firstOf_42 ex1 ?_
  refine aw_iload_n 3 dX6_firstOf_43 rfl rfl ?_
  refine aw_icmp_ne (tgt := 54) dX6_firstOf_44 (by decide) (fun c2 => ?_) (fun c2 => ?_)
  · have hf := i_neg c2 hf
    obtain ⟨x3, ex3, hf⟩ := b_some hf
    refine aw_iinc (v := x3) (L' := [(4, .int x3), (0, .ref l0), (1, .int l1), (2, .int l2), (3, .int l3)]) 4 dX6_firstOf_54 rfl (Option.some.inj ex3) (by decide) rfl ?_
    refine aw_goto (tgt := 7) dX6_firstOf_57 (by decide) ?_
    exact aw_sub [1, 2, 3, 4, 0] rfl (hk7 _ _ hf)
  · have hf := i_pos c2 hf
    refine aw_iload_n 2 dX6_firstOf_47 rfl rfl ?_
    refine aw_iconst (v := 1) dX6_firstOf_48 (by decide) ?_
    refine aw_iload 4 dX6_firstOf_49 rfl ?_
    refine aw_ishl dX6_firstOf_51 ?_
    refine aw_ior dX6_firstOf_52 ?_
    obtain ⟨x4, ex4, hf⟩ := b_some hf
    refine aw_nm ex4 ?_
    refine aw_istore_n (L' := [(2, .int x4), (0, .ref l0), (1, .int l1), (3, .int l3), (4, .int l4)]) dX6_firstOf_53 rfl (by decide) rfl ?_
    obtain ⟨x5, ex5, hf⟩ := b_some hf
    refine aw_iinc (v := x5) (L' := [(4, .int x5), (2, .int x4), (0, .ref l0), (1, .int l1), (3, .int l3)]) 4 dX6_firstOf_54 rfl (Option.some.inj ex5) (by decide) rfl ?_
    refine aw_goto (tgt := 7) dX6_firstOf_57 (by decide) ?_
    exact aw_sub [2, 3, 1, 4, 0] rfl (hk7 _ _ hf)
def f_X6_firstOf_32 (k7 : Nat × Int32 × Int32 × Int32 × Int32 → Hp → Option (Int32 × Hp)) (l0 : Nat) (l1 : Int32) (l4 : Int32) (h0 : Hp) : Option (Int32 × Hp) :=
  (aL h0 l0 l4).bind fun x1 => f_X6_firstOf_39 k7 l0 l1 (0 : Int32) x1 l4 h0
set_option maxRecDepth 100000 in
set_option maxHeartbeats 4000000 in
theorem c_X6_firstOf_32 {X : Cx} {adr : Nat → Nat} {q : Int32 × Hp} (hr : (mth X).sig.returnType = (some .int)) {k7 : Nat × Int32 × Int32 × Int32 × Int32 → Hp → Option (Int32 × Hp)} (hk7 : ∀ v h, k7 v h = some q → AW X cX6_firstOf 5 RX6 (rmd 1 0 0) (Qmet X 0 0 (Qe (some (.int q.1)) q.2 adr)) 0 0 adr h 7 [(0, .ref v.1), (1, .int v.2.1), (2, .int v.2.2.1), (3, .int v.2.2.2.1), (4, .int v.2.2.2.2)] []) {l0 : Nat} {l1 : Int32} {l4 : Int32} {h0 : Hp} (hf : f_X6_firstOf_32 k7 l0 l1 l4 h0 = some q) : AW X cX6_firstOf 5 RX6 (rmd 1 0 0) (Qmet X 0 0 (Qe (some (.int q.1)) q.2 adr)) 0 0 adr h0 32 [(0, .ref l0), (1, .int l1), (4, .int l4)] [] := by
  unfold f_X6_firstOf_32 at hf
  refine aw_iconst (v := 0) dX6_firstOf_32 (by decide) ?_
  refine aw_istore_n (L' := [(2, .int (0 : Int32)), (0, .ref l0), (1, .int l1), (4, .int l4)]) dX6_firstOf_33 rfl (by decide) rfl ?_
  refine aw_aload_n 1 dX6_firstOf_34 rfl rfl ?_
  refine aw_iload 3 dX6_firstOf_35 rfl ?_
  obtain ⟨x1, ex1, hf⟩ := b_some hf
  refine aw_iald dX6_firstOf_37 ex1 ?_
  refine aw_istore_n (L' := [(3, .int x1), (2, .int (0 : Int32)), (0, .ref l0), (1, .int l1), (4, .int l4)]) dX6_firstOf_38 rfl (by decide) rfl ?_
  exact aw_sub [2, 3, 1, 0, 4] rfl (c_X6_firstOf_39 hr hk7 hf)
def f_X6_firstOf_7 (k7 : Nat × Int32 × Int32 × Int32 × Int32 → Hp → Option (Int32 × Hp)) (v : Nat × Int32 × Int32 × Int32 × Int32) (h0 : Hp) : Option (Int32 × Hp) :=
  match v with
  | (l0, l1, l2, l3, l4) => if l1 ≤ l4 then (some (l2, h0)) else ((aN h0 l0).bind fun x2 => if x2 ≤ l4 then (some (l2, h0)) else (if l2 = 0 then (f_X6_firstOf_32 k7 l0 l1 l4 h0) else ((aL h0 l0 l4).bind fun x5 => if x5 ≤ l3 then (f_X6_firstOf_39 k7 l0 l1 l2 l3 l4 h0) else (f_X6_firstOf_32 k7 l0 l1 l4 h0))))
set_option maxRecDepth 100000 in
set_option maxHeartbeats 4000000 in
theorem c_X6_firstOf_7 {X : Cx} {adr : Nat → Nat} {q : Int32 × Hp} (hr : (mth X).sig.returnType = (some .int)) (n : Nat) : ∀ v h0, lp (f_X6_firstOf_7) n v h0 = some q → AW X cX6_firstOf 5 RX6 (rmd 1 0 0) (Qmet X 0 0 (Qe (some (.int q.1)) q.2 adr)) 0 0 adr h0 7 [(0, .ref v.1), (1, .int v.2.1), (2, .int v.2.2.1), (3, .int v.2.2.2.1), (4, .int v.2.2.2.2)] [] := by
  refine aw_lp (fun k7 hk7 v h0 hf => ?_) n
  obtain ⟨l0, l1, l2, l3, l4⟩ := v
  unfold f_X6_firstOf_7 at hf
  dsimp only at hf
  show AW X cX6_firstOf 5 RX6 (rmd 1 0 0) (Qmet X 0 0 (Qe (some (.int q.1)) q.2 adr)) 0 0 adr h0 7 [(0, .ref l0), (1, .int l1), (2, .int l2), (3, .int l3), (4, .int l4)] []
  refine aw_iload 4 dX6_firstOf_7 rfl ?_
  refine aw_iload_n 1 dX6_firstOf_9 rfl rfl ?_
  refine aw_icmp_ge (tgt := 60) dX6_firstOf_10 (by decide) (fun c1 => ?_) (fun c1 => ?_)
  · have hf := i_pos c1 hf
    refine aw_iload_n 2 dX6_firstOf_60 rfl rfl ?_
    have hq := Option.some.inj hf
    subst hq
    exact aw_iret hr dX6_firstOf_61 ⟨rfl, rfl, rfl⟩
  · have hf := i_neg c1 hf
    refine aw_iload 4 dX6_firstOf_13 rfl ?_
    refine aw_aload_n 0 dX6_firstOf_15 rfl rfl ?_
    obtain ⟨x2, ex2, hf⟩ := b_some hf
    refine aw_alen dX6_firstOf_16 ex2 ?_
    refine aw_icmp_ge (tgt := 60) dX6_firstOf_17 (by decide) (fun c3 => ?_) (fun c3 => ?_)
    · have hf := i_pos c3 hf
      refine aw_iload_n 2 dX6_firstOf_60 rfl rfl ?_
      have hq := Option.some.inj hf
      subst hq
      exact aw_iret hr dX6_firstOf_61 ⟨rfl, rfl, rfl⟩
    · have hf := i_neg c3 hf
      refine aw_iload_n 2 dX6_firstOf_20 rfl rfl ?_
      refine aw_if_eq (tgt := 32) dX6_firstOf_21 (by decide) (fun c4 => ?_) (fun c4 => ?_)
      · have hf := i_pos c4 hf
        exact aw_sub [0, 1, 4] rfl (c_X6_firstOf_32 hr hk7 hf)
      · have hf := i_neg c4 hf
        refine aw_aload_n 0 dX6_firstOf_24 rfl rfl ?_
        refine aw_iload 4 dX6_firstOf_25 rfl ?_
        obtain ⟨x5, ex5, hf⟩ := b_some hf
        refine aw_iald dX6_firstOf_27 ex5 ?_
        refine aw_iload_n 3 dX6_firstOf_28 rfl rfl ?_
        refine aw_icmp_le (tgt := 39) dX6_firstOf_29 (by decide) (fun c6 => ?_) (fun c6 => ?_)
        · have hf := i_pos c6 hf
          exact aw_sub [0, 1, 2, 3, 4] rfl (c_X6_firstOf_39 hr hk7 hf)
        · have hf := i_neg c6 hf
          exact aw_sub [0, 1, 4] rfl (c_X6_firstOf_32 hr hk7 hf)
def f_X6_firstOf (l0 : Nat) (l1 : Int32) (h0 : Hp) : Option (Int32 × Hp) :=
  lp (f_X6_firstOf_7) 600 (l0, l1, (0 : Int32), (0 : Int32), (0 : Int32)) h0
set_option maxRecDepth 100000 in
set_option maxHeartbeats 4000000 in
theorem c_X6_firstOf {l0 : Nat} {l1 : Int32} {h0 : Hp} {q : Int32 × Hp} (hf : f_X6_firstOf l0 l1 h0 = some q) : Mt 1 yX6_firstOf cX6_firstOf 5 (some .int) [.ref l0, .int l1] h0 (some (.int q.1)) q.2 := by
  refine MtQ.of (by decide) (Nat.le_of_ble_eq_true rfl) (fun X adr hr hn => ?_)
  unfold f_X6_firstOf at hf
  show AW X cX6_firstOf 5 RX6 (rmd 1 0 0) (Qmet X 0 0 (Qe (some (.int q.1)) q.2 adr)) 0 0 adr h0 0 [(0, .ref l0), (1, .int l1)] []
  refine aw_iconst (v := 0) dX6_firstOf_0 (by decide) ?_
  refine aw_istore_n (L' := [(2, .int (0 : Int32)), (0, .ref l0), (1, .int l1)]) dX6_firstOf_1 rfl (by decide) rfl ?_
  refine aw_iconst (v := 0) dX6_firstOf_2 (by decide) ?_
  refine aw_istore_n (L' := [(3, .int (0 : Int32)), (2, .int (0 : Int32)), (0, .ref l0), (1, .int l1)]) dX6_firstOf_3 rfl (by decide) rfl ?_
  refine aw_iconst (v := 0) dX6_firstOf_4 (by decide) ?_
  refine aw_istore (L' := [(4, .int (0 : Int32)), (3, .int (0 : Int32)), (2, .int (0 : Int32)), (0, .ref l0), (1, .int l1)]) dX6_firstOf_5 (by decide) rfl ?_
  exact aw_sub [3, 4, 2, 1, 0] rfl (c_X6_firstOf_7 hr 600 _ _ hf)
theorem dX6_isPart_0 : decode cX6_isPart 0 = .ok (.iload_n 0, 1) := by decide +kernel
theorem dX6_isPart_1 : decode cX6_isPart 1 = .ok (.ifCond .eq 8, 3) := by decide +kernel
theorem dX6_isPart_4 : decode cX6_isPart 4 = .ok (.iload_n 0, 1) := by decide +kernel
theorem dX6_isPart_5 : decode cX6_isPart 5 = .ok (.iconst 1, 1) := by decide +kernel
theorem dX6_isPart_6 : decode cX6_isPart 6 = .ok (.if_icmp .ne 7, 3) := by decide +kernel
theorem dX6_isPart_9 : decode cX6_isPart 9 = .ok (.iconst 1, 1) := by decide +kernel
theorem dX6_isPart_10 : decode cX6_isPart 10 = .ok (.goto 4, 3) := by decide +kernel
theorem dX6_isPart_13 : decode cX6_isPart 13 = .ok (.iconst 0, 1) := by decide +kernel
theorem dX6_isPart_14 : decode cX6_isPart 14 = .ok (.ireturn, 1) := by decide +kernel
def f_X6_isPart (l0 : Int32) (h0 : Hp) : Option (Int32 × Hp) :=
  if l0 = 0 then (some ((1 : Int32), h0)) else (if l0 = (1 : Int32) then (some ((1 : Int32), h0)) else (some ((0 : Int32), h0)))
set_option maxRecDepth 100000 in
set_option maxHeartbeats 4000000 in
theorem c_X6_isPart {l0 : Int32} {h0 : Hp} {q : Int32 × Hp} (hf : f_X6_isPart l0 h0 = some q) : Mt 1 yX6_isPart cX6_isPart 1 (some .boolean) [.int l0] h0 (some (.int q.1)) q.2 := by
  refine MtQ.of (by decide) (Nat.le_of_ble_eq_true rfl) (fun X adr hr hn => ?_)
  unfold f_X6_isPart at hf
  show AW X cX6_isPart 1 RX6 (rmd 1 0 0) (Qmet X 0 0 (Qe (some (.int q.1)) q.2 adr)) 0 0 adr h0 0 [(0, .int l0)] []
  refine aw_iload_n 0 dX6_isPart_0 rfl rfl ?_
  refine aw_if_eq (tgt := 9) dX6_isPart_1 (by decide) (fun c1 => ?_) (fun c1 => ?_)
  · have hf := i_pos c1 hf
    refine aw_iconst (v := 1) dX6_isPart_9 (by decide) ?_
    refine aw_goto (tgt := 14) dX6_isPart_10 (by decide) ?_
    have hq := Option.some.inj hf
    subst hq
    exact aw_zret hr (by decide) dX6_isPart_14 ⟨rfl, rfl, rfl⟩
  · have hf := i_neg c1 hf
    refine aw_iload_n 0 dX6_isPart_4 rfl rfl ?_
    refine aw_iconst (v := 1) dX6_isPart_5 (by decide) ?_
    refine aw_icmp_ne (tgt := 13) dX6_isPart_6 (by decide) (fun c2 => ?_) (fun c2 => ?_)
    · have hf := i_neg c2 hf
      refine aw_iconst (v := 0) dX6_isPart_13 (by decide) ?_
      have hq := Option.some.inj hf
      subst hq
      exact aw_zret hr (by decide) dX6_isPart_14 ⟨rfl, rfl, rfl⟩
    · have hf := i_pos c2 hf
      refine aw_iconst (v := 1) dX6_isPart_9 (by decide) ?_
      refine aw_goto (tgt := 14) dX6_isPart_10 (by decide) ?_
      have hq := Option.some.inj hf
      subst hq
      exact aw_zret hr (by decide) dX6_isPart_14 ⟨rfl, rfl, rfl⟩
theorem dX6_chance_0 : decode cX6_chance 0 = .ok (.aload_n 0, 1) := by decide +kernel
theorem dX6_chance_1 : decode cX6_chance 1 = .ok (.getfield 19, 3) := by decide +kernel
theorem dX6_chance_4 : decode cX6_chance 4 = .ok (.iload_n 1, 1) := by decide +kernel
theorem dX6_chance_5 : decode cX6_chance 5 = .ok (.invokevirtual 102, 3) := by decide +kernel
theorem dX6_chance_8 : decode cX6_chance 8 = .ok (.ifCond .eq 22, 3) := by decide +kernel
theorem dX6_chance_11 : decode cX6_chance 11 = .ok (.iload_n 3, 1) := by decide +kernel
theorem dX6_chance_12 : decode cX6_chance 12 = .ok (.iconst 1, 1) := by decide +kernel
theorem dX6_chance_13 : decode cX6_chance 13 = .ok (.if_icmp .lt 17, 3) := by decide +kernel
theorem dX6_chance_16 : decode cX6_chance 16 = .ok (.iload_n 3, 1) := by decide +kernel
theorem dX6_chance_17 : decode cX6_chance 17 = .ok (.bipush 20, 2) := by decide +kernel
theorem dX6_chance_19 : decode cX6_chance 19 = .ok (.if_icmp .gt 11, 3) := by decide +kernel
theorem dX6_chance_22 : decode cX6_chance 22 = .ok (.iload 4, 2) := by decide +kernel
theorem dX6_chance_24 : decode cX6_chance 24 = .ok (.invokestatic 152, 3) := by decide +kernel
theorem dX6_chance_27 : decode cX6_chance 27 = .ok (.ifCond .ne 6, 3) := by decide +kernel
theorem dX6_chance_30 : decode cX6_chance 30 = .ok (.bipush (-2), 2) := by decide +kernel
theorem dX6_chance_32 : decode cX6_chance 32 = .ok (.ireturn, 1) := by decide +kernel
theorem dX6_chance_33 : decode cX6_chance 33 = .ok (.iconst 0, 1) := by decide +kernel
theorem dX6_chance_34 : decode cX6_chance 34 = .ok (.istore 5, 2) := by decide +kernel
theorem dX6_chance_36 : decode cX6_chance 36 = .ok (.iconst 0, 1) := by decide +kernel
theorem dX6_chance_37 : decode cX6_chance 37 = .ok (.istore 6, 2) := by decide +kernel
theorem dX6_chance_39 : decode cX6_chance 39 = .ok (.iload 6, 2) := by decide +kernel
theorem dX6_chance_41 : decode cX6_chance 41 = .ok (.iload_n 3, 1) := by decide +kernel
theorem dX6_chance_42 : decode cX6_chance 42 = .ok (.if_icmp .ge 41, 3) := by decide +kernel
theorem dX6_chance_45 : decode cX6_chance 45 = .ok (.aload_n 0, 1) := by decide +kernel
theorem dX6_chance_46 : decode cX6_chance 46 = .ok (.iload_n 2, 1) := by decide +kernel
theorem dX6_chance_47 : decode cX6_chance 47 = .ok (.iload 6, 2) := by decide +kernel
theorem dX6_chance_49 : decode cX6_chance 49 = .ok (.iadd, 1) := by decide +kernel
theorem dX6_chance_50 : decode cX6_chance 50 = .ok (.invokevirtual 212, 3) := by decide +kernel
theorem dX6_chance_53 : decode cX6_chance 53 = .ok (.aload_n 0, 1) := by decide +kernel
theorem dX6_chance_54 : decode cX6_chance 54 = .ok (.getfield 50, 3) := by decide +kernel
theorem dX6_chance_57 : decode cX6_chance 57 = .ok (.aload_n 0, 1) := by decide +kernel
theorem dX6_chance_58 : decode cX6_chance 58 = .ok (.getfield 19, 3) := by decide +kernel
theorem dX6_chance_61 : decode cX6_chance 61 = .ok (.getfield 215, 3) := by decide +kernel
theorem dX6_chance_64 : decode cX6_chance 64 = .ok (.invokestatic 216, 3) := by decide +kernel
theorem dX6_chance_67 : decode cX6_chance 67 = .ok (.iload_n 1, 1) := by decide +kernel
theorem dX6_chance_68 : decode cX6_chance 68 = .ok (.invokestatic 220, 3) := by decide +kernel
theorem dX6_chance_71 : decode cX6_chance 71 = .ok (.ifCond .eq 6, 3) := by decide +kernel
theorem dX6_chance_74 : decode cX6_chance 74 = .ok (.iinc 5 1, 3) := by decide +kernel
theorem dX6_chance_77 : decode cX6_chance 77 = .ok (.iinc 6 1, 3) := by decide +kernel
theorem dX6_chance_80 : decode cX6_chance 80 = .ok (.goto (-41), 3) := by decide +kernel
theorem dX6_chance_83 : decode cX6_chance 83 = .ok (.iload 5, 2) := by decide +kernel
theorem dX6_chance_85 : decode cX6_chance 85 = .ok (.iload_n 3, 1) := by decide +kernel
theorem dX6_chance_86 : decode cX6_chance 86 = .ok (.invokestatic 224, 3) := by decide +kernel
theorem dX6_chance_89 : decode cX6_chance 89 = .ok (.istore 6, 2) := by decide +kernel
theorem dX6_chance_91 : decode cX6_chance 91 = .ok (.iload 6, 2) := by decide +kernel
theorem dX6_chance_93 : decode cX6_chance 93 = .ok (.iconst 1, 1) := by decide +kernel
theorem dX6_chance_94 : decode cX6_chance 94 = .ok (.if_icmp .ge 5, 3) := by decide +kernel
theorem dX6_chance_97 : decode cX6_chance 97 = .ok (.iconst (-1), 1) := by decide +kernel
theorem dX6_chance_98 : decode cX6_chance 98 = .ok (.ireturn, 1) := by decide +kernel
theorem dX6_chance_99 : decode cX6_chance 99 = .ok (.iload 4, 2) := by decide +kernel
theorem dX6_chance_101 : decode cX6_chance 101 = .ok (.ifCond .ne 8, 3) := by decide +kernel
theorem dX6_chance_104 : decode cX6_chance 104 = .ok (.iload 5, 2) := by decide +kernel
theorem dX6_chance_106 : decode cX6_chance 106 = .ok (.goto 4, 3) := by decide +kernel
theorem dX6_chance_109 : decode cX6_chance 109 = .ok (.iload_n 3, 1) := by decide +kernel
theorem dX6_chance_110 : decode cX6_chance 110 = .ok (.iload 6, 2) := by decide +kernel
theorem dX6_chance_112 : decode cX6_chance 112 = .ok (.idiv, 1) := by decide +kernel
theorem dX6_chance_113 : decode cX6_chance 113 = .ok (.ireturn, 1) := by decide +kernel
def f_X6_chance_110 (l6 : Int32) (s0 : Int32) (h0 : Hp) : Option (Int32 × Hp) :=
  if l6 = 0 then none else some ((s0 / l6), h0)
set_option maxRecDepth 100000 in
set_option maxHeartbeats 4000000 in
theorem c_X6_chance_110 {X : Cx} {adr : Nat → Nat} {q : Int32 × Hp} (hr : (mth X).sig.returnType = (some .int)) {l6 : Int32} {s0 : Int32} {h0 : Hp} (hf : f_X6_chance_110 l6 s0 h0 = some q) : AW X cX6_chance 7 RX6 (rmd 4 0 0) (Qmet X 0 0 (Qe (some (.int q.1)) q.2 adr)) 0 0 adr h0 110 [(6, .int l6)] [.int s0] := by
  unfold f_X6_chance_110 at hf
  refine aw_iload 0 dX6_chance_110 rfl ?_
  by_cases z1 : l6 = 0
  · exact absurd (i_pos z1 hf) (by simp)
  have hf := i_neg z1 hf
  refine aw_idiv dX6_chance_112 z1 ?_
  have hq := Option.some.inj hf
  subst hq
  exact aw_iret hr dX6_chance_113 ⟨rfl, rfl, rfl⟩
def f_X6_chance_39 (k39 : Nat × Int32 × Int32 × Int32 × Int32 × Int32 × Int32 → Hp → Option (Int32 × Hp)) (v : Nat × Int32 × Int32 × Int32 × Int32 × Int32 × Int32) (h0 : Hp) : Option (Int32 × Hp) :=
  match v with
  | (l0, l1, l2, l3, l4, l5, l6) => if l3 ≤ l6 then ((f_X6_commonDivisor l5 l3 h0).bind fun q2 => if (1 : Int32) ≤ q2.1 then (if l4 = 0 then (f_X6_chance_110 q2.1 l5 q2.2) else (f_X6_chance_110 q2.1 l3 q2.2)) else (some ((-1 : Int32), q2.2))) else ((f_X6_drawInto l0 (l2 + l6) h0).bind fun q5 => (gR q5.2 l0 6 8).bind fun r6 => (gR q5.2 l0 6 1).bind fun r7 => (gI q5.2 r7 0 0).bind fun x8 => (f_X6_firstOf r6 x8 q5.2).bind fun q9 => (f_X6_has q9.1 l1 q9.2).bind fun q10 => if q10.1 = 0 then ((some (l6 + 1)).bind fun x12 => k39 (l0, l1, l2, l3, l4, l5, x12) q10.2) else ((some (l5 + 1)).bind fun x13 => (some (l6 + 1)).bind fun x14 => k39 (l0, l1, l2, l3, l4, x13, x14) q10.2))
set_option maxRecDepth 100000 in
set_option maxHeartbeats 4000000 in
theorem c_X6_chance_39 {X : Cx} {adr : Nat → Nat} {q : Int32 × Hp} (hr : (mth X).sig.returnType = (some .int)) (n : Nat) : ∀ v h0, lp (f_X6_chance_39) n v h0 = some q → AW X cX6_chance 7 RX6 (rmd 4 0 0) (Qmet X 0 0 (Qe (some (.int q.1)) q.2 adr)) 0 0 adr h0 39 [(0, .ref v.1), (1, .int v.2.1), (2, .int v.2.2.1), (3, .int v.2.2.2.1), (4, .int v.2.2.2.2.1), (5, .int v.2.2.2.2.2.1), (6, .int v.2.2.2.2.2.2)] [] := by
  refine aw_lp (fun k39 hk39 v h0 hf => ?_) n
  obtain ⟨l0, l1, l2, l3, l4, l5, l6⟩ := v
  unfold f_X6_chance_39 at hf
  dsimp only at hf
  show AW X cX6_chance 7 RX6 (rmd 4 0 0) (Qmet X 0 0 (Qe (some (.int q.1)) q.2 adr)) 0 0 adr h0 39 [(0, .ref l0), (1, .int l1), (2, .int l2), (3, .int l3), (4, .int l4), (5, .int l5), (6, .int l6)] []
  refine aw_iload 6 dX6_chance_39 rfl ?_
  refine aw_iload_n 3 dX6_chance_41 rfl rfl ?_
  refine aw_icmp_ge (tgt := 83) dX6_chance_42 (by decide) (fun c1 => ?_) (fun c1 => ?_)
  · have hf := i_pos c1 hf
    refine aw_iload 5 dX6_chance_83 rfl ?_
    refine aw_iload_n 3 dX6_chance_85 rfl rfl ?_
    obtain ⟨q2, eq2, hf⟩ := b_some hf
    refine aw_cS (as := [.int l5, .int l3]) dX6_chance_86 moX6_commonDivisor soX6_commonDivisor mlX6_224 (rm_ok (by omega) (by decide)) ⟨Nat.le_refl _, Nat.le_refl _⟩ (Nat.le_of_ble_eq_true rfl) rfl (c_X6_commonDivisor eq2) ?_
    refine aw_istore (L' := [(6, .int q2.1), (0, .ref l0), (1, .int l1), (2, .int l2), (3, .int l3), (4, .int l4), (5, .int l5)]) dX6_chance_89 (by decide) rfl ?_
    refine aw_iload 0 dX6_chance_91 rfl ?_
    refine aw_iconst (v := 1) dX6_chance_93 (by decide) ?_
    refine aw_icmp_ge (tgt := 99) dX6_chance_94 (by decide) (fun c3 => ?_) (fun c3 => ?_)
    · have hf := i_pos c3 hf
      refine aw_iload 5 dX6_chance_99 rfl ?_
      refine aw_if_ne (tgt := 109) dX6_chance_101 (by decide) (fun c4 => ?_) (fun c4 => ?_)
      · have hf := i_neg c4 hf
        refine aw_iload_n 4 dX6_chance_109 rfl rfl ?_
        exact aw_sub [0] rfl (c_X6_chance_110 hr hf)
      · have hf := i_pos c4 hf
        refine aw_iload 6 dX6_chance_104 rfl ?_
        refine aw_goto (tgt := 110) dX6_chance_106 (by decide) ?_
        exact aw_sub [0] rfl (c_X6_chance_110 hr hf)
    · have hf := i_neg c3 hf
      refine aw_iconst (v := -1) dX6_chance_97 (by decide) ?_
      have hq := Option.some.inj hf
      subst hq
      exact aw_iret hr dX6_chance_98 ⟨rfl, rfl, rfl⟩
  · have hf := i_neg c1 hf
    refine aw_aload_n 0 dX6_chance_45 rfl rfl ?_
    refine aw_iload_n 2 dX6_chance_46 rfl rfl ?_
    refine aw_iload 6 dX6_chance_47 rfl ?_
    refine aw_iadd dX6_chance_49 ?_
    obtain ⟨q5, eq5, hf⟩ := b_some hf
    refine aw_cV0 (as := [.int (l2 + l6)]) dX6_chance_50 moX6_drawInto voX6_drawInto mlX6_212 (k_X6_drawInto eq5) rfl (rm_ok (by omega) (by decide)) ⟨Nat.le_refl _, Nat.le_refl _⟩ (Nat.le_of_ble_eq_true rfl) rfl (c_X6_drawInto eq5) ?_
    refine aw_aload_n 0 dX6_chance_53 rfl rfl ?_
    obtain ⟨r6, er6, hf⟩ := b_some hf
    refine aw_getR dX6_chance_54 gfX6_50 er6 ?_
    refine aw_aload_n 0 dX6_chance_57 rfl rfl ?_
    obtain ⟨r7, er7, hf⟩ := b_some hf
    refine aw_getR dX6_chance_58 gfX6_19 er7 ?_
    obtain ⟨x8, ex8, hf⟩ := b_some hf
    refine aw_getI dX6_chance_61 gfX6_215 ex8 ?_
    obtain ⟨q9, eq9, hf⟩ := b_some hf
    refine aw_cS (as := [.ref r6, .int x8]) dX6_chance_64 moX6_firstOf soX6_firstOf mlX6_216 (rm_ok (by omega) (by decide)) ⟨Nat.le_refl _, Nat.le_refl _⟩ (Nat.le_of_ble_eq_true rfl) rfl (c_X6_firstOf eq9) ?_
    refine aw_iload_n 1 dX6_chance_67 rfl rfl ?_
    obtain ⟨q10, eq10, hf⟩ := b_some hf
    refine aw_cS (as := [.int q9.1, .int l1]) dX6_chance_68 moX6_has soX6_has mlX6_220 (rm_ok (by omega) (by decide)) ⟨Nat.le_refl _, Nat.le_refl _⟩ (Nat.le_of_ble_eq_true rfl) rfl (c_X6_has eq10) ?_
    refine aw_if_eq (tgt := 77) dX6_chance_71 (by decide) (fun c11 => ?_) (fun c11 => ?_)
    · have hf := i_pos c11 hf
      obtain ⟨x12, ex12, hf⟩ := b_some hf
      refine aw_iinc (v := x12) (L' := [(6, .int x12), (0, .ref l0), (1, .int l1), (2, .int l2), (3, .int l3), (4, .int l4), (5, .int l5)]) 6 dX6_chance_77 rfl (Option.some.inj ex12) (by decide) rfl ?_
      refine aw_goto (tgt := 39) dX6_chance_80 (by decide) ?_
      exact aw_sub [1, 2, 3, 4, 5, 6, 0] rfl (hk39 _ _ hf)
    · have hf := i_neg c11 hf
      obtain ⟨x13, ex13, hf⟩ := b_some hf
      refine aw_iinc (v := x13) (L' := [(5, .int x13), (0, .ref l0), (1, .int l1), (2, .int l2), (3, .int l3), (4, .int l4), (6, .int l6)]) 5 dX6_chance_74 rfl (Option.some.inj ex13) (by decide) rfl ?_
      obtain ⟨x14, ex14, hf⟩ := b_some hf
      refine aw_iinc (v := x14) (L' := [(6, .int x14), (5, .int x13), (0, .ref l0), (1, .int l1), (2, .int l2), (3, .int l3), (4, .int l4)]) 6 dX6_chance_77 rfl (Option.some.inj ex14) (by decide) rfl ?_
      refine aw_goto (tgt := 39) dX6_chance_80 (by decide) ?_
      exact aw_sub [2, 3, 4, 5, 6, 1, 0] rfl (hk39 _ _ hf)
def f_X6_chance (l0 : Nat) (l1 : Int32) (l2 : Int32) (l3 : Int32) (l4 : Int32) (h0 : Hp) : Option (Int32 × Hp) :=
  (ck h0 l0 6).bind fun _ => (gR h0 l0 6 1).bind fun r1 => (f_X0_hasTeam r1 l1 h0).bind fun q2 => if q2.1 = 0 then (some ((-2 : Int32), q2.2)) else (if l3 < (1 : Int32) then (some ((-2 : Int32), q2.2)) else (if (20 : Int32) < l3 then (some ((-2 : Int32), q2.2)) else ((f_X6_isPart l4 q2.2).bind fun q6 => if q6.1 = 0 then (some ((-2 : Int32), q6.2)) else (lp (f_X6_chance_39) 600 (l0, l1, l2, l3, l4, (0 : Int32), (0 : Int32)) q6.2))))
set_option maxRecDepth 100000 in
set_option maxHeartbeats 4000000 in
theorem c_X6_chance {l0 : Nat} {l1 : Int32} {l2 : Int32} {l3 : Int32} {l4 : Int32} {h0 : Hp} {q : Int32 × Hp} (hf : f_X6_chance l0 l1 l2 l3 l4 h0 = some q) : Mt 4 yX6_chance cX6_chance 7 (some .int) [.ref l0, .int l1, .int l2, .int l3, .int l4] h0 (some (.int q.1)) q.2 := by
  refine MtQ.of (by decide) (Nat.le_of_ble_eq_true rfl) (fun X adr hr hn => ?_)
  unfold f_X6_chance at hf
  show AW X cX6_chance 7 RX6 (rmd 4 0 0) (Qmet X 0 0 (Qe (some (.int q.1)) q.2 adr)) 0 0 adr h0 0 [(0, .ref l0), (1, .int l1), (2, .int l2), (3, .int l3), (4, .int l4)] []
  obtain ⟨u0, e0, hf⟩ := b_some hf
  refine aw_aload_n 0 dX6_chance_0 rfl rfl ?_
  obtain ⟨r1, er1, hf⟩ := b_some hf
  refine aw_getR dX6_chance_1 gfX6_19 er1 ?_
  refine aw_iload_n 1 dX6_chance_4 rfl rfl ?_
  obtain ⟨q2, eq2, hf⟩ := b_some hf
  refine aw_cV (as := [.int l1]) dX6_chance_5 moX0_hasTeam voX0_hasTeam mlX6_102 (k_X0_hasTeam eq2) rfl (rm_ok (by omega) (by decide)) ⟨Nat.le_refl _, Nat.le_refl _⟩ (Nat.le_of_ble_eq_true rfl) rfl (c_X0_hasTeam eq2) ?_
  refine aw_if_eq (tgt := 30) dX6_chance_8 (by decide) (fun c3 => ?_) (fun c3 => ?_)
  · have hf := i_pos c3 hf
    refine aw_bipush (v := -2) dX6_chance_30 (by decide) ?_
    have hq := Option.some.inj hf
    subst hq
    exact aw_iret hr dX6_chance_32 ⟨rfl, rfl, rfl⟩
  · have hf := i_neg c3 hf
    refine aw_iload_n 3 dX6_chance_11 rfl rfl ?_
    refine aw_iconst (v := 1) dX6_chance_12 (by decide) ?_
    refine aw_icmp_lt (tgt := 30) dX6_chance_13 (by decide) (fun c4 => ?_) (fun c4 => ?_)
    · have hf := i_pos c4 hf
      refine aw_bipush (v := -2) dX6_chance_30 (by decide) ?_
      have hq := Option.some.inj hf
      subst hq
      exact aw_iret hr dX6_chance_32 ⟨rfl, rfl, rfl⟩
    · have hf := i_neg c4 hf
      refine aw_iload_n 3 dX6_chance_16 rfl rfl ?_
      refine aw_bipush (v := 20) dX6_chance_17 (by decide) ?_
      refine aw_icmp_gt (tgt := 30) dX6_chance_19 (by decide) (fun c5 => ?_) (fun c5 => ?_)
      · have hf := i_pos c5 hf
        refine aw_bipush (v := -2) dX6_chance_30 (by decide) ?_
        have hq := Option.some.inj hf
        subst hq
        exact aw_iret hr dX6_chance_32 ⟨rfl, rfl, rfl⟩
      · have hf := i_neg c5 hf
        refine aw_iload 4 dX6_chance_22 rfl ?_
        obtain ⟨q6, eq6, hf⟩ := b_some hf
        refine aw_cS (as := [.int l4]) dX6_chance_24 moX6_isPart soX6_isPart mlX6_152 (rm_ok (by omega) (by decide)) ⟨Nat.le_refl _, Nat.le_refl _⟩ (Nat.le_of_ble_eq_true rfl) rfl (c_X6_isPart eq6) ?_
        refine aw_if_ne (tgt := 33) dX6_chance_27 (by decide) (fun c7 => ?_) (fun c7 => ?_)
        · have hf := i_neg c7 hf
          refine aw_iconst (v := 0) dX6_chance_33 (by decide) ?_
          refine aw_istore (L' := [(5, .int (0 : Int32)), (0, .ref l0), (1, .int l1), (2, .int l2), (3, .int l3), (4, .int l4)]) dX6_chance_34 (by decide) rfl ?_
          refine aw_iconst (v := 0) dX6_chance_36 (by decide) ?_
          refine aw_istore (L' := [(6, .int (0 : Int32)), (5, .int (0 : Int32)), (0, .ref l0), (1, .int l1), (2, .int l2), (3, .int l3), (4, .int l4)]) dX6_chance_37 (by decide) rfl ?_
          exact aw_sub [2, 3, 4, 5, 6, 1, 0] rfl (c_X6_chance_39 hr 600 _ _ hf)
        · have hf := i_pos c7 hf
          refine aw_bipush (v := -2) dX6_chance_30 (by decide) ?_
          have hq := Option.some.inj hf
          subst hq
          exact aw_iret hr dX6_chance_32 ⟨rfl, rfl, rfl⟩
theorem k_X6_chance {l0 : Nat} {l1 : Int32} {l2 : Int32} {l3 : Int32} {l4 : Int32} {h0 : Hp} {q : Int32 × Hp} (hf : f_X6_chance l0 l1 l2 l3 l4 h0 = some q) : ck h0 l0 6 = some () := by
  unfold f_X6_chance at hf
  obtain ⟨u0, e0, hf⟩ := b_some hf
  exact e0
theorem dX6_isSheet_0 : decode cX6_isSheet 0 = .ok (.iload_n 0, 1) := by decide +kernel
theorem dX6_isSheet_1 : decode cX6_isSheet 1 = .ok (.ifCond .lt 12, 3) := by decide +kernel
theorem dX6_isSheet_4 : decode cX6_isSheet 4 = .ok (.iload_n 0, 1) := by decide +kernel
theorem dX6_isSheet_5 : decode cX6_isSheet 5 = .ok (.iconst 4, 1) := by decide +kernel
theorem dX6_isSheet_6 : decode cX6_isSheet 6 = .ok (.if_icmp .ge 7, 3) := by decide +kernel
theorem dX6_isSheet_9 : decode cX6_isSheet 9 = .ok (.iconst 1, 1) := by decide +kernel
theorem dX6_isSheet_10 : decode cX6_isSheet 10 = .ok (.goto 4, 3) := by decide +kernel
theorem dX6_isSheet_13 : decode cX6_isSheet 13 = .ok (.iconst 0, 1) := by decide +kernel
theorem dX6_isSheet_14 : decode cX6_isSheet 14 = .ok (.ireturn, 1) := by decide +kernel
def f_X6_isSheet (l0 : Int32) (h0 : Hp) : Option (Int32 × Hp) :=
  if l0 < 0 then (some ((0 : Int32), h0)) else (if (4 : Int32) ≤ l0 then (some ((0 : Int32), h0)) else (some ((1 : Int32), h0)))
set_option maxRecDepth 100000 in
set_option maxHeartbeats 4000000 in
theorem c_X6_isSheet {l0 : Int32} {h0 : Hp} {q : Int32 × Hp} (hf : f_X6_isSheet l0 h0 = some q) : Mt 1 yX6_isSheet cX6_isSheet 1 (some .boolean) [.int l0] h0 (some (.int q.1)) q.2 := by
  refine MtQ.of (by decide) (Nat.le_of_ble_eq_true rfl) (fun X adr hr hn => ?_)
  unfold f_X6_isSheet at hf
  show AW X cX6_isSheet 1 RX6 (rmd 1 0 0) (Qmet X 0 0 (Qe (some (.int q.1)) q.2 adr)) 0 0 adr h0 0 [(0, .int l0)] []
  refine aw_iload_n 0 dX6_isSheet_0 rfl rfl ?_
  refine aw_if_lt (tgt := 13) dX6_isSheet_1 (by decide) (fun c1 => ?_) (fun c1 => ?_)
  · have hf := i_pos c1 hf
    refine aw_iconst (v := 0) dX6_isSheet_13 (by decide) ?_
    have hq := Option.some.inj hf
    subst hq
    exact aw_zret hr (by decide) dX6_isSheet_14 ⟨rfl, rfl, rfl⟩
  · have hf := i_neg c1 hf
    refine aw_iload_n 0 dX6_isSheet_4 rfl rfl ?_
    refine aw_iconst (v := 4) dX6_isSheet_5 (by decide) ?_
    refine aw_icmp_ge (tgt := 13) dX6_isSheet_6 (by decide) (fun c2 => ?_) (fun c2 => ?_)
    · have hf := i_pos c2 hf
      refine aw_iconst (v := 0) dX6_isSheet_13 (by decide) ?_
      have hq := Option.some.inj hf
      subst hq
      exact aw_zret hr (by decide) dX6_isSheet_14 ⟨rfl, rfl, rfl⟩
    · have hf := i_neg c2 hf
      refine aw_iconst (v := 1) dX6_isSheet_9 (by decide) ?_
      refine aw_goto (tgt := 14) dX6_isSheet_10 (by decide) ?_
      have hq := Option.some.inj hf
      subst hq
      exact aw_zret hr (by decide) dX6_isSheet_14 ⟨rfl, rfl, rfl⟩
theorem dX6_copy_0 : decode cX6_copy 0 = .ok (.iload_n 1, 1) := by decide +kernel
theorem dX6_copy_1 : decode cX6_copy 1 = .ok (.invokestatic 227, 3) := by decide +kernel
theorem dX6_copy_4 : decode cX6_copy 4 = .ok (.ifCond .eq 10, 3) := by decide +kernel
theorem dX6_copy_7 : decode cX6_copy 7 = .ok (.iload_n 3, 1) := by decide +kernel
theorem dX6_copy_8 : decode cX6_copy 8 = .ok (.invokestatic 227, 3) := by decide +kernel
theorem dX6_copy_11 : decode cX6_copy 11 = .ok (.ifCond .ne 6, 3) := by decide +kernel
theorem dX6_copy_14 : decode cX6_copy 14 = .ok (.bipush (-2), 2) := by decide +kernel
theorem dX6_copy_16 : decode cX6_copy 16 = .ok (.ireturn, 1) := by decide +kernel
theorem dX6_copy_17 : decode cX6_copy 17 = .ok (.aload_n 0, 1) := by decide +kernel
theorem dX6_copy_18 : decode cX6_copy 18 = .ok (.getfield 56, 3) := by decide +kernel
theorem dX6_copy_21 : decode cX6_copy 21 = .ok (.iload_n 1, 1) := by decide +kernel
theorem dX6_copy_22 : decode cX6_copy 22 = .ok (.aaload, 1) := by decide +kernel
theorem dX6_copy_23 : decode cX6_copy 23 = .ok (.astore 6, 2) := by decide +kernel
theorem dX6_copy_25 : decode cX6_copy 25 = .ok (.aload_n 0, 1) := by decide +kernel
theorem dX6_copy_26 : decode cX6_copy 26 = .ok (.getfield 56, 3) := by decide +kernel
theorem dX6_copy_29 : decode cX6_copy 29 = .ok (.iload_n 3, 1) := by decide +kernel
theorem dX6_copy_30 : decode cX6_copy 30 = .ok (.aaload, 1) := by decide +kernel
theorem dX6_copy_31 : decode cX6_copy 31 = .ok (.astore 7, 2) := by decide +kernel
theorem dX6_copy_33 : decode cX6_copy 33 = .ok (.aload 6, 2) := by decide +kernel
theorem dX6_copy_35 : decode cX6_copy 35 = .ok (.invokevirtual 230, 3) := by decide +kernel
theorem dX6_copy_38 : decode cX6_copy 38 = .ok (.ifCond .ne 11, 3) := by decide +kernel
theorem dX6_copy_41 : decode cX6_copy 41 = .ok (.aload 7, 2) := by decide +kernel
theorem dX6_copy_43 : decode cX6_copy 43 = .ok (.invokevirtual 230, 3) := by decide +kernel
theorem dX6_copy_46 : decode cX6_copy 46 = .ok (.ifCond .eq 6, 3) := by decide +kernel
theorem dX6_copy_49 : decode cX6_copy 49 = .ok (.bipush (-11), 2) := by decide +kernel
theorem dX6_copy_51 : decode cX6_copy 51 = .ok (.ireturn, 1) := by decide +kernel
theorem dX6_copy_52 : decode cX6_copy 52 = .ok (.aload 6, 2) := by decide +kernel
theorem dX6_copy_54 : decode cX6_copy 54 = .ok (.getfield 248, 3) := by decide +kernel
theorem dX6_copy_57 : decode cX6_copy 57 = .ok (.aload 7, 2) := by decide +kernel
theorem dX6_copy_59 : decode cX6_copy 59 = .ok (.getfield 248, 3) := by decide +kernel
theorem dX6_copy_62 : decode cX6_copy 62 = .ok (.if_icmp .eq 6, 3) := by decide +kernel
theorem dX6_copy_65 : decode cX6_copy 65 = .ok (.bipush (-13), 2) := by decide +kernel
theorem dX6_copy_67 : decode cX6_copy 67 = .ok (.ireturn, 1) := by decide +kernel
theorem dX6_copy_68 : decode cX6_copy 68 = .ok (.aload 6, 2) := by decide +kernel
theorem dX6_copy_70 : decode cX6_copy 70 = .ok (.iload_n 2, 1) := by decide +kernel
theorem dX6_copy_71 : decode cX6_copy 71 = .ok (.iload 5, 2) := by decide +kernel
theorem dX6_copy_73 : decode cX6_copy 73 = .ok (.invokevirtual 251, 3) := by decide +kernel
theorem dX6_copy_76 : decode cX6_copy 76 = .ok (.ifCond .eq 15, 3) := by decide +kernel
theorem dX6_copy_79 : decode cX6_copy 79 = .ok (.aload 7, 2) := by decide +kernel
theorem dX6_copy_81 : decode cX6_copy 81 = .ok (.iload 4, 2) := by decide +kernel
theorem dX6_copy_83 : decode cX6_copy 83 = .ok (.iload 5, 2) := by decide +kernel
theorem dX6_copy_85 : decode cX6_copy 85 = .ok (.invokevirtual 251, 3) := by decide +kernel
theorem dX6_copy_88 : decode cX6_copy 88 = .ok (.ifCond .ne 6, 3) := by decide +kernel
theorem dX6_copy_91 : decode cX6_copy 91 = .ok (.bipush (-12), 2) := by decide +kernel
theorem dX6_copy_93 : decode cX6_copy 93 = .ok (.ireturn, 1) := by decide +kernel
theorem dX6_copy_94 : decode cX6_copy 94 = .ok (.aload 6, 2) := by decide +kernel
theorem dX6_copy_96 : decode cX6_copy 96 = .ok (.getfield 234, 3) := by decide +kernel
theorem dX6_copy_99 : decode cX6_copy 99 = .ok (.iload_n 2, 1) := by decide +kernel
theorem dX6_copy_100 : decode cX6_copy 100 = .ok (.aload 7, 2) := by decide +kernel
theorem dX6_copy_102 : decode cX6_copy 102 = .ok (.getfield 234, 3) := by decide +kernel
theorem dX6_copy_105 : decode cX6_copy 105 = .ok (.iload 4, 2) := by decide +kernel
theorem dX6_copy_107 : decode cX6_copy 107 = .ok (.iload 5, 2) := by decide +kernel
theorem dX6_copy_109 : decode cX6_copy 109 = .ok (.invokestatic 254, 3) := by decide +kernel
theorem dX6_copy_112 : decode cX6_copy 112 = .ok (.iload 5, 2) := by decide +kernel
theorem dX6_copy_114 : decode cX6_copy 114 = .ok (.ireturn, 1) := by decide +kernel
def f_X6_copy (l0 : Nat) (l1 : Int32) (l2 : Int32) (l3 : Int32) (l4 : Int32) (l5 : Int32) (h0 : Hp) : Option (Int32 × Hp) :=
  (ck h0 l0 6).bind fun _ => (f_X6_isSheet l1 h0).bind fun q1 => if q1.1 = 0 then (some ((-2 : Int32), q1.2)) else ((f_X6_isSheet l3 q1.2).bind fun q3 => if q3.1 = 0 then (some ((-2 : Int32), q3.2)) else ((gR q3.2 l0 6 7).bind fun r5 => (qL q3.2 r5 l1).bind fun r6 => (gR q3.2 l0 6 7).bind fun r7 => (qL q3.2 r7 l3).bind fun r8 => (f_X2_isMissing r6 q3.2).bind fun q9 => if q9.1 = 0 then ((f_X2_isMissing r8 q9.2).bind fun q11 => if q11.1 = 0 then ((gI q11.2 r6 2 1).bind fun x13 => (gI q11.2 r8 2 1).bind fun x14 => if x13 = x14 then ((f_X2_holds r6 l2 l5 q11.2).bind fun q16 => if q16.1 = 0 then (some ((-12 : Int32), q16.2)) else ((f_X2_holds r8 l4 l5 q16.2).bind fun q18 => if q18.1 = 0 then (some ((-12 : Int32), q18.2)) else ((gR q18.2 r6 2 0).bind fun r20 => (gR q18.2 r8 2 0).bind fun r21 => (aC q18.2 r20 l2 r21 l4 l5).bind fun h22 => some (l5, h22)))) else (some ((-13 : Int32), q11.2))) else (some ((-11 : Int32), q11.2))) else (some ((-11 : Int32), q9.2))))
set_option maxRecDepth 100000 in
set_option maxHeartbeats 4000000 in
theorem c_X6_copy {l0 : Nat} {l1 : Int32} {l2 : Int32} {l3 : Int32} {l4 : Int32} {l5 : Int32} {h0 : Hp} {q : Int32 × Hp} (hf : f_X6_copy l0 l1 l2 l3 l4 l5 h0 = some q) : Mt 2 yX6_copy cX6_copy 8 (some .int) [.ref l0, .int l1, .int l2, .int l3, .int l4, .int l5] h0 (some (.int q.1)) q.2 := by
  refine MtQ.of (by decide) (Nat.le_of_ble_eq_true rfl) (fun X adr hr hn => ?_)
  unfold f_X6_copy at hf
  show AW X cX6_copy 8 RX6 (rmd 2 0 0) (Qmet X 0 0 (Qe (some (.int q.1)) q.2 adr)) 0 0 adr h0 0 [(0, .ref l0), (1, .int l1), (2, .int l2), (3, .int l3), (4, .int l4), (5, .int l5)] []
  obtain ⟨u0, e0, hf⟩ := b_some hf
  refine aw_iload_n 1 dX6_copy_0 rfl rfl ?_
  obtain ⟨q1, eq1, hf⟩ := b_some hf
  refine aw_cS (as := [.int l1]) dX6_copy_1 moX6_isSheet soX6_isSheet mlX6_227 (rm_ok (by omega) (by decide)) ⟨Nat.le_refl _, Nat.le_refl _⟩ (Nat.le_of_ble_eq_true rfl) rfl (c_X6_isSheet eq1) ?_
  refine aw_if_eq (tgt := 14) dX6_copy_4 (by decide) (fun c2 => ?_) (fun c2 => ?_)
  · have hf := i_pos c2 hf
    refine aw_bipush (v := -2) dX6_copy_14 (by decide) ?_
    have hq := Option.some.inj hf
    subst hq
    exact aw_iret hr dX6_copy_16 ⟨rfl, rfl, rfl⟩
  · have hf := i_neg c2 hf
    refine aw_iload_n 3 dX6_copy_7 rfl rfl ?_
    obtain ⟨q3, eq3, hf⟩ := b_some hf
    refine aw_cS (as := [.int l3]) dX6_copy_8 moX6_isSheet soX6_isSheet mlX6_227 (rm_ok (by omega) (by decide)) ⟨Nat.le_refl _, Nat.le_refl _⟩ (Nat.le_of_ble_eq_true rfl) rfl (c_X6_isSheet eq3) ?_
    refine aw_if_ne (tgt := 17) dX6_copy_11 (by decide) (fun c4 => ?_) (fun c4 => ?_)
    · have hf := i_neg c4 hf
      refine aw_aload_n 0 dX6_copy_17 rfl rfl ?_
      obtain ⟨r5, er5, hf⟩ := b_some hf
      refine aw_getR dX6_copy_18 gfX6_56 er5 ?_
      refine aw_iload_n 1 dX6_copy_21 rfl rfl ?_
      obtain ⟨r6, er6, hf⟩ := b_some hf
      refine aw_aald dX6_copy_22 er6 ?_
      refine aw_astore (L' := [(6, .ref r6), (0, .ref l0), (1, .int l1), (2, .int l2), (3, .int l3), (4, .int l4), (5, .int l5)]) dX6_copy_23 (by decide) rfl ?_
      refine aw_aload_n 1 dX6_copy_25 rfl rfl ?_
      obtain ⟨r7, er7, hf⟩ := b_some hf
      refine aw_getR dX6_copy_26 gfX6_56 er7 ?_
      refine aw_iload_n 4 dX6_copy_29 rfl rfl ?_
      obtain ⟨r8, er8, hf⟩ := b_some hf
      refine aw_aald dX6_copy_30 er8 ?_
      refine aw_astore (L' := [(7, .ref r8), (6, .ref r6), (0, .ref l0), (1, .int l1), (2, .int l2), (3, .int l3), (4, .int l4), (5, .int l5)]) dX6_copy_31 (by decide) rfl ?_
      refine aw_aload 1 dX6_copy_33 rfl ?_
      obtain ⟨q9, eq9, hf⟩ := b_some hf
      refine aw_cV (as := []) dX6_copy_35 moX2_isMissing voX2_isMissing mlX6_230 (k_X2_isMissing eq9) rfl (rm_ok (by omega) (by decide)) ⟨Nat.le_refl _, Nat.le_refl _⟩ (Nat.le_of_ble_eq_true rfl) rfl (c_X2_isMissing eq9) ?_
      refine aw_if_ne (tgt := 49) dX6_copy_38 (by decide) (fun c10 => ?_) (fun c10 => ?_)
      · have hf := i_neg c10 hf
        refine aw_bipush (v := -11) dX6_copy_49 (by decide) ?_
        have hq := Option.some.inj hf
        subst hq
        exact aw_iret hr dX6_copy_51 ⟨rfl, rfl, rfl⟩
      · have hf := i_pos c10 hf
        refine aw_aload 0 dX6_copy_41 rfl ?_
        obtain ⟨q11, eq11, hf⟩ := b_some hf
        refine aw_cV (as := []) dX6_copy_43 moX2_isMissing voX2_isMissing mlX6_230 (k_X2_isMissing eq11) rfl (rm_ok (by omega) (by decide)) ⟨Nat.le_refl _, Nat.le_refl _⟩ (Nat.le_of_ble_eq_true rfl) rfl (c_X2_isMissing eq11) ?_
        refine aw_if_eq (tgt := 52) dX6_copy_46 (by decide) (fun c12 => ?_) (fun c12 => ?_)
        · have hf := i_pos c12 hf
          refine aw_aload 1 dX6_copy_52 rfl ?_
          obtain ⟨x13, ex13, hf⟩ := b_some hf
          refine aw_getI dX6_copy_54 gfX6_248 ex13 ?_
          refine aw_aload 0 dX6_copy_57 rfl ?_
          obtain ⟨x14, ex14, hf⟩ := b_some hf
          refine aw_getI dX6_copy_59 gfX6_248 ex14 ?_
          refine aw_icmp_eq (tgt := 68) dX6_copy_62 (by decide) (fun c15 => ?_) (fun c15 => ?_)
          · have hf := i_pos c15 hf
            refine aw_aload 1 dX6_copy_68 rfl ?_
            refine aw_iload_n 4 dX6_copy_70 rfl rfl ?_
            refine aw_iload 7 dX6_copy_71 rfl ?_
            obtain ⟨q16, eq16, hf⟩ := b_some hf
            refine aw_cV (as := [.int l2, .int l5]) dX6_copy_73 moX2_holds voX2_holds mlX6_251 (k_X2_holds eq16) rfl (rm_ok (by omega) (by decide)) ⟨Nat.le_refl _, Nat.le_refl _⟩ (Nat.le_of_ble_eq_true rfl) rfl (c_X2_holds eq16) ?_
            refine aw_if_eq (tgt := 91) dX6_copy_76 (by decide) (fun c17 => ?_) (fun c17 => ?_)
            · have hf := i_pos c17 hf
              refine aw_bipush (v := -12) dX6_copy_91 (by decide) ?_
              have hq := Option.some.inj hf
              subst hq
              exact aw_iret hr dX6_copy_93 ⟨rfl, rfl, rfl⟩
            · have hf := i_neg c17 hf
              refine aw_aload 0 dX6_copy_79 rfl ?_
              refine aw_iload 6 dX6_copy_81 rfl ?_
              refine aw_iload 7 dX6_copy_83 rfl ?_
              obtain ⟨q18, eq18, hf⟩ := b_some hf
              refine aw_cV (as := [.int l4, .int l5]) dX6_copy_85 moX2_holds voX2_holds mlX6_251 (k_X2_holds eq18) rfl (rm_ok (by omega) (by decide)) ⟨Nat.le_refl _, Nat.le_refl _⟩ (Nat.le_of_ble_eq_true rfl) rfl (c_X2_holds eq18) ?_
              refine aw_if_ne (tgt := 94) dX6_copy_88 (by decide) (fun c19 => ?_) (fun c19 => ?_)
              · have hf := i_neg c19 hf
                refine aw_aload 1 dX6_copy_94 rfl ?_
                obtain ⟨r20, er20, hf⟩ := b_some hf
                refine aw_getR dX6_copy_96 gfX6_234 er20 ?_
                refine aw_iload_n 4 dX6_copy_99 rfl rfl ?_
                refine aw_aload 0 dX6_copy_100 rfl ?_
                obtain ⟨r21, er21, hf⟩ := b_some hf
                refine aw_getR dX6_copy_102 gfX6_234 er21 ?_
                refine aw_iload 6 dX6_copy_105 rfl ?_
                refine aw_iload 7 dX6_copy_107 rfl ?_
                obtain ⟨h22, eh22, hf⟩ := b_some hf
                refine aw_copy dX6_copy_109 mlX6_254 (by decide) (Nat.le_of_ble_eq_true rfl) eh22 ?_
                refine aw_iload 7 dX6_copy_112 rfl ?_
                have hq := Option.some.inj hf
                subst hq
                exact aw_iret hr dX6_copy_114 ⟨rfl, rfl, rfl⟩
              · have hf := i_pos c19 hf
                refine aw_bipush (v := -12) dX6_copy_91 (by decide) ?_
                have hq := Option.some.inj hf
                subst hq
                exact aw_iret hr dX6_copy_93 ⟨rfl, rfl, rfl⟩
          · have hf := i_neg c15 hf
            refine aw_bipush (v := -13) dX6_copy_65 (by decide) ?_
            have hq := Option.some.inj hf
            subst hq
            exact aw_iret hr dX6_copy_67 ⟨rfl, rfl, rfl⟩
        · have hf := i_neg c12 hf
          refine aw_bipush (v := -11) dX6_copy_49 (by decide) ?_
          have hq := Option.some.inj hf
          subst hq
          exact aw_iret hr dX6_copy_51 ⟨rfl, rfl, rfl⟩
    · have hf := i_pos c4 hf
      refine aw_bipush (v := -2) dX6_copy_14 (by decide) ?_
      have hq := Option.some.inj hf
      subst hq
      exact aw_iret hr dX6_copy_16 ⟨rfl, rfl, rfl⟩
theorem k_X6_copy {l0 : Nat} {l1 : Int32} {l2 : Int32} {l3 : Int32} {l4 : Int32} {l5 : Int32} {h0 : Hp} {q : Int32 × Hp} (hf : f_X6_copy l0 l1 l2 l3 l4 l5 h0 = some q) : ck h0 l0 6 = some () := by
  unfold f_X6_copy at hf
  obtain ⟨u0, e0, hf⟩ := b_some hf
  exact e0
theorem dX6_count_0 : decode cX6_count 0 = .ok (.iload_n 1, 1) := by decide +kernel
theorem dX6_count_1 : decode cX6_count 1 = .ok (.tableswitch 78 0 4 #[35, 43, 51, 62, 70], 35) := by decide +kernel
theorem dX6_count_36 : decode cX6_count 36 = .ok (.aload_n 0, 1) := by decide +kernel
theorem dX6_count_37 : decode cX6_count 37 = .ok (.getfield 19, 3) := by decide +kernel
theorem dX6_count_40 : decode cX6_count 40 = .ok (.getfield 215, 3) := by decide +kernel
theorem dX6_count_43 : decode cX6_count 43 = .ok (.ireturn, 1) := by decide +kernel
theorem dX6_count_44 : decode cX6_count 44 = .ok (.aload_n 0, 1) := by decide +kernel
theorem dX6_count_45 : decode cX6_count 45 = .ok (.getfield 19, 3) := by decide +kernel
theorem dX6_count_48 : decode cX6_count 48 = .ok (.getfield 135, 3) := by decide +kernel
theorem dX6_count_51 : decode cX6_count 51 = .ok (.ireturn, 1) := by decide +kernel
theorem dX6_count_52 : decode cX6_count 52 = .ok (.aload_n 0, 1) := by decide +kernel
theorem dX6_count_53 : decode cX6_count 53 = .ok (.getfield 19, 3) := by decide +kernel
theorem dX6_count_56 : decode cX6_count 56 = .ok (.invokevirtual 175, 3) := by decide +kernel
theorem dX6_count_59 : decode cX6_count 59 = .ok (.invokestatic 182, 3) := by decide +kernel
theorem dX6_count_62 : decode cX6_count 62 = .ok (.ireturn, 1) := by decide +kernel
theorem dX6_count_63 : decode cX6_count 63 = .ok (.aload_n 0, 1) := by decide +kernel
theorem dX6_count_64 : decode cX6_count 64 = .ok (.getfield 10, 3) := by decide +kernel
theorem dX6_count_67 : decode cX6_count 67 = .ok (.getfield 65, 3) := by decide +kernel
theorem dX6_count_70 : decode cX6_count 70 = .ok (.ireturn, 1) := by decide +kernel
theorem dX6_count_71 : decode cX6_count 71 = .ok (.aload_n 0, 1) := by decide +kernel
theorem dX6_count_72 : decode cX6_count 72 = .ok (.getfield 19, 3) := by decide +kernel
theorem dX6_count_75 : decode cX6_count 75 = .ok (.getfield 90, 3) := by decide +kernel
theorem dX6_count_78 : decode cX6_count 78 = .ok (.ireturn, 1) := by decide +kernel
theorem dX6_count_79 : decode cX6_count 79 = .ok (.bipush (-2), 2) := by decide +kernel
theorem dX6_count_81 : decode cX6_count 81 = .ok (.ireturn, 1) := by decide +kernel
def f_X6_count (l0 : Nat) (l1 : Int32) (h0 : Hp) : Option (Int32 × Hp) :=
  (ck h0 l0 6).bind fun _ => if l1 = 0 then ((gR h0 l0 6 1).bind fun r2 => (gI h0 r2 0 0).bind fun x3 => some (x3, h0)) else if l1 = 1 then ((gR h0 l0 6 1).bind fun r5 => (gI h0 r5 0 1).bind fun x6 => some (x6, h0)) else if l1 = 2 then ((gR h0 l0 6 1).bind fun r8 => (f_X0_left r8 h0).bind fun q9 => (f_J6_bitCount_0f7a4 q9.1 q9.2).bind fun q10 => some (q10.1, q10.2)) else if l1 = 3 then ((gR h0 l0 6 0).bind fun r12 => (gI h0 r12 4 1).bind fun x13 => some (x13, h0)) else if l1 = 4 then ((gR h0 l0 6 1).bind fun r15 => (gI h0 r15 0 2).bind fun x16 => some (x16, h0)) else (some ((-2 : Int32), h0))
set_option maxRecDepth 100000 in
set_option maxHeartbeats 4000000 in
theorem c_X6_count {l0 : Nat} {l1 : Int32} {h0 : Hp} {q : Int32 × Hp} (hf : f_X6_count l0 l1 h0 = some q) : Mt 3 yX6_count cX6_count 2 (some .int) [.ref l0, .int l1] h0 (some (.int q.1)) q.2 := by
  refine MtQ.of (by decide) (Nat.le_of_ble_eq_true rfl) (fun X adr hr hn => ?_)
  unfold f_X6_count at hf
  show AW X cX6_count 2 RX6 (rmd 3 0 0) (Qmet X 0 0 (Qe (some (.int q.1)) q.2 adr)) 0 0 adr h0 0 [(0, .ref l0), (1, .int l1)] []
  obtain ⟨u0, e0, hf⟩ := b_some hf
  refine aw_iload_n 1 dX6_count_0 rfl rfl ?_
  by_cases c1 : l1 = 0
  · have hf := i_pos c1 hf
    refine aw_tabIn (tgt := 36) dX6_count_1 (by rw [c1]; decide) (by rw [c1]; decide) (by rw [c1]; rfl) (by decide) ?_
    refine aw_aload_n 0 dX6_count_36 rfl rfl ?_
    obtain ⟨r2, er2, hf⟩ := b_some hf
    refine aw_getR dX6_count_37 gfX6_19 er2 ?_
    obtain ⟨x3, ex3, hf⟩ := b_some hf
    refine aw_getI dX6_count_40 gfX6_215 ex3 ?_
    have hq := Option.some.inj hf
    subst hq
    exact aw_iret hr dX6_count_43 ⟨rfl, rfl, rfl⟩
  have hf := i_neg c1 hf
  by_cases c4 : l1 = 1
  · have hf := i_pos c4 hf
    refine aw_tabIn (tgt := 44) dX6_count_1 (by rw [c4]; decide) (by rw [c4]; decide) (by rw [c4]; rfl) (by decide) ?_
    refine aw_aload_n 0 dX6_count_44 rfl rfl ?_
    obtain ⟨r5, er5, hf⟩ := b_some hf
    refine aw_getR dX6_count_45 gfX6_19 er5 ?_
    obtain ⟨x6, ex6, hf⟩ := b_some hf
    refine aw_getI dX6_count_48 gfX6_135 ex6 ?_
    have hq := Option.some.inj hf
    subst hq
    exact aw_iret hr dX6_count_51 ⟨rfl, rfl, rfl⟩
  have hf := i_neg c4 hf
  by_cases c7 : l1 = 2
  · have hf := i_pos c7 hf
    refine aw_tabIn (tgt := 52) dX6_count_1 (by rw [c7]; decide) (by rw [c7]; decide) (by rw [c7]; rfl) (by decide) ?_
    refine aw_aload_n 0 dX6_count_52 rfl rfl ?_
    obtain ⟨r8, er8, hf⟩ := b_some hf
    refine aw_getR dX6_count_53 gfX6_19 er8 ?_
    obtain ⟨q9, eq9, hf⟩ := b_some hf
    refine aw_cV (as := []) dX6_count_56 moX0_left voX0_left mlX6_175 (k_X0_left eq9) rfl (rm_ok (by omega) (by decide)) ⟨Nat.le_refl _, Nat.le_refl _⟩ (Nat.le_of_ble_eq_true rfl) rfl (c_X0_left eq9) ?_
    obtain ⟨q10, eq10, hf⟩ := b_some hf
    refine aw_cS (as := [.int q9.1]) dX6_count_59 moJ6_bitCount_0f7a4 soJ6_bitCount_0f7a4 mlX6_182 (rm_ok (by omega) (by decide)) ⟨Nat.le_refl _, Nat.le_refl _⟩ (Nat.le_of_ble_eq_true rfl) rfl (c_J6_bitCount_0f7a4 eq10) ?_
    have hq := Option.some.inj hf
    subst hq
    exact aw_iret hr dX6_count_62 ⟨rfl, rfl, rfl⟩
  have hf := i_neg c7 hf
  by_cases c11 : l1 = 3
  · have hf := i_pos c11 hf
    refine aw_tabIn (tgt := 63) dX6_count_1 (by rw [c11]; decide) (by rw [c11]; decide) (by rw [c11]; rfl) (by decide) ?_
    refine aw_aload_n 0 dX6_count_63 rfl rfl ?_
    obtain ⟨r12, er12, hf⟩ := b_some hf
    refine aw_getR dX6_count_64 gfX6_10 er12 ?_
    obtain ⟨x13, ex13, hf⟩ := b_some hf
    refine aw_getI dX6_count_67 gfX6_65 ex13 ?_
    have hq := Option.some.inj hf
    subst hq
    exact aw_iret hr dX6_count_70 ⟨rfl, rfl, rfl⟩
  have hf := i_neg c11 hf
  by_cases c14 : l1 = 4
  · have hf := i_pos c14 hf
    refine aw_tabIn (tgt := 71) dX6_count_1 (by rw [c14]; decide) (by rw [c14]; decide) (by rw [c14]; rfl) (by decide) ?_
    refine aw_aload_n 0 dX6_count_71 rfl rfl ?_
    obtain ⟨r15, er15, hf⟩ := b_some hf
    refine aw_getR dX6_count_72 gfX6_19 er15 ?_
    obtain ⟨x16, ex16, hf⟩ := b_some hf
    refine aw_getI dX6_count_75 gfX6_90 ex16 ?_
    have hq := Option.some.inj hf
    subst hq
    exact aw_iret hr dX6_count_78 ⟨rfl, rfl, rfl⟩
  have hf := i_neg c14 hf
  refine aw_tabOut (tgt := 79) dX6_count_1 (tab_out (N := 5) (by decide) (by decide) (fun j hj => ?_)) (by decide) ?_
  · match j, hj with
    | 0, _ => exact c1
    | 1, _ => exact c4
    | 2, _ => exact c7
    | 3, _ => exact c11
    | 4, _ => exact c14
  refine aw_bipush (v := -2) dX6_count_79 (by decide) ?_
  have hq := Option.some.inj hf
  subst hq
  exact aw_iret hr dX6_count_81 ⟨rfl, rfl, rfl⟩
theorem k_X6_count {l0 : Nat} {l1 : Int32} {h0 : Hp} {q : Int32 × Hp} (hf : f_X6_count l0 l1 h0 = some q) : ck h0 l0 6 = some () := by
  unfold f_X6_count at hf
  obtain ⟨u0, e0, hf⟩ := b_some hf
  exact e0
theorem dX6_readTeam_0 : decode cX6_readTeam 0 = .ok (.aload_n 0, 1) := by decide +kernel
theorem dX6_readTeam_1 : decode cX6_readTeam 1 = .ok (.getfield 10, 3) := by decide +kernel
theorem dX6_readTeam_4 : decode cX6_readTeam 4 = .ok (.invokevirtual 264, 3) := by decide +kernel
theorem dX6_readTeam_7 : decode cX6_readTeam 7 = .ok (.aload_n 0, 1) := by decide +kernel
theorem dX6_readTeam_8 : decode cX6_readTeam 8 = .ok (.getfield 10, 3) := by decide +kernel
theorem dX6_readTeam_11 : decode cX6_readTeam 11 = .ok (.invokevirtual 303, 3) := by decide +kernel
theorem dX6_readTeam_14 : decode cX6_readTeam 14 = .ok (.ifCond .ne 5, 3) := by decide +kernel
theorem dX6_readTeam_17 : decode cX6_readTeam 17 = .ok (.iconst (-1), 1) := by decide +kernel
theorem dX6_readTeam_18 : decode cX6_readTeam 18 = .ok (.ireturn, 1) := by decide +kernel
theorem dX6_readTeam_19 : decode cX6_readTeam 19 = .ok (.aload_n 0, 1) := by decide +kernel
theorem dX6_readTeam_20 : decode cX6_readTeam 20 = .ok (.getfield 19, 3) := by decide +kernel
theorem dX6_readTeam_23 : decode cX6_readTeam 23 = .ok (.aload_n 0, 1) := by decide +kernel
theorem dX6_readTeam_24 : decode cX6_readTeam 24 = .ok (.getfield 10, 3) := by decide +kernel
theorem dX6_readTeam_27 : decode cX6_readTeam 27 = .ok (.getfield 80, 3) := by decide +kernel
theorem dX6_readTeam_30 : decode cX6_readTeam 30 = .ok (.aload_n 0, 1) := by decide +kernel
theorem dX6_readTeam_31 : decode cX6_readTeam 31 = .ok (.getfield 10, 3) := by decide +kernel
theorem dX6_readTeam_34 : decode cX6_readTeam 34 = .ok (.getfield 297, 3) := by decide +kernel
theorem dX6_readTeam_37 : decode cX6_readTeam 37 = .ok (.aload_n 0, 1) := by decide +kernel
theorem dX6_readTeam_38 : decode cX6_readTeam 38 = .ok (.getfield 10, 3) := by decide +kernel
theorem dX6_readTeam_41 : decode cX6_readTeam 41 = .ok (.getfield 300, 3) := by decide +kernel
theorem dX6_readTeam_44 : decode cX6_readTeam 44 = .ok (.invokevirtual 83, 3) := by decide +kernel
theorem dX6_readTeam_47 : decode cX6_readTeam 47 = .ok (.istore_n 2, 1) := by decide +kernel
theorem dX6_readTeam_48 : decode cX6_readTeam 48 = .ok (.iload_n 2, 1) := by decide +kernel
theorem dX6_readTeam_49 : decode cX6_readTeam 49 = .ok (.iload_n 1, 1) := by decide +kernel
theorem dX6_readTeam_50 : decode cX6_readTeam 50 = .ok (.if_icmp .ne 7, 3) := by decide +kernel
theorem dX6_readTeam_53 : decode cX6_readTeam 53 = .ok (.iconst (-1), 1) := by decide +kernel
theorem dX6_readTeam_54 : decode cX6_readTeam 54 = .ok (.goto 4, 3) := by decide +kernel
theorem dX6_readTeam_57 : decode cX6_readTeam 57 = .ok (.iload_n 2, 1) := by decide +kernel
theorem dX6_readTeam_58 : decode cX6_readTeam 58 = .ok (.ireturn, 1) := by decide +kernel
def f_X6_readTeam (l0 : Nat) (l1 : Int32) (h0 : Hp) : Option (Int32 × Hp) :=
  (ck h0 l0 6).bind fun _ => (gR h0 l0 6 0).bind fun r1 => (f_X4_step r1 h0).bind fun q2 => (gR q2.2 l0 6 0).bind fun r3 => (f_X4_isName r3 q2.2).bind fun q4 => if q4.1 = 0 then (some ((-1 : Int32), q4.2)) else ((gR q4.2 l0 6 1).bind fun r6 => (gR q4.2 l0 6 0).bind fun r7 => (gR q4.2 r7 4 0).bind fun r8 => (gR q4.2 l0 6 0).bind fun r9 => (gI q4.2 r9 4 2).bind fun x10 => (gR q4.2 l0 6 0).bind fun r11 => (gI q4.2 r11 4 3).bind fun x12 => (f_X0_whose r6 r8 x10 x12 q4.2).bind fun q13 => if q13.1 = l1 then (some ((-1 : Int32), q13.2)) else (some (q13.1, q13.2)))
set_option maxRecDepth 100000 in
set_option maxHeartbeats 4000000 in
theorem c_X6_readTeam {l0 : Nat} {l1 : Int32} {h0 : Hp} {q : Int32 × Hp} (hf : f_X6_readTeam l0 l1 h0 = some q) : Mt 7 yX6_readTeam cX6_readTeam 3 (some .int) [.ref l0, .int l1] h0 (some (.int q.1)) q.2 := by
  refine MtQ.of (by decide) (Nat.le_of_ble_eq_true rfl) (fun X adr hr hn => ?_)
  unfold f_X6_readTeam at hf
  show AW X cX6_readTeam 3 RX6 (rmd 7 0 0) (Qmet X 0 0 (Qe (some (.int q.1)) q.2 adr)) 0 0 adr h0 0 [(0, .ref l0), (1, .int l1)] []
  obtain ⟨u0, e0, hf⟩ := b_some hf
  refine aw_aload_n 0 dX6_readTeam_0 rfl rfl ?_
  obtain ⟨r1, er1, hf⟩ := b_some hf
  refine aw_getR dX6_readTeam_1 gfX6_10 er1 ?_
  obtain ⟨q2, eq2, hf⟩ := b_some hf
  refine aw_cV0 (as := []) dX6_readTeam_4 moX4_step voX4_step mlX6_264 (k_X4_step eq2) rfl (rm_ok (by omega) (by decide)) ⟨Nat.le_refl _, Nat.le_refl _⟩ (Nat.le_of_ble_eq_true rfl) rfl (c_X4_step eq2) ?_
  refine aw_aload_n 0 dX6_readTeam_7 rfl rfl ?_
  obtain ⟨r3, er3, hf⟩ := b_some hf
  refine aw_getR dX6_readTeam_8 gfX6_10 er3 ?_
  obtain ⟨q4, eq4, hf⟩ := b_some hf
  refine aw_cV (as := []) dX6_readTeam_11 moX4_isName voX4_isName mlX6_303 (k_X4_isName eq4) rfl (rm_ok (by omega) (by decide)) ⟨Nat.le_refl _, Nat.le_refl _⟩ (Nat.le_of_ble_eq_true rfl) rfl (c_X4_isName eq4) ?_
  refine aw_if_ne (tgt := 19) dX6_readTeam_14 (by decide) (fun c5 => ?_) (fun c5 => ?_)
  · have hf := i_neg c5 hf
    refine aw_aload_n 0 dX6_readTeam_19 rfl rfl ?_
    obtain ⟨r6, er6, hf⟩ := b_some hf
    refine aw_getR dX6_readTeam_20 gfX6_19 er6 ?_
    refine aw_aload_n 0 dX6_readTeam_23 rfl rfl ?_
    obtain ⟨r7, er7, hf⟩ := b_some hf
    refine aw_getR dX6_readTeam_24 gfX6_10 er7 ?_
    obtain ⟨r8, er8, hf⟩ := b_some hf
    refine aw_getR dX6_readTeam_27 gfX6_80 er8 ?_
    refine aw_aload_n 0 dX6_readTeam_30 rfl rfl ?_
    obtain ⟨r9, er9, hf⟩ := b_some hf
    refine aw_getR dX6_readTeam_31 gfX6_10 er9 ?_
    obtain ⟨x10, ex10, hf⟩ := b_some hf
    refine aw_getI dX6_readTeam_34 gfX6_297 ex10 ?_
    refine aw_aload_n 0 dX6_readTeam_37 rfl rfl ?_
    obtain ⟨r11, er11, hf⟩ := b_some hf
    refine aw_getR dX6_readTeam_38 gfX6_10 er11 ?_
    obtain ⟨x12, ex12, hf⟩ := b_some hf
    refine aw_getI dX6_readTeam_41 gfX6_300 ex12 ?_
    obtain ⟨q13, eq13, hf⟩ := b_some hf
    refine aw_cV (as := [.ref r8, .int x10, .int x12]) dX6_readTeam_44 moX0_whose voX0_whose mlX6_83 (k_X0_whose eq13) rfl (rm_ok (by omega) (by decide)) ⟨Nat.le_refl _, Nat.le_refl _⟩ (Nat.le_of_ble_eq_true rfl) rfl (c_X0_whose eq13) ?_
    refine aw_istore_n (L' := [(2, .int q13.1), (0, .ref l0), (1, .int l1)]) dX6_readTeam_47 rfl (by decide) rfl ?_
    refine aw_iload_n 0 dX6_readTeam_48 rfl rfl ?_
    refine aw_iload_n 2 dX6_readTeam_49 rfl rfl ?_
    refine aw_icmp_ne (tgt := 57) dX6_readTeam_50 (by decide) (fun c14 => ?_) (fun c14 => ?_)
    · have hf := i_neg c14 hf
      refine aw_iload_n 0 dX6_readTeam_57 rfl rfl ?_
      have hq := Option.some.inj hf
      subst hq
      exact aw_iret hr dX6_readTeam_58 ⟨rfl, rfl, rfl⟩
    · have hf := i_pos c14 hf
      refine aw_iconst (v := -1) dX6_readTeam_53 (by decide) ?_
      refine aw_goto (tgt := 58) dX6_readTeam_54 (by decide) ?_
      have hq := Option.some.inj hf
      subst hq
      exact aw_iret hr dX6_readTeam_58 ⟨rfl, rfl, rfl⟩
  · have hf := i_pos c5 hf
    refine aw_iconst (v := -1) dX6_readTeam_17 (by decide) ?_
    have hq := Option.some.inj hf
    subst hq
    exact aw_iret hr dX6_readTeam_18 ⟨rfl, rfl, rfl⟩
theorem k_X6_readTeam {l0 : Nat} {l1 : Int32} {h0 : Hp} {q : Int32 × Hp} (hf : f_X6_readTeam l0 l1 h0 = some q) : ck h0 l0 6 = some () := by
  unfold f_X6_readTeam at hf
  obtain ⟨u0, e0, hf⟩ := b_some hf
  exact e0
theorem dX6_doGame_0 : decode cX6_doGame 0 = .ok (.aload_n 0, 1) := by decide +kernel
theorem dX6_doGame_1 : decode cX6_doGame 1 = .ok (.iconst (-1), 1) := by decide +kernel
theorem dX6_doGame_2 : decode cX6_doGame 2 = .ok (.invokevirtual 312, 3) := by decide +kernel
theorem dX6_doGame_5 : decode cX6_doGame 5 = .ok (.istore_n 1, 1) := by decide +kernel
theorem dX6_doGame_6 : decode cX6_doGame 6 = .ok (.iload_n 1, 1) := by decide +kernel
theorem dX6_doGame_7 : decode cX6_doGame 7 = .ok (.iconst (-1), 1) := by decide +kernel
theorem dX6_doGame_8 : decode cX6_doGame 8 = .ok (.if_icmp .ne 11, 3) := by decide +kernel
theorem dX6_doGame_11 : decode cX6_doGame 11 = .ok (.aload_n 0, 1) := by decide +kernel
theorem dX6_doGame_12 : decode cX6_doGame 12 = .ok (.getfield 10, 3) := by decide +kernel
theorem dX6_doGame_15 : decode cX6_doGame 15 = .ok (.invokevirtual 294, 3) := by decide +kernel
theorem dX6_doGame_18 : decode cX6_doGame 18 = .ok (.ireturn, 1) := by decide +kernel
theorem dX6_doGame_19 : decode cX6_doGame 19 = .ok (.aload_n 0, 1) := by decide +kernel
theorem dX6_doGame_20 : decode cX6_doGame 20 = .ok (.iload_n 1, 1) := by decide +kernel
theorem dX6_doGame_21 : decode cX6_doGame 21 = .ok (.invokevirtual 312, 3) := by decide +kernel
theorem dX6_doGame_24 : decode cX6_doGame 24 = .ok (.istore_n 2, 1) := by decide +kernel
theorem dX6_doGame_25 : decode cX6_doGame 25 = .ok (.iload_n 2, 1) := by decide +kernel
theorem dX6_doGame_26 : decode cX6_doGame 26 = .ok (.iconst (-1), 1) := by decide +kernel
theorem dX6_doGame_27 : decode cX6_doGame 27 = .ok (.if_icmp .ne 11, 3) := by decide +kernel
theorem dX6_doGame_30 : decode cX6_doGame 30 = .ok (.aload_n 0, 1) := by decide +kernel
theorem dX6_doGame_31 : decode cX6_doGame 31 = .ok (.getfield 10, 3) := by decide +kernel
theorem dX6_doGame_34 : decode cX6_doGame 34 = .ok (.invokevirtual 294, 3) := by decide +kernel
theorem dX6_doGame_37 : decode cX6_doGame 37 = .ok (.ireturn, 1) := by decide +kernel
theorem dX6_doGame_38 : decode cX6_doGame 38 = .ok (.aload_n 0, 1) := by decide +kernel
theorem dX6_doGame_39 : decode cX6_doGame 39 = .ok (.getfield 10, 3) := by decide +kernel
theorem dX6_doGame_42 : decode cX6_doGame 42 = .ok (.iconst 1, 1) := by decide +kernel
theorem dX6_doGame_43 : decode cX6_doGame 43 = .ok (.bipush 30, 2) := by decide +kernel
theorem dX6_doGame_45 : decode cX6_doGame 45 = .ok (.invokevirtual 315, 3) := by decide +kernel
theorem dX6_doGame_48 : decode cX6_doGame 48 = .ok (.istore_n 3, 1) := by decide +kernel
theorem dX6_doGame_49 : decode cX6_doGame 49 = .ok (.iload_n 3, 1) := by decide +kernel
theorem dX6_doGame_50 : decode cX6_doGame 50 = .ok (.iconst (-1), 1) := by decide +kernel
theorem dX6_doGame_51 : decode cX6_doGame 51 = .ok (.if_icmp .eq 13, 3) := by decide +kernel
theorem dX6_doGame_54 : decode cX6_doGame 54 = .ok (.aload_n 0, 1) := by decide +kernel
theorem dX6_doGame_55 : decode cX6_doGame 55 = .ok (.getfield 10, 3) := by decide +kernel
theorem dX6_doGame_58 : decode cX6_doGame 58 = .ok (.invokevirtual 306, 3) := by decide +kernel
theorem dX6_doGame_61 : decode cX6_doGame 61 = .ok (.ifCond .ne 11, 3) := by decide +kernel
theorem dX6_doGame_64 : decode cX6_doGame 64 = .ok (.aload_n 0, 1) := by decide +kernel
theorem dX6_doGame_65 : decode cX6_doGame 65 = .ok (.getfield 10, 3) := by decide +kernel
theorem dX6_doGame_68 : decode cX6_doGame 68 = .ok (.invokevirtual 294, 3) := by decide +kernel
theorem dX6_doGame_71 : decode cX6_doGame 71 = .ok (.ireturn, 1) := by decide +kernel
theorem dX6_doGame_72 : decode cX6_doGame 72 = .ok (.aload_n 0, 1) := by decide +kernel
theorem dX6_doGame_73 : decode cX6_doGame 73 = .ok (.getfield 19, 3) := by decide +kernel
theorem dX6_doGame_76 : decode cX6_doGame 76 = .ok (.iload_n 1, 1) := by decide +kernel
theorem dX6_doGame_77 : decode cX6_doGame 77 = .ok (.iload_n 2, 1) := by decide +kernel
theorem dX6_doGame_78 : decode cX6_doGame 78 = .ok (.iload_n 3, 1) := by decide +kernel
theorem dX6_doGame_79 : decode cX6_doGame 79 = .ok (.invokevirtual 260, 3) := by decide +kernel
theorem dX6_doGame_82 : decode cX6_doGame 82 = .ok (.istore 4, 2) := by decide +kernel
theorem dX6_doGame_84 : decode cX6_doGame 84 = .ok (.iload 4, 2) := by decide +kernel
theorem dX6_doGame_86 : decode cX6_doGame 86 = .ok (.iconst (-1), 1) := by decide +kernel
theorem dX6_doGame_87 : decode cX6_doGame 87 = .ok (.if_icmp .ne 8, 3) := by decide +kernel
theorem dX6_doGame_90 : decode cX6_doGame 90 = .ok (.bipush (-4), 2) := by decide +kernel
theorem dX6_doGame_92 : decode cX6_doGame 92 = .ok (.goto 5, 3) := by decide +kernel
theorem dX6_doGame_95 : decode cX6_doGame 95 = .ok (.iload 4, 2) := by decide +kernel
theorem dX6_doGame_97 : decode cX6_doGame 97 = .ok (.ireturn, 1) := by decide +kernel
def f_X6_doGame_64 (l0 : Nat) (h0 : Hp) : Option (Int32 × Hp) :=
  (gR h0 l0 6 0).bind fun r1 => (f_X4_fault r1 h0).bind fun q2 => some (q2.1, q2.2)
set_option maxRecDepth 100000 in
set_option maxHeartbeats 4000000 in
theorem c_X6_doGame_64 {X : Cx} {adr : Nat → Nat} {q : Int32 × Hp} (hr : (mth X).sig.returnType = (some .int)) {l0 : Nat} {h0 : Hp} (hf : f_X6_doGame_64 l0 h0 = some q) : AW X cX6_doGame 5 RX6 (rmd 8 0 0) (Qmet X 0 0 (Qe (some (.int q.1)) q.2 adr)) 0 0 adr h0 64 [(0, .ref l0)] [] := by
  unfold f_X6_doGame_64 at hf
  refine aw_aload_n 0 dX6_doGame_64 rfl rfl ?_
  obtain ⟨r1, er1, hf⟩ := b_some hf
  refine aw_getR dX6_doGame_65 gfX6_10 er1 ?_
  obtain ⟨q2, eq2, hf⟩ := b_some hf
  refine aw_cV (as := []) dX6_doGame_68 moX4_fault voX4_fault mlX6_294 (k_X4_fault eq2) rfl (rm_ok (by omega) (by decide)) ⟨Nat.le_refl _, Nat.le_refl _⟩ (Nat.le_of_ble_eq_true rfl) rfl (c_X4_fault eq2) ?_
  have hq := Option.some.inj hf
  subst hq
  exact aw_iret hr dX6_doGame_71 ⟨rfl, rfl, rfl⟩
def f_X6_doGame (l0 : Nat) (h0 : Hp) : Option (Int32 × Hp) :=
  (ck h0 l0 6).bind fun _ => (f_X6_readTeam l0 (-1 : Int32) h0).bind fun q1 => if q1.1 = (-1 : Int32) then ((gR q1.2 l0 6 0).bind fun r16 => (f_X4_fault r16 q1.2).bind fun q17 => some (q17.1, q17.2)) else ((f_X6_readTeam l0 q1.1 q1.2).bind fun q3 => if q3.1 = (-1 : Int32) then ((gR q3.2 l0 6 0).bind fun r14 => (f_X4_fault r14 q3.2).bind fun q15 => some (q15.1, q15.2)) else ((gR q3.2 l0 6 0).bind fun r5 => (f_X4_number r5 (1 : Int32) (30 : Int32) q3.2).bind fun q6 => if q6.1 = (-1 : Int32) then (f_X6_doGame_64 l0 q6.2) else ((gR q6.2 l0 6 0).bind fun r8 => (f_X4_ends r8 q6.2).bind fun q9 => if q9.1 = 0 then (f_X6_doGame_64 l0 q9.2) else ((gR q9.2 l0 6 1).bind fun r11 => (f_X0_addGame r11 q1.1 q3.1 q6.1 q9.2).bind fun q12 => if q12.1 = (-1 : Int32) then (some ((-4 : Int32), q12.2)) else (some (q12.1, q12.2))))))
set_option maxRecDepth 100000 in
set_option maxHeartbeats 4000000 in
theorem c_X6_doGame {l0 : Nat} {h0 : Hp} {q : Int32 × Hp} (hf : f_X6_doGame l0 h0 = some q) : Mt 8 yX6_doGame cX6_doGame 5 (some .int) [.ref l0] h0 (some (.int q.1)) q.2 := by
  refine MtQ.of (by decide) (Nat.le_of_ble_eq_true rfl) (fun X adr hr hn => ?_)
  unfold f_X6_doGame at hf
  show AW X cX6_doGame 5 RX6 (rmd 8 0 0) (Qmet X 0 0 (Qe (some (.int q.1)) q.2 adr)) 0 0 adr h0 0 [(0, .ref l0)] []
  obtain ⟨u0, e0, hf⟩ := b_some hf
  refine aw_aload_n 0 dX6_doGame_0 rfl rfl ?_
  refine aw_iconst (v := -1) dX6_doGame_1 (by decide) ?_
  obtain ⟨q1, eq1, hf⟩ := b_some hf
  refine aw_cV (as := [.int (-1 : Int32)]) dX6_doGame_2 moX6_readTeam voX6_readTeam mlX6_312 (k_X6_readTeam eq1) rfl (rm_ok (by omega) (by decide)) ⟨Nat.le_refl _, Nat.le_refl _⟩ (Nat.le_of_ble_eq_true rfl) rfl (c_X6_readTeam eq1) ?_
  refine aw_istore_n (L' := [(1, .int q1.1), (0, .ref l0)]) dX6_doGame_5 rfl (by decide) rfl ?_
  refine aw_iload_n 0 dX6_doGame_6 rfl rfl ?_
  refine aw_iconst (v := -1) dX6_doGame_7 (by decide) ?_
  refine aw_icmp_ne (tgt := 19) dX6_doGame_8 (by decide) (fun c2 => ?_) (fun c2 => ?_)
  · have hf := i_neg c2 hf
    refine aw_aload_n 1 dX6_doGame_19 rfl rfl ?_
    refine aw_iload_n 0 dX6_doGame_20 rfl rfl ?_
    obtain ⟨q3, eq3, hf⟩ := b_some hf
    refine aw_cV (as := [.int q1.1]) dX6_doGame_21 moX6_readTeam voX6_readTeam mlX6_312 (k_X6_readTeam eq3) rfl (rm_ok (by omega) (by decide)) ⟨Nat.le_refl _, Nat.le_refl _⟩ (Nat.le_of_ble_eq_true rfl) rfl (c_X6_readTeam eq3) ?_
    refine aw_istore_n (L' := [(2, .int q3.1), (1, .int q1.1), (0, .ref l0)]) dX6_doGame_24 rfl (by decide) rfl ?_
    refine aw_iload_n 0 dX6_doGame_25 rfl rfl ?_
    refine aw_iconst (v := -1) dX6_doGame_26 (by decide) ?_
    refine aw_icmp_ne (tgt := 38) dX6_doGame_27 (by decide) (fun c4 => ?_) (fun c4 => ?_)
    · have hf := i_neg c4 hf
      refine aw_aload_n 2 dX6_doGame_38 rfl rfl ?_
      obtain ⟨r5, er5, hf⟩ := b_some hf
      refine aw_getR dX6_doGame_39 gfX6_10 er5 ?_
      refine aw_iconst (v := 1) dX6_doGame_42 (by decide) ?_
      refine aw_bipush (v := 30) dX6_doGame_43 (by decide) ?_
      obtain ⟨q6, eq6, hf⟩ := b_some hf
      refine aw_cV (as := [.int (1 : Int32), .int (30 : Int32)]) dX6_doGame_45 moX4_number voX4_number mlX6_315 (k_X4_number eq6) rfl (rm_ok (by omega) (by decide)) ⟨Nat.le_refl _, Nat.le_refl _⟩ (Nat.le_of_ble_eq_true rfl) rfl (c_X4_number eq6) ?_
      refine aw_istore_n (L' := [(3, .int q6.1), (2, .int q3.1), (1, .int q1.1), (0, .ref l0)]) dX6_doGame_48 rfl (by decide) rfl ?_
      refine aw_iload_n 0 dX6_doGame_49 rfl rfl ?_
      refine aw_iconst (v := -1) dX6_doGame_50 (by decide) ?_
      refine aw_icmp_eq (tgt := 64) dX6_doGame_51 (by decide) (fun c7 => ?_) (fun c7 => ?_)
      · have hf := i_pos c7 hf
        exact aw_sub [3] rfl (c_X6_doGame_64 hr hf)
      · have hf := i_neg c7 hf
        refine aw_aload_n 3 dX6_doGame_54 rfl rfl ?_
        obtain ⟨r8, er8, hf⟩ := b_some hf
        refine aw_getR dX6_doGame_55 gfX6_10 er8 ?_
        obtain ⟨q9, eq9, hf⟩ := b_some hf
        refine aw_cV (as := []) dX6_doGame_58 moX4_ends voX4_ends mlX6_306 (k_X4_ends eq9) rfl (rm_ok (by omega) (by decide)) ⟨Nat.le_refl _, Nat.le_refl _⟩ (Nat.le_of_ble_eq_true rfl) rfl (c_X4_ends eq9) ?_
        refine aw_if_ne (tgt := 72) dX6_doGame_61 (by decide) (fun c10 => ?_) (fun c10 => ?_)
        · have hf := i_neg c10 hf
          refine aw_aload_n 3 dX6_doGame_72 rfl rfl ?_
          obtain ⟨r11, er11, hf⟩ := b_some hf
          refine aw_getR dX6_doGame_73 gfX6_19 er11 ?_
          refine aw_iload_n 2 dX6_doGame_76 rfl rfl ?_
          refine aw_iload_n 1 dX6_doGame_77 rfl rfl ?_
          refine aw_iload_n 0 dX6_doGame_78 rfl rfl ?_
          obtain ⟨q12, eq12, hf⟩ := b_some hf
          refine aw_cV (as := [.int q1.1, .int q3.1, .int q6.1]) dX6_doGame_79 moX0_addGame voX0_addGame mlX6_260 (k_X0_addGame eq12) rfl (rm_ok (by omega) (by decide)) ⟨Nat.le_refl _, Nat.le_refl _⟩ (Nat.le_of_ble_eq_true rfl) rfl (c_X0_addGame eq12) ?_
          refine aw_istore (L' := [(4, .int q12.1), (3, .int q6.1), (2, .int q3.1), (1, .int q1.1), (0, .ref l0)]) dX6_doGame_82 (by decide) rfl ?_
          refine aw_iload 0 dX6_doGame_84 rfl ?_
          refine aw_iconst (v := -1) dX6_doGame_86 (by decide) ?_
          refine aw_icmp_ne (tgt := 95) dX6_doGame_87 (by decide) (fun c13 => ?_) (fun c13 => ?_)
          · have hf := i_neg c13 hf
            refine aw_iload 0 dX6_doGame_95 rfl ?_
            have hq := Option.some.inj hf
            subst hq
            exact aw_iret hr dX6_doGame_97 ⟨rfl, rfl, rfl⟩
          · have hf := i_pos c13 hf
            refine aw_bipush (v := -4) dX6_doGame_90 (by decide) ?_
            refine aw_goto (tgt := 97) dX6_doGame_92 (by decide) ?_
            have hq := Option.some.inj hf
            subst hq
            exact aw_iret hr dX6_doGame_97 ⟨rfl, rfl, rfl⟩
        · have hf := i_pos c10 hf
          exact aw_sub [3] rfl (c_X6_doGame_64 hr hf)
    · have hf := i_pos c4 hf
      refine aw_aload_n 2 dX6_doGame_30 rfl rfl ?_
      obtain ⟨r14, er14, hf⟩ := b_some hf
      refine aw_getR dX6_doGame_31 gfX6_10 er14 ?_
      obtain ⟨q15, eq15, hf⟩ := b_some hf
      refine aw_cV (as := []) dX6_doGame_34 moX4_fault voX4_fault mlX6_294 (k_X4_fault eq15) rfl (rm_ok (by omega) (by decide)) ⟨Nat.le_refl _, Nat.le_refl _⟩ (Nat.le_of_ble_eq_true rfl) rfl (c_X4_fault eq15) ?_
      have hq := Option.some.inj hf
      subst hq
      exact aw_iret hr dX6_doGame_37 ⟨rfl, rfl, rfl⟩
  · have hf := i_pos c2 hf
    refine aw_aload_n 1 dX6_doGame_11 rfl rfl ?_
    obtain ⟨r16, er16, hf⟩ := b_some hf
    refine aw_getR dX6_doGame_12 gfX6_10 er16 ?_
    obtain ⟨q17, eq17, hf⟩ := b_some hf
    refine aw_cV (as := []) dX6_doGame_15 moX4_fault voX4_fault mlX6_294 (k_X4_fault eq17) rfl (rm_ok (by omega) (by decide)) ⟨Nat.le_refl _, Nat.le_refl _⟩ (Nat.le_of_ble_eq_true rfl) rfl (c_X4_fault eq17) ?_
    have hq := Option.some.inj hf
    subst hq
    exact aw_iret hr dX6_doGame_18 ⟨rfl, rfl, rfl⟩
theorem k_X6_doGame {l0 : Nat} {h0 : Hp} {q : Int32 × Hp} (hf : f_X6_doGame l0 h0 = some q) : ck h0 l0 6 = some () := by
  unfold f_X6_doGame at hf
  obtain ⟨u0, e0, hf⟩ := b_some hf
  exact e0
theorem dX6_doPlay_0 : decode cX6_doPlay 0 = .ok (.aload_n 0, 1) := by decide +kernel
theorem dX6_doPlay_1 : decode cX6_doPlay 1 = .ok (.iconst (-1), 1) := by decide +kernel
theorem dX6_doPlay_2 : decode cX6_doPlay 2 = .ok (.invokevirtual 312, 3) := by decide +kernel
theorem dX6_doPlay_5 : decode cX6_doPlay 5 = .ok (.istore_n 2, 1) := by decide +kernel
theorem dX6_doPlay_6 : decode cX6_doPlay 6 = .ok (.iload_n 2, 1) := by decide +kernel
theorem dX6_doPlay_7 : decode cX6_doPlay 7 = .ok (.iconst (-1), 1) := by decide +kernel
theorem dX6_doPlay_8 : decode cX6_doPlay 8 = .ok (.if_icmp .ne 11, 3) := by decide +kernel
theorem dX6_doPlay_11 : decode cX6_doPlay 11 = .ok (.aload_n 0, 1) := by decide +kernel
theorem dX6_doPlay_12 : decode cX6_doPlay 12 = .ok (.getfield 10, 3) := by decide +kernel
theorem dX6_doPlay_15 : decode cX6_doPlay 15 = .ok (.invokevirtual 294, 3) := by decide +kernel
theorem dX6_doPlay_18 : decode cX6_doPlay 18 = .ok (.ireturn, 1) := by decide +kernel
theorem dX6_doPlay_19 : decode cX6_doPlay 19 = .ok (.aload_n 0, 1) := by decide +kernel
theorem dX6_doPlay_20 : decode cX6_doPlay 20 = .ok (.iload_n 2, 1) := by decide +kernel
theorem dX6_doPlay_21 : decode cX6_doPlay 21 = .ok (.invokevirtual 312, 3) := by decide +kernel
theorem dX6_doPlay_24 : decode cX6_doPlay 24 = .ok (.istore_n 3, 1) := by decide +kernel
theorem dX6_doPlay_25 : decode cX6_doPlay 25 = .ok (.iload_n 3, 1) := by decide +kernel
theorem dX6_doPlay_26 : decode cX6_doPlay 26 = .ok (.iconst (-1), 1) := by decide +kernel
theorem dX6_doPlay_27 : decode cX6_doPlay 27 = .ok (.if_icmp .eq 13, 3) := by decide +kernel
theorem dX6_doPlay_30 : decode cX6_doPlay 30 = .ok (.aload_n 0, 1) := by decide +kernel
theorem dX6_doPlay_31 : decode cX6_doPlay 31 = .ok (.getfield 10, 3) := by decide +kernel
theorem dX6_doPlay_34 : decode cX6_doPlay 34 = .ok (.invokevirtual 306, 3) := by decide +kernel
theorem dX6_doPlay_37 : decode cX6_doPlay 37 = .ok (.ifCond .ne 11, 3) := by decide +kernel
theorem dX6_doPlay_40 : decode cX6_doPlay 40 = .ok (.aload_n 0, 1) := by decide +kernel
theorem dX6_doPlay_41 : decode cX6_doPlay 41 = .ok (.getfield 10, 3) := by decide +kernel
theorem dX6_doPlay_44 : decode cX6_doPlay 44 = .ok (.invokevirtual 294, 3) := by decide +kernel
theorem dX6_doPlay_47 : decode cX6_doPlay 47 = .ok (.ireturn, 1) := by decide +kernel
theorem dX6_doPlay_48 : decode cX6_doPlay 48 = .ok (.aload_n 0, 1) := by decide +kernel
theorem dX6_doPlay_49 : decode cX6_doPlay 49 = .ok (.getfield 19, 3) := by decide +kernel
theorem dX6_doPlay_52 : decode cX6_doPlay 52 = .ok (.iload_n 2, 1) := by decide +kernel
theorem dX6_doPlay_53 : decode cX6_doPlay 53 = .ok (.iload_n 3, 1) := by decide +kernel
theorem dX6_doPlay_54 : decode cX6_doPlay 54 = .ok (.invokevirtual 318, 3) := by decide +kernel
theorem dX6_doPlay_57 : decode cX6_doPlay 57 = .ok (.istore 4, 2) := by decide +kernel
theorem dX6_doPlay_59 : decode cX6_doPlay 59 = .ok (.iload 4, 2) := by decide +kernel
theorem dX6_doPlay_61 : decode cX6_doPlay 61 = .ok (.iconst (-1), 1) := by decide +kernel
theorem dX6_doPlay_62 : decode cX6_doPlay 62 = .ok (.if_icmp .ne 6, 3) := by decide +kernel
theorem dX6_doPlay_65 : decode cX6_doPlay 65 = .ok (.bipush (-3), 2) := by decide +kernel
theorem dX6_doPlay_67 : decode cX6_doPlay 67 = .ok (.ireturn, 1) := by decide +kernel
theorem dX6_doPlay_68 : decode cX6_doPlay 68 = .ok (.aload_n 0, 1) := by decide +kernel
theorem dX6_doPlay_69 : decode cX6_doPlay 69 = .ok (.getfield 19, 3) := by decide +kernel
theorem dX6_doPlay_72 : decode cX6_doPlay 72 = .ok (.getfield 126, 3) := by decide +kernel
theorem dX6_doPlay_75 : decode cX6_doPlay 75 = .ok (.iload 4, 2) := by decide +kernel
theorem dX6_doPlay_77 : decode cX6_doPlay 77 = .ok (.iaload, 1) := by decide +kernel
theorem dX6_doPlay_78 : decode cX6_doPlay 78 = .ok (.iload_n 2, 1) := by decide +kernel
theorem dX6_doPlay_79 : decode cX6_doPlay 79 = .ok (.if_icmp .ne 7, 3) := by decide +kernel
theorem dX6_doPlay_82 : decode cX6_doPlay 82 = .ok (.iconst 1, 1) := by decide +kernel
theorem dX6_doPlay_83 : decode cX6_doPlay 83 = .ok (.goto 4, 3) := by decide +kernel
theorem dX6_doPlay_86 : decode cX6_doPlay 86 = .ok (.iconst 2, 1) := by decide +kernel
theorem dX6_doPlay_87 : decode cX6_doPlay 87 = .ok (.istore 5, 2) := by decide +kernel
theorem dX6_doPlay_89 : decode cX6_doPlay 89 = .ok (.aload_n 0, 1) := by decide +kernel
theorem dX6_doPlay_90 : decode cX6_doPlay 90 = .ok (.getfield 19, 3) := by decide +kernel
theorem dX6_doPlay_93 : decode cX6_doPlay 93 = .ok (.getfield 99, 3) := by decide +kernel
theorem dX6_doPlay_96 : decode cX6_doPlay 96 = .ok (.iload 4, 2) := by decide +kernel
theorem dX6_doPlay_98 : decode cX6_doPlay 98 = .ok (.iload_n 1, 1) := by decide +kernel
theorem dX6_doPlay_99 : decode cX6_doPlay 99 = .ok (.ifCond .eq 8, 3) := by decide +kernel
theorem dX6_doPlay_102 : decode cX6_doPlay 102 = .ok (.iload 5, 2) := by decide +kernel
theorem dX6_doPlay_104 : decode cX6_doPlay 104 = .ok (.goto 4, 3) := by decide +kernel
theorem dX6_doPlay_107 : decode cX6_doPlay 107 = .ok (.iconst 0, 1) := by decide +kernel
theorem dX6_doPlay_108 : decode cX6_doPlay 108 = .ok (.iastore, 1) := by decide +kernel
theorem dX6_doPlay_109 : decode cX6_doPlay 109 = .ok (.iload 4, 2) := by decide +kernel
theorem dX6_doPlay_111 : decode cX6_doPlay 111 = .ok (.ireturn, 1) := by decide +kernel
def f_X6_doPlay_40 (l0 : Nat) (h0 : Hp) : Option (Int32 × Hp) :=
  (gR h0 l0 6 0).bind fun r1 => (f_X4_fault r1 h0).bind fun q2 => some (q2.1, q2.2)
set_option maxRecDepth 100000 in
set_option maxHeartbeats 4000000 in
theorem c_X6_doPlay_40 {X : Cx} {adr : Nat → Nat} {q : Int32 × Hp} (hr : (mth X).sig.returnType = (some .int)) {l0 : Nat} {h0 : Hp} (hf : f_X6_doPlay_40 l0 h0 = some q) : AW X cX6_doPlay 6 RX6 (rmd 8 0 0) (Qmet X 0 0 (Qe (some (.int q.1)) q.2 adr)) 0 0 adr h0 40 [(0, .ref l0)] [] := by
  unfold f_X6_doPlay_40 at hf
  refine aw_aload_n 0 dX6_doPlay_40 rfl rfl ?_
  obtain ⟨r1, er1, hf⟩ := b_some hf
  refine aw_getR dX6_doPlay_41 gfX6_10 er1 ?_
  obtain ⟨q2, eq2, hf⟩ := b_some hf
  refine aw_cV (as := []) dX6_doPlay_44 moX4_fault voX4_fault mlX6_294 (k_X4_fault eq2) rfl (rm_ok (by omega) (by decide)) ⟨Nat.le_refl _, Nat.le_refl _⟩ (Nat.le_of_ble_eq_true rfl) rfl (c_X4_fault eq2) ?_
  have hq := Option.some.inj hf
  subst hq
  exact aw_iret hr dX6_doPlay_47 ⟨rfl, rfl, rfl⟩
def f_X6_doPlay_108 (l4 : Int32) (s0 : Int32) (s1 : Int32) (s2 : Nat) (h0 : Hp) : Option (Int32 × Hp) :=
  (aS h0 s2 s1 s0).bind fun h1 => some (l4, h1)
set_option maxRecDepth 100000 in
set_option maxHeartbeats 4000000 in
theorem c_X6_doPlay_108 {X : Cx} {adr : Nat → Nat} {q : Int32 × Hp} (hr : (mth X).sig.returnType = (some .int)) {l4 : Int32} {s0 : Int32} {s1 : Int32} {s2 : Nat} {h0 : Hp} (hf : f_X6_doPlay_108 l4 s0 s1 s2 h0 = some q) : AW X cX6_doPlay 6 RX6 (rmd 8 0 0) (Qmet X 0 0 (Qe (some (.int q.1)) q.2 adr)) 0 0 adr h0 108 [(4, .int l4)] [.int s0, .int s1, .ref s2] := by
  unfold f_X6_doPlay_108 at hf
  obtain ⟨h1, eh1, hf⟩ := b_some hf
  refine aw_iast dX6_doPlay_108 eh1 ?_
  refine aw_iload 0 dX6_doPlay_109 rfl ?_
  have hq := Option.some.inj hf
  subst hq
  exact aw_iret hr dX6_doPlay_111 ⟨rfl, rfl, rfl⟩
def f_X6_doPlay_87 (l0 : Nat) (l1 : Int32) (l4 : Int32) (s0 : Int32) (h0 : Hp) : Option (Int32 × Hp) :=
  (gR h0 l0 6 1).bind fun r1 => (gR h0 r1 0 9).bind fun r2 => if l1 = 0 then (f_X6_doPlay_108 l4 (0 : Int32) l4 r2 h0) else (f_X6_doPlay_108 l4 s0 l4 r2 h0)
set_option maxRecDepth 100000 in
set_option maxHeartbeats 4000000 in
theorem c_X6_doPlay_87 {X : Cx} {adr : Nat → Nat} {q : Int32 × Hp} (hr : (mth X).sig.returnType = (some .int)) {l0 : Nat} {l1 : Int32} {l4 : Int32} {s0 : Int32} {h0 : Hp} (hf : f_X6_doPlay_87 l0 l1 l4 s0 h0 = some q) : AW X cX6_doPlay 6 RX6 (rmd 8 0 0) (Qmet X 0 0 (Qe (some (.int q.1)) q.2 adr)) 0 0 adr h0 87 [(0, .ref l0), (1, .int l1), (4, .int l4)] [.int s0] := by
  unfold f_X6_doPlay_87 at hf
  refine aw_istore (L' := [(5, .int s0), (0, .ref l0), (1, .int l1), (4, .int l4)]) dX6_doPlay_87 (by decide) rfl ?_
  refine aw_aload_n 1 dX6_doPlay_89 rfl rfl ?_
  obtain ⟨r1, er1, hf⟩ := b_some hf
  refine aw_getR dX6_doPlay_90 gfX6_19 er1 ?_
  obtain ⟨r2, er2, hf⟩ := b_some hf
  refine aw_getR dX6_doPlay_93 gfX6_99 er2 ?_
  refine aw_iload 3 dX6_doPlay_96 rfl ?_
  refine aw_iload_n 2 dX6_doPlay_98 rfl rfl ?_
  refine aw_if_eq (tgt := 107) dX6_doPlay_99 (by decide) (fun c3 => ?_) (fun c3 => ?_)
  · have hf := i_pos c3 hf
    refine aw_iconst (v := 0) dX6_doPlay_107 (by decide) ?_
    exact aw_sub [3] rfl (c_X6_doPlay_108 hr hf)
  · have hf := i_neg c3 hf
    refine aw_iload 0 dX6_doPlay_102 rfl ?_
    refine aw_goto (tgt := 108) dX6_doPlay_104 (by decide) ?_
    exact aw_sub [3] rfl (c_X6_doPlay_108 hr hf)
def f_X6_doPlay (l0 : Nat) (l1 : Int32) (h0 : Hp) : Option (Int32 × Hp) :=
  (ck h0 l0 6).bind fun _ => (f_X6_readTeam l0 (-1 : Int32) h0).bind fun q1 => if q1.1 = (-1 : Int32) then ((gR q1.2 l0 6 0).bind fun r15 => (f_X4_fault r15 q1.2).bind fun q16 => some (q16.1, q16.2)) else ((f_X6_readTeam l0 q1.1 q1.2).bind fun q3 => if q3.1 = (-1 : Int32) then (f_X6_doPlay_40 l0 q3.2) else ((gR q3.2 l0 6 0).bind fun r5 => (f_X4_ends r5 q3.2).bind fun q6 => if q6.1 = 0 then (f_X6_doPlay_40 l0 q6.2) else ((gR q6.2 l0 6 1).bind fun r8 => (f_X0_nextBetween r8 q1.1 q3.1 q6.2).bind fun q9 => if q9.1 = (-1 : Int32) then (some ((-3 : Int32), q9.2)) else ((gR q9.2 l0 6 1).bind fun r11 => (gR q9.2 r11 0 6).bind fun r12 => (aL q9.2 r12 q9.1).bind fun x13 => if x13 = q1.1 then (f_X6_doPlay_87 l0 l1 q9.1 (1 : Int32) q9.2) else (f_X6_doPlay_87 l0 l1 q9.1 (2 : Int32) q9.2)))))
set_option maxRecDepth 100000 in
set_option maxHeartbeats 4000000 in
theorem c_X6_doPlay {l0 : Nat} {l1 : Int32} {h0 : Hp} {q : Int32 × Hp} (hf : f_X6_doPlay l0 l1 h0 = some q) : Mt 8 yX6_doPlay cX6_doPlay 6 (some .int) [.ref l0, .int l1] h0 (some (.int q.1)) q.2 := by
  refine MtQ.of (by decide) (Nat.le_of_ble_eq_true rfl) (fun X adr hr hn => ?_)
  unfold f_X6_doPlay at hf
  show AW X cX6_doPlay 6 RX6 (rmd 8 0 0) (Qmet X 0 0 (Qe (some (.int q.1)) q.2 adr)) 0 0 adr h0 0 [(0, .ref l0), (1, .int l1)] []
  obtain ⟨u0, e0, hf⟩ := b_some hf
  refine aw_aload_n 0 dX6_doPlay_0 rfl rfl ?_
  refine aw_iconst (v := -1) dX6_doPlay_1 (by decide) ?_
  obtain ⟨q1, eq1, hf⟩ := b_some hf
  refine aw_cV (as := [.int (-1 : Int32)]) dX6_doPlay_2 moX6_readTeam voX6_readTeam mlX6_312 (k_X6_readTeam eq1) rfl (rm_ok (by omega) (by decide)) ⟨Nat.le_refl _, Nat.le_refl _⟩ (Nat.le_of_ble_eq_true rfl) rfl (c_X6_readTeam eq1) ?_
  refine aw_istore_n (L' := [(2, .int q1.1), (0, .ref l0), (1, .int l1)]) dX6_doPlay_5 rfl (by decide) rfl ?_
  refine aw_iload_n 0 dX6_doPlay_6 rfl rfl ?_
  refine aw_iconst (v := -1) dX6_doPlay_7 (by decide) ?_
  refine aw_icmp_ne (tgt := 19) dX6_doPlay_8 (by decide) (fun c2 => ?_) (fun c2 => ?_)
  · have hf := i_neg c2 hf
    refine aw_aload_n 1 dX6_doPlay_19 rfl rfl ?_
    refine aw_iload_n 0 dX6_doPlay_20 rfl rfl ?_
    obtain ⟨q3, eq3, hf⟩ := b_some hf
    refine aw_cV (as := [.int q1.1]) dX6_doPlay_21 moX6_readTeam voX6_readTeam mlX6_312 (k_X6_readTeam eq3) rfl (rm_ok (by omega) (by decide)) ⟨Nat.le_refl _, Nat.le_refl _⟩ (Nat.le_of_ble_eq_true rfl) rfl (c_X6_readTeam eq3) ?_
    refine aw_istore_n (L' := [(3, .int q3.1), (2, .int q1.1), (0, .ref l0), (1, .int l1)]) dX6_doPlay_24 rfl (by decide) rfl ?_
    refine aw_iload_n 0 dX6_doPlay_25 rfl rfl ?_
    refine aw_iconst (v := -1) dX6_doPlay_26 (by decide) ?_
    refine aw_icmp_eq (tgt := 40) dX6_doPlay_27 (by decide) (fun c4 => ?_) (fun c4 => ?_)
    · have hf := i_pos c4 hf
      exact aw_sub [2] rfl (c_X6_doPlay_40 hr hf)
    · have hf := i_neg c4 hf
      refine aw_aload_n 2 dX6_doPlay_30 rfl rfl ?_
      obtain ⟨r5, er5, hf⟩ := b_some hf
      refine aw_getR dX6_doPlay_31 gfX6_10 er5 ?_
      obtain ⟨q6, eq6, hf⟩ := b_some hf
      refine aw_cV (as := []) dX6_doPlay_34 moX4_ends voX4_ends mlX6_306 (k_X4_ends eq6) rfl (rm_ok (by omega) (by decide)) ⟨Nat.le_refl _, Nat.le_refl _⟩ (Nat.le_of_ble_eq_true rfl) rfl (c_X4_ends eq6) ?_
      refine aw_if_ne (tgt := 48) dX6_doPlay_37 (by decide) (fun c7 => ?_) (fun c7 => ?_)
      · have hf := i_neg c7 hf
        refine aw_aload_n 2 dX6_doPlay_48 rfl rfl ?_
        obtain ⟨r8, er8, hf⟩ := b_some hf
        refine aw_getR dX6_doPlay_49 gfX6_19 er8 ?_
        refine aw_iload_n 1 dX6_doPlay_52 rfl rfl ?_
        refine aw_iload_n 0 dX6_doPlay_53 rfl rfl ?_
        obtain ⟨q9, eq9, hf⟩ := b_some hf
        refine aw_cV (as := [.int q1.1, .int q3.1]) dX6_doPlay_54 moX0_nextBetween voX0_nextBetween mlX6_318 (k_X0_nextBetween eq9) rfl (rm_ok (by omega) (by decide)) ⟨Nat.le_refl _, Nat.le_refl _⟩ (Nat.le_of_ble_eq_true rfl) rfl (c_X0_nextBetween eq9) ?_
        refine aw_istore (L' := [(4, .int q9.1), (3, .int q3.1), (2, .int q1.1), (0, .ref l0), (1, .int l1)]) dX6_doPlay_57 (by decide) rfl ?_
        refine aw_iload 0 dX6_doPlay_59 rfl ?_
        refine aw_iconst (v := -1) dX6_doPlay_61 (by decide) ?_
        refine aw_icmp_ne (tgt := 68) dX6_doPlay_62 (by decide) (fun c10 => ?_) (fun c10 => ?_)
        · have hf := i_neg c10 hf
          refine aw_aload_n 3 dX6_doPlay_68 rfl rfl ?_
          obtain ⟨r11, er11, hf⟩ := b_some hf
          refine aw_getR dX6_doPlay_69 gfX6_19 er11 ?_
          obtain ⟨r12, er12, hf⟩ := b_some hf
          refine aw_getR dX6_doPlay_72 gfX6_126 er12 ?_
          refine aw_iload 0 dX6_doPlay_75 rfl ?_
          obtain ⟨x13, ex13, hf⟩ := b_some hf
          refine aw_iald dX6_doPlay_77 ex13 ?_
          refine aw_iload_n 2 dX6_doPlay_78 rfl rfl ?_
          refine aw_icmp_ne (tgt := 86) dX6_doPlay_79 (by decide) (fun c14 => ?_) (fun c14 => ?_)
          · have hf := i_neg c14 hf
            refine aw_iconst (v := 2) dX6_doPlay_86 (by decide) ?_
            exact aw_sub [3, 4, 0] rfl (c_X6_doPlay_87 hr hf)
          · have hf := i_pos c14 hf
            refine aw_iconst (v := 1) dX6_doPlay_82 (by decide) ?_
            refine aw_goto (tgt := 87) dX6_doPlay_83 (by decide) ?_
            exact aw_sub [3, 4, 0] rfl (c_X6_doPlay_87 hr hf)
        · have hf := i_pos c10 hf
          refine aw_bipush (v := -3) dX6_doPlay_65 (by decide) ?_
          have hq := Option.some.inj hf
          subst hq
          exact aw_iret hr dX6_doPlay_67 ⟨rfl, rfl, rfl⟩
      · have hf := i_pos c7 hf
        exact aw_sub [2] rfl (c_X6_doPlay_40 hr hf)
  · have hf := i_pos c2 hf
    refine aw_aload_n 1 dX6_doPlay_11 rfl rfl ?_
    obtain ⟨r15, er15, hf⟩ := b_some hf
    refine aw_getR dX6_doPlay_12 gfX6_10 er15 ?_
    obtain ⟨q16, eq16, hf⟩ := b_some hf
    refine aw_cV (as := []) dX6_doPlay_15 moX4_fault voX4_fault mlX6_294 (k_X4_fault eq16) rfl (rm_ok (by omega) (by decide)) ⟨Nat.le_refl _, Nat.le_refl _⟩ (Nat.le_of_ble_eq_true rfl) rfl (c_X4_fault eq16) ?_
    have hq := Option.some.inj hf
    subst hq
    exact aw_iret hr dX6_doPlay_18 ⟨rfl, rfl, rfl⟩
theorem k_X6_doPlay {l0 : Nat} {l1 : Int32} {h0 : Hp} {q : Int32 × Hp} (hf : f_X6_doPlay l0 l1 h0 = some q) : ck h0 l0 6 = some () := by
  unfold f_X6_doPlay at hf
  obtain ⟨u0, e0, hf⟩ := b_some hf
  exact e0
theorem dX6_doStart_0 : decode cX6_doStart 0 = .ok (.aload_n 0, 1) := by decide +kernel
theorem dX6_doStart_1 : decode cX6_doStart 1 = .ok (.iconst (-1), 1) := by decide +kernel
theorem dX6_doStart_2 : decode cX6_doStart 2 = .ok (.invokevirtual 312, 3) := by decide +kernel
theorem dX6_doStart_5 : decode cX6_doStart 5 = .ok (.istore_n 1, 1) := by decide +kernel
theorem dX6_doStart_6 : decode cX6_doStart 6 = .ok (.iload_n 1, 1) := by decide +kernel
theorem dX6_doStart_7 : decode cX6_doStart 7 = .ok (.iconst (-1), 1) := by decide +kernel
theorem dX6_doStart_8 : decode cX6_doStart 8 = .ok (.if_icmp .ne 11, 3) := by decide +kernel
theorem dX6_doStart_11 : decode cX6_doStart 11 = .ok (.aload_n 0, 1) := by decide +kernel
theorem dX6_doStart_12 : decode cX6_doStart 12 = .ok (.getfield 10, 3) := by decide +kernel
theorem dX6_doStart_15 : decode cX6_doStart 15 = .ok (.invokevirtual 294, 3) := by decide +kernel
theorem dX6_doStart_18 : decode cX6_doStart 18 = .ok (.ireturn, 1) := by decide +kernel
theorem dX6_doStart_19 : decode cX6_doStart 19 = .ok (.aload_n 0, 1) := by decide +kernel
theorem dX6_doStart_20 : decode cX6_doStart 20 = .ok (.getfield 10, 3) := by decide +kernel
theorem dX6_doStart_23 : decode cX6_doStart 23 = .ok (.iconst 0, 1) := by decide +kernel
theorem dX6_doStart_24 : decode cX6_doStart 24 = .ok (.bipush 9, 2) := by decide +kernel
theorem dX6_doStart_26 : decode cX6_doStart 26 = .ok (.invokevirtual 315, 3) := by decide +kernel
theorem dX6_doStart_29 : decode cX6_doStart 29 = .ok (.istore_n 2, 1) := by decide +kernel
theorem dX6_doStart_30 : decode cX6_doStart 30 = .ok (.iload_n 2, 1) := by decide +kernel
theorem dX6_doStart_31 : decode cX6_doStart 31 = .ok (.iconst (-1), 1) := by decide +kernel
theorem dX6_doStart_32 : decode cX6_doStart 32 = .ok (.if_icmp .eq 13, 3) := by decide +kernel
theorem dX6_doStart_35 : decode cX6_doStart 35 = .ok (.aload_n 0, 1) := by decide +kernel
theorem dX6_doStart_36 : decode cX6_doStart 36 = .ok (.getfield 10, 3) := by decide +kernel
theorem dX6_doStart_39 : decode cX6_doStart 39 = .ok (.invokevirtual 306, 3) := by decide +kernel
theorem dX6_doStart_42 : decode cX6_doStart 42 = .ok (.ifCond .ne 11, 3) := by decide +kernel
theorem dX6_doStart_45 : decode cX6_doStart 45 = .ok (.aload_n 0, 1) := by decide +kernel
theorem dX6_doStart_46 : decode cX6_doStart 46 = .ok (.getfield 10, 3) := by decide +kernel
theorem dX6_doStart_49 : decode cX6_doStart 49 = .ok (.invokevirtual 294, 3) := by decide +kernel
theorem dX6_doStart_52 : decode cX6_doStart 52 = .ok (.ireturn, 1) := by decide +kernel
theorem dX6_doStart_53 : decode cX6_doStart 53 = .ok (.aload_n 0, 1) := by decide +kernel
theorem dX6_doStart_54 : decode cX6_doStart 54 = .ok (.getfield 19, 3) := by decide +kernel
theorem dX6_doStart_57 : decode cX6_doStart 57 = .ok (.getfield 109, 3) := by decide +kernel
theorem dX6_doStart_60 : decode cX6_doStart 60 = .ok (.iload_n 1, 1) := by decide +kernel
theorem dX6_doStart_61 : decode cX6_doStart 61 = .ok (.iload_n 2, 1) := by decide +kernel
theorem dX6_doStart_62 : decode cX6_doStart 62 = .ok (.iastore, 1) := by decide +kernel
theorem dX6_doStart_63 : decode cX6_doStart 63 = .ok (.iload_n 1, 1) := by decide +kernel
theorem dX6_doStart_64 : decode cX6_doStart 64 = .ok (.ireturn, 1) := by decide +kernel
def f_X6_doStart_45 (l0 : Nat) (h0 : Hp) : Option (Int32 × Hp) :=
  (gR h0 l0 6 0).bind fun r1 => (f_X4_fault r1 h0).bind fun q2 => some (q2.1, q2.2)
set_option maxRecDepth 100000 in
set_option maxHeartbeats 4000000 in
theorem c_X6_doStart_45 {X : Cx} {adr : Nat → Nat} {q : Int32 × Hp} (hr : (mth X).sig.returnType = (some .int)) {l0 : Nat} {h0 : Hp} (hf : f_X6_doStart_45 l0 h0 = some q) : AW X cX6_doStart 3 RX6 (rmd 8 0 0) (Qmet X 0 0 (Qe (some (.int q.1)) q.2 adr)) 0 0 adr h0 45 [(0, .ref l0)] [] := by
  unfold f_X6_doStart_45 at hf
  refine aw_aload_n 0 dX6_doStart_45 rfl rfl ?_
  obtain ⟨r1, er1, hf⟩ := b_some hf
  refine aw_getR dX6_doStart_46 gfX6_10 er1 ?_
  obtain ⟨q2, eq2, hf⟩ := b_some hf
  refine aw_cV (as := []) dX6_doStart_49 moX4_fault voX4_fault mlX6_294 (k_X4_fault eq2) rfl (rm_ok (by omega) (by decide)) ⟨Nat.le_refl _, Nat.le_refl _⟩ (Nat.le_of_ble_eq_true rfl) rfl (c_X4_fault eq2) ?_
  have hq := Option.some.inj hf
  subst hq
  exact aw_iret hr dX6_doStart_52 ⟨rfl, rfl, rfl⟩
def f_X6_doStart (l0 : Nat) (h0 : Hp) : Option (Int32 × Hp) :=
  (ck h0 l0 6).bind fun _ => (f_X6_readTeam l0 (-1 : Int32) h0).bind fun q1 => if q1.1 = (-1 : Int32) then ((gR q1.2 l0 6 0).bind fun r12 => (f_X4_fault r12 q1.2).bind fun q13 => some (q13.1, q13.2)) else ((gR q1.2 l0 6 0).bind fun r3 => (f_X4_number r3 (0 : Int32) (9 : Int32) q1.2).bind fun q4 => if q4.1 = (-1 : Int32) then (f_X6_doStart_45 l0 q4.2) else ((gR q4.2 l0 6 0).bind fun r6 => (f_X4_ends r6 q4.2).bind fun q7 => if q7.1 = 0 then (f_X6_doStart_45 l0 q7.2) else ((gR q7.2 l0 6 1).bind fun r9 => (gR q7.2 r9 0 3).bind fun r10 => (aS q7.2 r10 q1.1 q4.1).bind fun h11 => some (q1.1, h11))))
set_option maxRecDepth 100000 in
set_option maxHeartbeats 4000000 in
theorem c_X6_doStart {l0 : Nat} {h0 : Hp} {q : Int32 × Hp} (hf : f_X6_doStart l0 h0 = some q) : Mt 8 yX6_doStart cX6_doStart 3 (some .int) [.ref l0] h0 (some (.int q.1)) q.2 := by
  refine MtQ.of (by decide) (Nat.le_of_ble_eq_true rfl) (fun X adr hr hn => ?_)
  unfold f_X6_doStart at hf
  show AW X cX6_doStart 3 RX6 (rmd 8 0 0) (Qmet X 0 0 (Qe (some (.int q.1)) q.2 adr)) 0 0 adr h0 0 [(0, .ref l0)] []
  obtain ⟨u0, e0, hf⟩ := b_some hf
  refine aw_aload_n 0 dX6_doStart_0 rfl rfl ?_
  refine aw_iconst (v := -1) dX6_doStart_1 (by decide) ?_
  obtain ⟨q1, eq1, hf⟩ := b_some hf
  refine aw_cV (as := [.int (-1 : Int32)]) dX6_doStart_2 moX6_readTeam voX6_readTeam mlX6_312 (k_X6_readTeam eq1) rfl (rm_ok (by omega) (by decide)) ⟨Nat.le_refl _, Nat.le_refl _⟩ (Nat.le_of_ble_eq_true rfl) rfl (c_X6_readTeam eq1) ?_
  refine aw_istore_n (L' := [(1, .int q1.1), (0, .ref l0)]) dX6_doStart_5 rfl (by decide) rfl ?_
  refine aw_iload_n 0 dX6_doStart_6 rfl rfl ?_
  refine aw_iconst (v := -1) dX6_doStart_7 (by decide) ?_
  refine aw_icmp_ne (tgt := 19) dX6_doStart_8 (by decide) (fun c2 => ?_) (fun c2 => ?_)
  · have hf := i_neg c2 hf
    refine aw_aload_n 1 dX6_doStart_19 rfl rfl ?_
    obtain ⟨r3, er3, hf⟩ := b_some hf
    refine aw_getR dX6_doStart_20 gfX6_10 er3 ?_
    refine aw_iconst (v := 0) dX6_doStart_23 (by decide) ?_
    refine aw_bipush (v := 9) dX6_doStart_24 (by decide) ?_
    obtain ⟨q4, eq4, hf⟩ := b_some hf
    refine aw_cV (as := [.int (0 : Int32), .int (9 : Int32)]) dX6_doStart_26 moX4_number voX4_number mlX6_315 (k_X4_number eq4) rfl (rm_ok (by omega) (by decide)) ⟨Nat.le_refl _, Nat.le_refl _⟩ (Nat.le_of_ble_eq_true rfl) rfl (c_X4_number eq4) ?_
    refine aw_istore_n (L' := [(2, .int q4.1), (1, .int q1.1), (0, .ref l0)]) dX6_doStart_29 rfl (by decide) rfl ?_
    refine aw_iload_n 0 dX6_doStart_30 rfl rfl ?_
    refine aw_iconst (v := -1) dX6_doStart_31 (by decide) ?_
    refine aw_icmp_eq (tgt := 45) dX6_doStart_32 (by decide) (fun c5 => ?_) (fun c5 => ?_)
    · have hf := i_pos c5 hf
      exact aw_sub [2] rfl (c_X6_doStart_45 hr hf)
    · have hf := i_neg c5 hf
      refine aw_aload_n 2 dX6_doStart_35 rfl rfl ?_
      obtain ⟨r6, er6, hf⟩ := b_some hf
      refine aw_getR dX6_doStart_36 gfX6_10 er6 ?_
      obtain ⟨q7, eq7, hf⟩ := b_some hf
      refine aw_cV (as := []) dX6_doStart_39 moX4_ends voX4_ends mlX6_306 (k_X4_ends eq7) rfl (rm_ok (by omega) (by decide)) ⟨Nat.le_refl _, Nat.le_refl _⟩ (Nat.le_of_ble_eq_true rfl) rfl (c_X4_ends eq7) ?_
      refine aw_if_ne (tgt := 53) dX6_doStart_42 (by decide) (fun c8 => ?_) (fun c8 => ?_)
      · have hf := i_neg c8 hf
        refine aw_aload_n 2 dX6_doStart_53 rfl rfl ?_
        obtain ⟨r9, er9, hf⟩ := b_some hf
        refine aw_getR dX6_doStart_54 gfX6_19 er9 ?_
        obtain ⟨r10, er10, hf⟩ := b_some hf
        refine aw_getR dX6_doStart_57 gfX6_109 er10 ?_
        refine aw_iload_n 1 dX6_doStart_60 rfl rfl ?_
        refine aw_iload_n 0 dX6_doStart_61 rfl rfl ?_
        obtain ⟨h11, eh11, hf⟩ := b_some hf
        refine aw_iast dX6_doStart_62 eh11 ?_
        refine aw_iload_n 1 dX6_doStart_63 rfl rfl ?_
        have hq := Option.some.inj hf
        subst hq
        exact aw_iret hr dX6_doStart_64 ⟨rfl, rfl, rfl⟩
      · have hf := i_pos c8 hf
        exact aw_sub [2] rfl (c_X6_doStart_45 hr hf)
  · have hf := i_pos c2 hf
    refine aw_aload_n 1 dX6_doStart_11 rfl rfl ?_
    obtain ⟨r12, er12, hf⟩ := b_some hf
    refine aw_getR dX6_doStart_12 gfX6_10 er12 ?_
    obtain ⟨q13, eq13, hf⟩ := b_some hf
    refine aw_cV (as := []) dX6_doStart_15 moX4_fault voX4_fault mlX6_294 (k_X4_fault eq13) rfl (rm_ok (by omega) (by decide)) ⟨Nat.le_refl _, Nat.le_refl _⟩ (Nat.le_of_ble_eq_true rfl) rfl (c_X4_fault eq13) ?_
    have hq := Option.some.inj hf
    subst hq
    exact aw_iret hr dX6_doStart_18 ⟨rfl, rfl, rfl⟩
theorem k_X6_doStart {l0 : Nat} {h0 : Hp} {q : Int32 × Hp} (hf : f_X6_doStart l0 h0 = some q) : ck h0 l0 6 = some () := by
  unfold f_X6_doStart at hf
  obtain ⟨u0, e0, hf⟩ := b_some hf
  exact e0
theorem dX6_doTeam_0 : decode cX6_doTeam 0 = .ok (.aload_n 0, 1) := by decide +kernel
theorem dX6_doTeam_1 : decode cX6_doTeam 1 = .ok (.getfield 10, 3) := by decide +kernel
theorem dX6_doTeam_4 : decode cX6_doTeam 4 = .ok (.invokevirtual 264, 3) := by decide +kernel
theorem dX6_doTeam_7 : decode cX6_doTeam 7 = .ok (.aload_n 0, 1) := by decide +kernel
theorem dX6_doTeam_8 : decode cX6_doTeam 8 = .ok (.getfield 10, 3) := by decide +kernel
theorem dX6_doTeam_11 : decode cX6_doTeam 11 = .ok (.getfield 297, 3) := by decide +kernel
theorem dX6_doTeam_14 : decode cX6_doTeam 14 = .ok (.istore_n 1, 1) := by decide +kernel
theorem dX6_doTeam_15 : decode cX6_doTeam 15 = .ok (.aload_n 0, 1) := by decide +kernel
theorem dX6_doTeam_16 : decode cX6_doTeam 16 = .ok (.getfield 10, 3) := by decide +kernel
theorem dX6_doTeam_19 : decode cX6_doTeam 19 = .ok (.getfield 300, 3) := by decide +kernel
theorem dX6_doTeam_22 : decode cX6_doTeam 22 = .ok (.istore_n 2, 1) := by decide +kernel
theorem dX6_doTeam_23 : decode cX6_doTeam 23 = .ok (.aload_n 0, 1) := by decide +kernel
theorem dX6_doTeam_24 : decode cX6_doTeam 24 = .ok (.getfield 10, 3) := by decide +kernel
theorem dX6_doTeam_27 : decode cX6_doTeam 27 = .ok (.invokevirtual 303, 3) := by decide +kernel
theorem dX6_doTeam_30 : decode cX6_doTeam 30 = .ok (.ifCond .eq 23, 3) := by decide +kernel
theorem dX6_doTeam_33 : decode cX6_doTeam 33 = .ok (.aload_n 0, 1) := by decide +kernel
theorem dX6_doTeam_34 : decode cX6_doTeam 34 = .ok (.getfield 19, 3) := by decide +kernel
theorem dX6_doTeam_37 : decode cX6_doTeam 37 = .ok (.aload_n 0, 1) := by decide +kernel
theorem dX6_doTeam_38 : decode cX6_doTeam 38 = .ok (.getfield 10, 3) := by decide +kernel
theorem dX6_doTeam_41 : decode cX6_doTeam 41 = .ok (.getfield 80, 3) := by decide +kernel
theorem dX6_doTeam_44 : decode cX6_doTeam 44 = .ok (.iload_n 1, 1) := by decide +kernel
theorem dX6_doTeam_45 : decode cX6_doTeam 45 = .ok (.iload_n 2, 1) := by decide +kernel
theorem dX6_doTeam_46 : decode cX6_doTeam 46 = .ok (.invokevirtual 83, 3) := by decide +kernel
theorem dX6_doTeam_49 : decode cX6_doTeam 49 = .ok (.iconst (-1), 1) := by decide +kernel
theorem dX6_doTeam_50 : decode cX6_doTeam 50 = .ok (.if_icmp .eq 11, 3) := by decide +kernel
theorem dX6_doTeam_53 : decode cX6_doTeam 53 = .ok (.aload_n 0, 1) := by decide +kernel
theorem dX6_doTeam_54 : decode cX6_doTeam 54 = .ok (.getfield 10, 3) := by decide +kernel
theorem dX6_doTeam_57 : decode cX6_doTeam 57 = .ok (.invokevirtual 294, 3) := by decide +kernel
theorem dX6_doTeam_60 : decode cX6_doTeam 60 = .ok (.ireturn, 1) := by decide +kernel
theorem dX6_doTeam_61 : decode cX6_doTeam 61 = .ok (.aload_n 0, 1) := by decide +kernel
theorem dX6_doTeam_62 : decode cX6_doTeam 62 = .ok (.getfield 10, 3) := by decide +kernel
theorem dX6_doTeam_65 : decode cX6_doTeam 65 = .ok (.invokevirtual 306, 3) := by decide +kernel
theorem dX6_doTeam_68 : decode cX6_doTeam 68 = .ok (.ifCond .ne 11, 3) := by decide +kernel
theorem dX6_doTeam_71 : decode cX6_doTeam 71 = .ok (.aload_n 0, 1) := by decide +kernel
theorem dX6_doTeam_72 : decode cX6_doTeam 72 = .ok (.getfield 10, 3) := by decide +kernel
theorem dX6_doTeam_75 : decode cX6_doTeam 75 = .ok (.invokevirtual 294, 3) := by decide +kernel
theorem dX6_doTeam_78 : decode cX6_doTeam 78 = .ok (.ireturn, 1) := by decide +kernel
theorem dX6_doTeam_79 : decode cX6_doTeam 79 = .ok (.aload_n 0, 1) := by decide +kernel
theorem dX6_doTeam_80 : decode cX6_doTeam 80 = .ok (.getfield 19, 3) := by decide +kernel
theorem dX6_doTeam_83 : decode cX6_doTeam 83 = .ok (.aload_n 0, 1) := by decide +kernel
theorem dX6_doTeam_84 : decode cX6_doTeam 84 = .ok (.getfield 10, 3) := by decide +kernel
theorem dX6_doTeam_87 : decode cX6_doTeam 87 = .ok (.getfield 80, 3) := by decide +kernel
theorem dX6_doTeam_90 : decode cX6_doTeam 90 = .ok (.iload_n 1, 1) := by decide +kernel
theorem dX6_doTeam_91 : decode cX6_doTeam 91 = .ok (.iload_n 2, 1) := by decide +kernel
theorem dX6_doTeam_92 : decode cX6_doTeam 92 = .ok (.invokevirtual 309, 3) := by decide +kernel
theorem dX6_doTeam_95 : decode cX6_doTeam 95 = .ok (.ireturn, 1) := by decide +kernel
def f_X6_doTeam_53 (l0 : Nat) (h0 : Hp) : Option (Int32 × Hp) :=
  (gR h0 l0 6 0).bind fun r1 => (f_X4_fault r1 h0).bind fun q2 => some (q2.1, q2.2)
set_option maxRecDepth 100000 in
set_option maxHeartbeats 4000000 in
theorem c_X6_doTeam_53 {X : Cx} {adr : Nat → Nat} {q : Int32 × Hp} (hr : (mth X).sig.returnType = (some .int)) {l0 : Nat} {h0 : Hp} (hf : f_X6_doTeam_53 l0 h0 = some q) : AW X cX6_doTeam 3 RX6 (rmd 7 0 0) (Qmet X 0 0 (Qe (some (.int q.1)) q.2 adr)) 0 0 adr h0 53 [(0, .ref l0)] [] := by
  unfold f_X6_doTeam_53 at hf
  refine aw_aload_n 0 dX6_doTeam_53 rfl rfl ?_
  obtain ⟨r1, er1, hf⟩ := b_some hf
  refine aw_getR dX6_doTeam_54 gfX6_10 er1 ?_
  obtain ⟨q2, eq2, hf⟩ := b_some hf
  refine aw_cV (as := []) dX6_doTeam_57 moX4_fault voX4_fault mlX6_294 (k_X4_fault eq2) rfl (rm_ok (by omega) (by decide)) ⟨Nat.le_refl _, Nat.le_refl _⟩ (Nat.le_of_ble_eq_true rfl) rfl (c_X4_fault eq2) ?_
  have hq := Option.some.inj hf
  subst hq
  exact aw_iret hr dX6_doTeam_60 ⟨rfl, rfl, rfl⟩
def f_X6_doTeam (l0 : Nat) (h0 : Hp) : Option (Int32 × Hp) :=
  (ck h0 l0 6).bind fun _ => (gR h0 l0 6 0).bind fun r1 => (f_X4_step r1 h0).bind fun q2 => (gR q2.2 l0 6 0).bind fun r3 => (gI q2.2 r3 4 2).bind fun x4 => (gR q2.2 l0 6 0).bind fun r5 => (gI q2.2 r5 4 3).bind fun x6 => (gR q2.2 l0 6 0).bind fun r7 => (f_X4_isName r7 q2.2).bind fun q8 => if q8.1 = 0 then (f_X6_doTeam_53 l0 q8.2) else ((gR q8.2 l0 6 1).bind fun r10 => (gR q8.2 l0 6 0).bind fun r11 => (gR q8.2 r11 4 0).bind fun r12 => (f_X0_whose r10 r12 x4 x6 q8.2).bind fun q13 => if q13.1 = (-1 : Int32) then ((gR q13.2 l0 6 0).bind fun r15 => (f_X4_ends r15 q13.2).bind fun q16 => if q16.1 = 0 then ((gR q16.2 l0 6 0).bind fun r22 => (f_X4_fault r22 q16.2).bind fun q23 => some (q23.1, q23.2)) else ((gR q16.2 l0 6 1).bind fun r18 => (gR q16.2 l0 6 0).bind fun r19 => (gR q16.2 r19 4 0).bind fun r20 => (f_X0_addTeam r18 r20 x4 x6 q16.2).bind fun q21 => some (q21.1, q21.2))) else (f_X6_doTeam_53 l0 q13.2))
set_option maxRecDepth 100000 in
set_option maxHeartbeats 4000000 in
theorem c_X6_doTeam {l0 : Nat} {h0 : Hp} {q : Int32 × Hp} (hf : f_X6_doTeam l0 h0 = some q) : Mt 7 yX6_doTeam cX6_doTeam 3 (some .int) [.ref l0] h0 (some (.int q.1)) q.2 := by
  refine MtQ.of (by decide) (Nat.le_of_ble_eq_true rfl) (fun X adr hr hn => ?_)
  unfold f_X6_doTeam at hf
  show AW X cX6_doTeam 3 RX6 (rmd 7 0 0) (Qmet X 0 0 (Qe (some (.int q.1)) q.2 adr)) 0 0 adr h0 0 [(0, .ref l0)] []
  obtain ⟨u0, e0, hf⟩ := b_some hf
  refine aw_aload_n 0 dX6_doTeam_0 rfl rfl ?_
  obtain ⟨r1, er1, hf⟩ := b_some hf
  refine aw_getR dX6_doTeam_1 gfX6_10 er1 ?_
  obtain ⟨q2, eq2, hf⟩ := b_some hf
  refine aw_cV0 (as := []) dX6_doTeam_4 moX4_step voX4_step mlX6_264 (k_X4_step eq2) rfl (rm_ok (by omega) (by decide)) ⟨Nat.le_refl _, Nat.le_refl _⟩ (Nat.le_of_ble_eq_true rfl) rfl (c_X4_step eq2) ?_
  refine aw_aload_n 0 dX6_doTeam_7 rfl rfl ?_
  obtain ⟨r3, er3, hf⟩ := b_some hf
  refine aw_getR dX6_doTeam_8 gfX6_10 er3 ?_
  obtain ⟨x4, ex4, hf⟩ := b_some hf
  refine aw_getI dX6_doTeam_11 gfX6_297 ex4 ?_
  refine aw_istore_n (L' := [(1, .int x4), (0, .ref l0)]) dX6_doTeam_14 rfl (by decide) rfl ?_
  refine aw_aload_n 1 dX6_doTeam_15 rfl rfl ?_
  obtain ⟨r5, er5, hf⟩ := b_some hf
  refine aw_getR dX6_doTeam_16 gfX6_10 er5 ?_
  obtain ⟨x6, ex6, hf⟩ := b_some hf
  refine aw_getI dX6_doTeam_19 gfX6_300 ex6 ?_
  refine aw_istore_n (L' := [(2, .int x6), (1, .int x4), (0, .ref l0)]) dX6_doTeam_22 rfl (by decide) rfl ?_
  refine aw_aload_n 2 dX6_doTeam_23 rfl rfl ?_
  obtain ⟨r7, er7, hf⟩ := b_some hf
  refine aw_getR dX6_doTeam_24 gfX6_10 er7 ?_
  obtain ⟨q8, eq8, hf⟩ := b_some hf
  refine aw_cV (as := []) dX6_doTeam_27 moX4_isName voX4_isName mlX6_303 (k_X4_isName eq8) rfl (rm_ok (by omega) (by decide)) ⟨Nat.le_refl _, Nat.le_refl _⟩ (Nat.le_of_ble_eq_true rfl) rfl (c_X4_isName eq8) ?_
  refine aw_if_eq (tgt := 53) dX6_doTeam_30 (by decide) (fun c9 => ?_) (fun c9 => ?_)
  · have hf := i_pos c9 hf
    exact aw_sub [2] rfl (c_X6_doTeam_53 hr hf)
  · have hf := i_neg c9 hf
    refine aw_aload_n 2 dX6_doTeam_33 rfl rfl ?_
    obtain ⟨r10, er10, hf⟩ := b_some hf
    refine aw_getR dX6_doTeam_34 gfX6_19 er10 ?_
    refine aw_aload_n 2 dX6_doTeam_37 rfl rfl ?_
    obtain ⟨r11, er11, hf⟩ := b_some hf
    refine aw_getR dX6_doTeam_38 gfX6_10 er11 ?_
    obtain ⟨r12, er12, hf⟩ := b_some hf
    refine aw_getR dX6_doTeam_41 gfX6_80 er12 ?_
    refine aw_iload_n 1 dX6_doTeam_44 rfl rfl ?_
    refine aw_iload_n 0 dX6_doTeam_45 rfl rfl ?_
    obtain ⟨q13, eq13, hf⟩ := b_some hf
    refine aw_cV (as := [.ref r12, .int x4, .int x6]) dX6_doTeam_46 moX0_whose voX0_whose mlX6_83 (k_X0_whose eq13) rfl (rm_ok (by omega) (by decide)) ⟨Nat.le_refl _, Nat.le_refl _⟩ (Nat.le_of_ble_eq_true rfl) rfl (c_X0_whose eq13) ?_
    refine aw_iconst (v := -1) dX6_doTeam_49 (by decide) ?_
    refine aw_icmp_eq (tgt := 61) dX6_doTeam_50 (by decide) (fun c14 => ?_) (fun c14 => ?_)
    · have hf := i_pos c14 hf
      refine aw_aload_n 2 dX6_doTeam_61 rfl rfl ?_
      obtain ⟨r15, er15, hf⟩ := b_some hf
      refine aw_getR dX6_doTeam_62 gfX6_10 er15 ?_
      obtain ⟨q16, eq16, hf⟩ := b_some hf
      refine aw_cV (as := []) dX6_doTeam_65 moX4_ends voX4_ends mlX6_306 (k_X4_ends eq16) rfl (rm_ok (by omega) (by decide)) ⟨Nat.le_refl _, Nat.le_refl _⟩ (Nat.le_of_ble_eq_true rfl) rfl (c_X4_ends eq16) ?_
      refine aw_if_ne (tgt := 79) dX6_doTeam_68 (by decide) (fun c17 => ?_) (fun c17 => ?_)
      · have hf := i_neg c17 hf
        refine aw_aload_n 2 dX6_doTeam_79 rfl rfl ?_
        obtain ⟨r18, er18, hf⟩ := b_some hf
        refine aw_getR dX6_doTeam_80 gfX6_19 er18 ?_
        refine aw_aload_n 2 dX6_doTeam_83 rfl rfl ?_
        obtain ⟨r19, er19, hf⟩ := b_some hf
        refine aw_getR dX6_doTeam_84 gfX6_10 er19 ?_
        obtain ⟨r20, er20, hf⟩ := b_some hf
        refine aw_getR dX6_doTeam_87 gfX6_80 er20 ?_
        refine aw_iload_n 1 dX6_doTeam_90 rfl rfl ?_
        refine aw_iload_n 0 dX6_doTeam_91 rfl rfl ?_
        obtain ⟨q21, eq21, hf⟩ := b_some hf
        refine aw_cV (as := [.ref r20, .int x4, .int x6]) dX6_doTeam_92 moX0_addTeam voX0_addTeam mlX6_309 (k_X0_addTeam eq21) rfl (rm_ok (by omega) (by decide)) ⟨Nat.le_refl _, Nat.le_refl _⟩ (Nat.le_of_ble_eq_true rfl) rfl (c_X0_addTeam eq21) ?_
        have hq := Option.some.inj hf
        subst hq
        exact aw_iret hr dX6_doTeam_95 ⟨rfl, rfl, rfl⟩
      · have hf := i_pos c17 hf
        refine aw_aload_n 2 dX6_doTeam_71 rfl rfl ?_
        obtain ⟨r22, er22, hf⟩ := b_some hf
        refine aw_getR dX6_doTeam_72 gfX6_10 er22 ?_
        obtain ⟨q23, eq23, hf⟩ := b_some hf
        refine aw_cV (as := []) dX6_doTeam_75 moX4_fault voX4_fault mlX6_294 (k_X4_fault eq23) rfl (rm_ok (by omega) (by decide)) ⟨Nat.le_refl _, Nat.le_refl _⟩ (Nat.le_of_ble_eq_true rfl) rfl (c_X4_fault eq23) ?_
        have hq := Option.some.inj hf
        subst hq
        exact aw_iret hr dX6_doTeam_78 ⟨rfl, rfl, rfl⟩
    · have hf := i_neg c14 hf
      exact aw_sub [2] rfl (c_X6_doTeam_53 hr hf)
theorem k_X6_doTeam {l0 : Nat} {h0 : Hp} {q : Int32 × Hp} (hf : f_X6_doTeam l0 h0 = some q) : ck h0 l0 6 = some () := by
  unfold f_X6_doTeam at hf
  obtain ⟨u0, e0, hf⟩ := b_some hf
  exact e0
theorem dX6_doText_0 : decode cX6_doText 0 = .ok (.aload_n 0, 1) := by decide +kernel
theorem dX6_doText_1 : decode cX6_doText 1 = .ok (.getfield 10, 3) := by decide +kernel
theorem dX6_doText_4 : decode cX6_doText 4 = .ok (.invokevirtual 264, 3) := by decide +kernel
theorem dX6_doText_7 : decode cX6_doText 7 = .ok (.aload_n 0, 1) := by decide +kernel
theorem dX6_doText_8 : decode cX6_doText 8 = .ok (.getfield 10, 3) := by decide +kernel
theorem dX6_doText_11 : decode cX6_doText 11 = .ok (.ldc_w 267, 3) := by decide +kernel
theorem dX6_doText_14 : decode cX6_doText 14 = .ok (.invokevirtual 269, 3) := by decide +kernel
theorem dX6_doText_17 : decode cX6_doText 17 = .ok (.ifCond .eq 8, 3) := by decide +kernel
theorem dX6_doText_20 : decode cX6_doText 20 = .ok (.aload_n 0, 1) := by decide +kernel
theorem dX6_doText_21 : decode cX6_doText 21 = .ok (.invokevirtual 273, 3) := by decide +kernel
theorem dX6_doText_24 : decode cX6_doText 24 = .ok (.ireturn, 1) := by decide +kernel
theorem dX6_doText_25 : decode cX6_doText 25 = .ok (.aload_n 0, 1) := by decide +kernel
theorem dX6_doText_26 : decode cX6_doText 26 = .ok (.getfield 10, 3) := by decide +kernel
theorem dX6_doText_29 : decode cX6_doText 29 = .ok (.ldc_w 276, 3) := by decide +kernel
theorem dX6_doText_32 : decode cX6_doText 32 = .ok (.invokevirtual 269, 3) := by decide +kernel
theorem dX6_doText_35 : decode cX6_doText 35 = .ok (.ifCond .eq 8, 3) := by decide +kernel
theorem dX6_doText_38 : decode cX6_doText 38 = .ok (.aload_n 0, 1) := by decide +kernel
theorem dX6_doText_39 : decode cX6_doText 39 = .ok (.invokevirtual 278, 3) := by decide +kernel
theorem dX6_doText_42 : decode cX6_doText 42 = .ok (.ireturn, 1) := by decide +kernel
theorem dX6_doText_43 : decode cX6_doText 43 = .ok (.aload_n 0, 1) := by decide +kernel
theorem dX6_doText_44 : decode cX6_doText 44 = .ok (.getfield 10, 3) := by decide +kernel
theorem dX6_doText_47 : decode cX6_doText 47 = .ok (.ldc_w 281, 3) := by decide +kernel
theorem dX6_doText_50 : decode cX6_doText 50 = .ok (.invokevirtual 269, 3) := by decide +kernel
theorem dX6_doText_53 : decode cX6_doText 53 = .ok (.ifCond .eq 8, 3) := by decide +kernel
theorem dX6_doText_56 : decode cX6_doText 56 = .ok (.aload_n 0, 1) := by decide +kernel
theorem dX6_doText_57 : decode cX6_doText 57 = .ok (.invokevirtual 283, 3) := by decide +kernel
theorem dX6_doText_60 : decode cX6_doText 60 = .ok (.ireturn, 1) := by decide +kernel
theorem dX6_doText_61 : decode cX6_doText 61 = .ok (.aload_n 0, 1) := by decide +kernel
theorem dX6_doText_62 : decode cX6_doText 62 = .ok (.getfield 10, 3) := by decide +kernel
theorem dX6_doText_65 : decode cX6_doText 65 = .ok (.ldc_w 286, 3) := by decide +kernel
theorem dX6_doText_68 : decode cX6_doText 68 = .ok (.invokevirtual 269, 3) := by decide +kernel
theorem dX6_doText_71 : decode cX6_doText 71 = .ok (.ifCond .eq 9, 3) := by decide +kernel
theorem dX6_doText_74 : decode cX6_doText 74 = .ok (.aload_n 0, 1) := by decide +kernel
theorem dX6_doText_75 : decode cX6_doText 75 = .ok (.iconst 1, 1) := by decide +kernel
theorem dX6_doText_76 : decode cX6_doText 76 = .ok (.invokevirtual 288, 3) := by decide +kernel
theorem dX6_doText_79 : decode cX6_doText 79 = .ok (.ireturn, 1) := by decide +kernel
theorem dX6_doText_80 : decode cX6_doText 80 = .ok (.aload_n 0, 1) := by decide +kernel
theorem dX6_doText_81 : decode cX6_doText 81 = .ok (.getfield 10, 3) := by decide +kernel
theorem dX6_doText_84 : decode cX6_doText 84 = .ok (.ldc_w 292, 3) := by decide +kernel
theorem dX6_doText_87 : decode cX6_doText 87 = .ok (.invokevirtual 269, 3) := by decide +kernel
theorem dX6_doText_90 : decode cX6_doText 90 = .ok (.ifCond .eq 9, 3) := by decide +kernel
theorem dX6_doText_93 : decode cX6_doText 93 = .ok (.aload_n 0, 1) := by decide +kernel
theorem dX6_doText_94 : decode cX6_doText 94 = .ok (.iconst 0, 1) := by decide +kernel
theorem dX6_doText_95 : decode cX6_doText 95 = .ok (.invokevirtual 288, 3) := by decide +kernel
theorem dX6_doText_98 : decode cX6_doText 98 = .ok (.ireturn, 1) := by decide +kernel
theorem dX6_doText_99 : decode cX6_doText 99 = .ok (.aload_n 0, 1) := by decide +kernel
theorem dX6_doText_100 : decode cX6_doText 100 = .ok (.getfield 10, 3) := by decide +kernel
theorem dX6_doText_103 : decode cX6_doText 103 = .ok (.invokevirtual 294, 3) := by decide +kernel
theorem dX6_doText_106 : decode cX6_doText 106 = .ok (.ireturn, 1) := by decide +kernel
def f_X6_doText (l0 : Nat) (h0 : Hp) : Option (Int32 × Hp) :=
  (ck h0 l0 6).bind fun _ => (gR h0 l0 6 0).bind fun r1 => (f_X4_step r1 h0).bind fun q2 => (gR q2.2 l0 6 0).bind fun r3 => (f_X4_is r3 (1010 + 0) q2.2).bind fun q4 => if q4.1 = 0 then ((gR q4.2 l0 6 0).bind fun r6 => (f_X4_is r6 (1010 + 1) q4.2).bind fun q7 => if q7.1 = 0 then ((gR q7.2 l0 6 0).bind fun r9 => (f_X4_is r9 (1010 + 2) q7.2).bind fun q10 => if q10.1 = 0 then ((gR q10.2 l0 6 0).bind fun r12 => (f_X4_is r12 (1010 + 3) q10.2).bind fun q13 => if q13.1 = 0 then ((gR q13.2 l0 6 0).bind fun r15 => (f_X4_is r15 (1010 + 4) q13.2).bind fun q16 => if q16.1 = 0 then ((gR q16.2 l0 6 0).bind fun r18 => (f_X4_fault r18 q16.2).bind fun q19 => some (q19.1, q19.2)) else ((f_X6_doPlay l0 (0 : Int32) q16.2).bind fun q20 => some (q20.1, q20.2))) else ((f_X6_doPlay l0 (1 : Int32) q13.2).bind fun q21 => some (q21.1, q21.2))) else ((f_X6_doGame l0 q10.2).bind fun q22 => some (q22.1, q22.2))) else ((f_X6_doStart l0 q7.2).bind fun q23 => some (q23.1, q23.2))) else ((f_X6_doTeam l0 q4.2).bind fun q24 => some (q24.1, q24.2))
set_option maxRecDepth 100000 in
set_option maxHeartbeats 4000000 in
theorem c_X6_doText {l0 : Nat} {h0 : Hp} {q : Int32 × Hp} (hf : f_X6_doText l0 h0 = some q) : Mt 9 yX6_doText cX6_doText 1 (some .int) [.ref l0] h0 (some (.int q.1)) q.2 := by
  refine MtQ.of (by decide) (Nat.le_of_ble_eq_true rfl) (fun X adr hr hn => ?_)
  unfold f_X6_doText at hf
  show AW X cX6_doText 1 RX6 (rmd 9 0 0) (Qmet X 0 0 (Qe (some (.int q.1)) q.2 adr)) 0 0 adr h0 0 [(0, .ref l0)] []
  obtain ⟨u0, e0, hf⟩ := b_some hf
  refine aw_aload_n 0 dX6_doText_0 rfl rfl ?_
  obtain ⟨r1, er1, hf⟩ := b_some hf
  refine aw_getR dX6_doText_1 gfX6_10 er1 ?_
  obtain ⟨q2, eq2, hf⟩ := b_some hf
  refine aw_cV0 (as := []) dX6_doText_4 moX4_step voX4_step mlX6_264 (k_X4_step eq2) rfl (rm_ok (by omega) (by decide)) ⟨Nat.le_refl _, Nat.le_refl _⟩ (Nat.le_of_ble_eq_true rfl) rfl (c_X4_step eq2) ?_
  refine aw_aload_n 0 dX6_doText_7 rfl rfl ?_
  obtain ⟨r3, er3, hf⟩ := b_some hf
  refine aw_getR dX6_doText_8 gfX6_10 er3 ?_
  refine aw_ldcSW dX6_doText_11 ksX6_267 ?_
  obtain ⟨q4, eq4, hf⟩ := b_some hf
  refine aw_cV (as := [.ref (1010 + 0)]) dX6_doText_14 moX4_is voX4_is mlX6_269 (k_X4_is eq4) rfl (rm_ok (by omega) (by decide)) ⟨Nat.le_refl _, Nat.le_refl _⟩ (Nat.le_of_ble_eq_true rfl) rfl (c_X4_is eq4) ?_
  refine aw_if_eq (tgt := 25) dX6_doText_17 (by decide) (fun c5 => ?_) (fun c5 => ?_)
  · have hf := i_pos c5 hf
    refine aw_aload_n 0 dX6_doText_25 rfl rfl ?_
    obtain ⟨r6, er6, hf⟩ := b_some hf
    refine aw_getR dX6_doText_26 gfX6_10 er6 ?_
    refine aw_ldcSW dX6_doText_29 ksX6_276 ?_
    obtain ⟨q7, eq7, hf⟩ := b_some hf
    refine aw_cV (as := [.ref (1010 + 1)]) dX6_doText_32 moX4_is voX4_is mlX6_269 (k_X4_is eq7) rfl (rm_ok (by omega) (by decide)) ⟨Nat.le_refl _, Nat.le_refl _⟩ (Nat.le_of_ble_eq_true rfl) rfl (c_X4_is eq7) ?_
    refine aw_if_eq (tgt := 43) dX6_doText_35 (by decide) (fun c8 => ?_) (fun c8 => ?_)
    · have hf := i_pos c8 hf
      refine aw_aload_n 0 dX6_doText_43 rfl rfl ?_
      obtain ⟨r9, er9, hf⟩ := b_some hf
      refine aw_getR dX6_doText_44 gfX6_10 er9 ?_
      refine aw_ldcSW dX6_doText_47 ksX6_281 ?_
      obtain ⟨q10, eq10, hf⟩ := b_some hf
      refine aw_cV (as := [.ref (1010 + 2)]) dX6_doText_50 moX4_is voX4_is mlX6_269 (k_X4_is eq10) rfl (rm_ok (by omega) (by decide)) ⟨Nat.le_refl _, Nat.le_refl _⟩ (Nat.le_of_ble_eq_true rfl) rfl (c_X4_is eq10) ?_
      refine aw_if_eq (tgt := 61) dX6_doText_53 (by decide) (fun c11 => ?_) (fun c11 => ?_)
      · have hf := i_pos c11 hf
        refine aw_aload_n 0 dX6_doText_61 rfl rfl ?_
        obtain ⟨r12, er12, hf⟩ := b_some hf
        refine aw_getR dX6_doText_62 gfX6_10 er12 ?_
        refine aw_ldcSW dX6_doText_65 ksX6_286 ?_
        obtain ⟨q13, eq13, hf⟩ := b_some hf
        refine aw_cV (as := [.ref (1010 + 3)]) dX6_doText_68 moX4_is voX4_is mlX6_269 (k_X4_is eq13) rfl (rm_ok (by omega) (by decide)) ⟨Nat.le_refl _, Nat.le_refl _⟩ (Nat.le_of_ble_eq_true rfl) rfl (c_X4_is eq13) ?_
        refine aw_if_eq (tgt := 80) dX6_doText_71 (by decide) (fun c14 => ?_) (fun c14 => ?_)
        · have hf := i_pos c14 hf
          refine aw_aload_n 0 dX6_doText_80 rfl rfl ?_
          obtain ⟨r15, er15, hf⟩ := b_some hf
          refine aw_getR dX6_doText_81 gfX6_10 er15 ?_
          refine aw_ldcSW dX6_doText_84 ksX6_292 ?_
          obtain ⟨q16, eq16, hf⟩ := b_some hf
          refine aw_cV (as := [.ref (1010 + 4)]) dX6_doText_87 moX4_is voX4_is mlX6_269 (k_X4_is eq16) rfl (rm_ok (by omega) (by decide)) ⟨Nat.le_refl _, Nat.le_refl _⟩ (Nat.le_of_ble_eq_true rfl) rfl (c_X4_is eq16) ?_
          refine aw_if_eq (tgt := 99) dX6_doText_90 (by decide) (fun c17 => ?_) (fun c17 => ?_)
          · have hf := i_pos c17 hf
            refine aw_aload_n 0 dX6_doText_99 rfl rfl ?_
            obtain ⟨r18, er18, hf⟩ := b_some hf
            refine aw_getR dX6_doText_100 gfX6_10 er18 ?_
            obtain ⟨q19, eq19, hf⟩ := b_some hf
            refine aw_cV (as := []) dX6_doText_103 moX4_fault voX4_fault mlX6_294 (k_X4_fault eq19) rfl (rm_ok (by omega) (by decide)) ⟨Nat.le_refl _, Nat.le_refl _⟩ (Nat.le_of_ble_eq_true rfl) rfl (c_X4_fault eq19) ?_
            have hq := Option.some.inj hf
            subst hq
            exact aw_iret hr dX6_doText_106 ⟨rfl, rfl, rfl⟩
          · have hf := i_neg c17 hf
            refine aw_aload_n 0 dX6_doText_93 rfl rfl ?_
            refine aw_iconst (v := 0) dX6_doText_94 (by decide) ?_
            obtain ⟨q20, eq20, hf⟩ := b_some hf
            refine aw_cV (as := [.int (0 : Int32)]) dX6_doText_95 moX6_doPlay voX6_doPlay mlX6_288 (k_X6_doPlay eq20) rfl (rm_ok (by omega) (by decide)) ⟨Nat.le_refl _, Nat.le_refl _⟩ (Nat.le_of_ble_eq_true rfl) rfl (c_X6_doPlay eq20) ?_
            have hq := Option.some.inj hf
            subst hq
            exact aw_iret hr dX6_doText_98 ⟨rfl, rfl, rfl⟩
        · have hf := i_neg c14 hf
          refine aw_aload_n 0 dX6_doText_74 rfl rfl ?_
          refine aw_iconst (v := 1) dX6_doText_75 (by decide) ?_
          obtain ⟨q21, eq21, hf⟩ := b_some hf
          refine aw_cV (as := [.int (1 : Int32)]) dX6_doText_76 moX6_doPlay voX6_doPlay mlX6_288 (k_X6_doPlay eq21) rfl (rm_ok (by omega) (by decide)) ⟨Nat.le_refl _, Nat.le_refl _⟩ (Nat.le_of_ble_eq_true rfl) rfl (c_X6_doPlay eq21) ?_
          have hq := Option.some.inj hf
          subst hq
          exact aw_iret hr dX6_doText_79 ⟨rfl, rfl, rfl⟩
      · have hf := i_neg c11 hf
        refine aw_aload_n 0 dX6_doText_56 rfl rfl ?_
        obtain ⟨q22, eq22, hf⟩ := b_some hf
        refine aw_cV (as := []) dX6_doText_57 moX6_doGame voX6_doGame mlX6_283 (k_X6_doGame eq22) rfl (rm_ok (by omega) (by decide)) ⟨Nat.le_refl _, Nat.le_refl _⟩ (Nat.le_of_ble_eq_true rfl) rfl (c_X6_doGame eq22) ?_
        have hq := Option.some.inj hf
        subst hq
        exact aw_iret hr dX6_doText_60 ⟨rfl, rfl, rfl⟩
    · have hf := i_neg c8 hf
      refine aw_aload_n 0 dX6_doText_38 rfl rfl ?_
      obtain ⟨q23, eq23, hf⟩ := b_some hf
      refine aw_cV (as := []) dX6_doText_39 moX6_doStart voX6_doStart mlX6_278 (k_X6_doStart eq23) rfl (rm_ok (by omega) (by decide)) ⟨Nat.le_refl _, Nat.le_refl _⟩ (Nat.le_of_ble_eq_true rfl) rfl (c_X6_doStart eq23) ?_
      have hq := Option.some.inj hf
      subst hq
      exact aw_iret hr dX6_doText_42 ⟨rfl, rfl, rfl⟩
  · have hf := i_neg c5 hf
    refine aw_aload_n 0 dX6_doText_20 rfl rfl ?_
    obtain ⟨q24, eq24, hf⟩ := b_some hf
    refine aw_cV (as := []) dX6_doText_21 moX6_doTeam voX6_doTeam mlX6_273 (k_X6_doTeam eq24) rfl (rm_ok (by omega) (by decide)) ⟨Nat.le_refl _, Nat.le_refl _⟩ (Nat.le_of_ble_eq_true rfl) rfl (c_X6_doTeam eq24) ?_
    have hq := Option.some.inj hf
    subst hq
    exact aw_iret hr dX6_doText_24 ⟨rfl, rfl, rfl⟩
theorem k_X6_doText {l0 : Nat} {h0 : Hp} {q : Int32 × Hp} (hf : f_X6_doText l0 h0 = some q) : ck h0 l0 6 = some () := by
  unfold f_X6_doText at hf
  obtain ⟨u0, e0, hf⟩ := b_some hf
  exact e0
theorem dX6_drawn_0 : decode cX6_drawn 0 = .ok (.aload_n 0, 1) := by decide +kernel
theorem dX6_drawn_1 : decode cX6_drawn 1 = .ok (.iload_n 1, 1) := by decide +kernel
theorem dX6_drawn_2 : decode cX6_drawn 2 = .ok (.invokevirtual 212, 3) := by decide +kernel
theorem dX6_drawn_5 : decode cX6_drawn 5 = .ok (.aload_n 0, 1) := by decide +kernel
theorem dX6_drawn_6 : decode cX6_drawn 6 = .ok (.getfield 50, 3) := by decide +kernel
theorem dX6_drawn_9 : decode cX6_drawn 9 = .ok (.aload_n 0, 1) := by decide +kernel
theorem dX6_drawn_10 : decode cX6_drawn 10 = .ok (.getfield 19, 3) := by decide +kernel
theorem dX6_drawn_13 : decode cX6_drawn 13 = .ok (.getfield 215, 3) := by decide +kernel
theorem dX6_drawn_16 : decode cX6_drawn 16 = .ok (.invokestatic 216, 3) := by decide +kernel
theorem dX6_drawn_19 : decode cX6_drawn 19 = .ok (.ireturn, 1) := by decide +kernel
def f_X6_drawn (l0 : Nat) (l1 : Int32) (h0 : Hp) : Option (Int32 × Hp) :=
  (ck h0 l0 6).bind fun _ => (f_X6_drawInto l0 l1 h0).bind fun q1 => (gR q1.2 l0 6 8).bind fun r2 => (gR q1.2 l0 6 1).bind fun r3 => (gI q1.2 r3 0 0).bind fun x4 => (f_X6_firstOf r2 x4 q1.2).bind fun q5 => some (q5.1, q5.2)
set_option maxRecDepth 100000 in
set_option maxHeartbeats 4000000 in
theorem c_X6_drawn {l0 : Nat} {l1 : Int32} {h0 : Hp} {q : Int32 × Hp} (hf : f_X6_drawn l0 l1 h0 = some q) : Mt 4 yX6_drawn cX6_drawn 2 (some .int) [.ref l0, .int l1] h0 (some (.int q.1)) q.2 := by
  refine MtQ.of (by decide) (Nat.le_of_ble_eq_true rfl) (fun X adr hr hn => ?_)
  unfold f_X6_drawn at hf
  show AW X cX6_drawn 2 RX6 (rmd 4 0 0) (Qmet X 0 0 (Qe (some (.int q.1)) q.2 adr)) 0 0 adr h0 0 [(0, .ref l0), (1, .int l1)] []
  obtain ⟨u0, e0, hf⟩ := b_some hf
  refine aw_aload_n 0 dX6_drawn_0 rfl rfl ?_
  refine aw_iload_n 1 dX6_drawn_1 rfl rfl ?_
  obtain ⟨q1, eq1, hf⟩ := b_some hf
  refine aw_cV0 (as := [.int l1]) dX6_drawn_2 moX6_drawInto voX6_drawInto mlX6_212 (k_X6_drawInto eq1) rfl (rm_ok (by omega) (by decide)) ⟨Nat.le_refl _, Nat.le_refl _⟩ (Nat.le_of_ble_eq_true rfl) rfl (c_X6_drawInto eq1) ?_
  refine aw_aload_n 0 dX6_drawn_5 rfl rfl ?_
  obtain ⟨r2, er2, hf⟩ := b_some hf
  refine aw_getR dX6_drawn_6 gfX6_50 er2 ?_
  refine aw_aload_n 0 dX6_drawn_9 rfl rfl ?_
  obtain ⟨r3, er3, hf⟩ := b_some hf
  refine aw_getR dX6_drawn_10 gfX6_19 er3 ?_
  obtain ⟨x4, ex4, hf⟩ := b_some hf
  refine aw_getI dX6_drawn_13 gfX6_215 ex4 ?_
  obtain ⟨q5, eq5, hf⟩ := b_some hf
  refine aw_cS (as := [.ref r2, .int x4]) dX6_drawn_16 moX6_firstOf soX6_firstOf mlX6_216 (rm_ok (by omega) (by decide)) ⟨Nat.le_refl _, Nat.le_refl _⟩ (Nat.le_of_ble_eq_true rfl) rfl (c_X6_firstOf eq5) ?_
  have hq := Option.some.inj hf
  subst hq
  exact aw_iret hr dX6_drawn_19 ⟨rfl, rfl, rfl⟩
theorem k_X6_drawn {l0 : Nat} {l1 : Int32} {h0 : Hp} {q : Int32 × Hp} (hf : f_X6_drawn l0 l1 h0 = some q) : ck h0 l0 6 = some () := by
  unfold f_X6_drawn at hf
  obtain ⟨u0, e0, hf⟩ := b_some hf
  exact e0
theorem dX6_isByte_0 : decode cX6_isByte 0 = .ok (.iload_n 0, 1) := by decide +kernel
theorem dX6_isByte_1 : decode cX6_isByte 1 = .ok (.ifCond .lt 14, 3) := by decide +kernel
theorem dX6_isByte_4 : decode cX6_isByte 4 = .ok (.iload_n 0, 1) := by decide +kernel
theorem dX6_isByte_5 : decode cX6_isByte 5 = .ok (.sipush 255, 3) := by decide +kernel
theorem dX6_isByte_8 : decode cX6_isByte 8 = .ok (.if_icmp .gt 7, 3) := by decide +kernel
theorem dX6_isByte_11 : decode cX6_isByte 11 = .ok (.iconst 1, 1) := by decide +kernel
theorem dX6_isByte_12 : decode cX6_isByte 12 = .ok (.goto 4, 3) := by decide +kernel
theorem dX6_isByte_15 : decode cX6_isByte 15 = .ok (.iconst 0, 1) := by decide +kernel
theorem dX6_isByte_16 : decode cX6_isByte 16 = .ok (.ireturn, 1) := by decide +kernel
def f_X6_isByte (l0 : Int32) (h0 : Hp) : Option (Int32 × Hp) :=
  if l0 < 0 then (some ((0 : Int32), h0)) else (if (255 : Int32) < l0 then (some ((0 : Int32), h0)) else (some ((1 : Int32), h0)))
set_option maxRecDepth 100000 in
set_option maxHeartbeats 4000000 in
theorem c_X6_isByte {l0 : Int32} {h0 : Hp} {q : Int32 × Hp} (hf : f_X6_isByte l0 h0 = some q) : Mt 1 yX6_isByte cX6_isByte 1 (some .boolean) [.int l0] h0 (some (.int q.1)) q.2 := by
  refine MtQ.of (by decide) (Nat.le_of_ble_eq_true rfl) (fun X adr hr hn => ?_)
  unfold f_X6_isByte at hf
  show AW X cX6_isByte 1 RX6 (rmd 1 0 0) (Qmet X 0 0 (Qe (some (.int q.1)) q.2 adr)) 0 0 adr h0 0 [(0, .int l0)] []
  refine aw_iload_n 0 dX6_isByte_0 rfl rfl ?_
  refine aw_if_lt (tgt := 15) dX6_isByte_1 (by decide) (fun c1 => ?_) (fun c1 => ?_)
  · have hf := i_pos c1 hf
    refine aw_iconst (v := 0) dX6_isByte_15 (by decide) ?_
    have hq := Option.some.inj hf
    subst hq
    exact aw_zret hr (by decide) dX6_isByte_16 ⟨rfl, rfl, rfl⟩
  · have hf := i_neg c1 hf
    refine aw_iload_n 0 dX6_isByte_4 rfl rfl ?_
    refine aw_sipush (v := 255) dX6_isByte_5 (by decide) ?_
    refine aw_icmp_gt (tgt := 15) dX6_isByte_8 (by decide) (fun c2 => ?_) (fun c2 => ?_)
    · have hf := i_pos c2 hf
      refine aw_iconst (v := 0) dX6_isByte_15 (by decide) ?_
      have hq := Option.some.inj hf
      subst hq
      exact aw_zret hr (by decide) dX6_isByte_16 ⟨rfl, rfl, rfl⟩
    · have hf := i_neg c2 hf
      refine aw_iconst (v := 1) dX6_isByte_11 (by decide) ?_
      refine aw_goto (tgt := 16) dX6_isByte_12 (by decide) ?_
      have hq := Option.some.inj hf
      subst hq
      exact aw_zret hr (by decide) dX6_isByte_16 ⟨rfl, rfl, rfl⟩
theorem dX6_feed_0 : decode cX6_feed 0 = .ok (.iload_n 1, 1) := by decide +kernel
theorem dX6_feed_1 : decode cX6_feed 1 = .ok (.iconst 1, 1) := by decide +kernel
theorem dX6_feed_2 : decode cX6_feed 2 = .ok (.if_icmp .lt 8, 3) := by decide +kernel
theorem dX6_feed_5 : decode cX6_feed 5 = .ok (.iload_n 1, 1) := by decide +kernel
theorem dX6_feed_6 : decode cX6_feed 6 = .ok (.iconst 5, 1) := by decide +kernel
theorem dX6_feed_7 : decode cX6_feed 7 = .ok (.if_icmp .le 6, 3) := by decide +kernel
theorem dX6_feed_10 : decode cX6_feed 10 = .ok (.bipush (-2), 2) := by decide +kernel
theorem dX6_feed_12 : decode cX6_feed 12 = .ok (.ireturn, 1) := by decide +kernel
theorem dX6_feed_13 : decode cX6_feed 13 = .ok (.iload_n 2, 1) := by decide +kernel
theorem dX6_feed_14 : decode cX6_feed 14 = .ok (.invokestatic 61, 3) := by decide +kernel
theorem dX6_feed_17 : decode cX6_feed 17 = .ok (.ifCond .eq 34, 3) := by decide +kernel
theorem dX6_feed_20 : decode cX6_feed 20 = .ok (.iload_n 3, 1) := by decide +kernel
theorem dX6_feed_21 : decode cX6_feed 21 = .ok (.invokestatic 61, 3) := by decide +kernel
theorem dX6_feed_24 : decode cX6_feed 24 = .ok (.ifCond .eq 27, 3) := by decide +kernel
theorem dX6_feed_27 : decode cX6_feed 27 = .ok (.iload 4, 2) := by decide +kernel
theorem dX6_feed_29 : decode cX6_feed 29 = .ok (.invokestatic 61, 3) := by decide +kernel
theorem dX6_feed_32 : decode cX6_feed 32 = .ok (.ifCond .eq 19, 3) := by decide +kernel
theorem dX6_feed_35 : decode cX6_feed 35 = .ok (.iload 5, 2) := by decide +kernel
theorem dX6_feed_37 : decode cX6_feed 37 = .ok (.invokestatic 61, 3) := by decide +kernel
theorem dX6_feed_40 : decode cX6_feed 40 = .ok (.ifCond .eq 11, 3) := by decide +kernel
theorem dX6_feed_43 : decode cX6_feed 43 = .ok (.iload 6, 2) := by decide +kernel
theorem dX6_feed_45 : decode cX6_feed 45 = .ok (.invokestatic 61, 3) := by decide +kernel
theorem dX6_feed_48 : decode cX6_feed 48 = .ok (.ifCond .ne 6, 3) := by decide +kernel
theorem dX6_feed_51 : decode cX6_feed 51 = .ok (.bipush (-2), 2) := by decide +kernel
theorem dX6_feed_53 : decode cX6_feed 53 = .ok (.ireturn, 1) := by decide +kernel
theorem dX6_feed_54 : decode cX6_feed 54 = .ok (.aload_n 0, 1) := by decide +kernel
theorem dX6_feed_55 : decode cX6_feed 55 = .ok (.getfield 10, 3) := by decide +kernel
theorem dX6_feed_58 : decode cX6_feed 58 = .ok (.getfield 65, 3) := by decide +kernel
theorem dX6_feed_61 : decode cX6_feed 61 = .ok (.iload_n 1, 1) := by decide +kernel
theorem dX6_feed_62 : decode cX6_feed 62 = .ok (.iadd, 1) := by decide +kernel
theorem dX6_feed_63 : decode cX6_feed 63 = .ok (.bipush 40, 2) := by decide +kernel
theorem dX6_feed_65 : decode cX6_feed 65 = .ok (.if_icmp .le 6, 3) := by decide +kernel
theorem dX6_feed_68 : decode cX6_feed 68 = .ok (.bipush (-4), 2) := by decide +kernel
theorem dX6_feed_70 : decode cX6_feed 70 = .ok (.ireturn, 1) := by decide +kernel
theorem dX6_feed_71 : decode cX6_feed 71 = .ok (.aload_n 0, 1) := by decide +kernel
theorem dX6_feed_72 : decode cX6_feed 72 = .ok (.getfield 10, 3) := by decide +kernel
theorem dX6_feed_75 : decode cX6_feed 75 = .ok (.iload_n 2, 1) := by decide +kernel
theorem dX6_feed_76 : decode cX6_feed 76 = .ok (.invokevirtual 69, 3) := by decide +kernel
theorem dX6_feed_79 : decode cX6_feed 79 = .ok (.iload_n 1, 1) := by decide +kernel
theorem dX6_feed_80 : decode cX6_feed 80 = .ok (.iconst 1, 1) := by decide +kernel
theorem dX6_feed_81 : decode cX6_feed 81 = .ok (.if_icmp .le 11, 3) := by decide +kernel
theorem dX6_feed_84 : decode cX6_feed 84 = .ok (.aload_n 0, 1) := by decide +kernel
theorem dX6_feed_85 : decode cX6_feed 85 = .ok (.getfield 10, 3) := by decide +kernel
theorem dX6_feed_88 : decode cX6_feed 88 = .ok (.iload_n 3, 1) := by decide +kernel
theorem dX6_feed_89 : decode cX6_feed 89 = .ok (.invokevirtual 69, 3) := by decide +kernel
theorem dX6_feed_92 : decode cX6_feed 92 = .ok (.iload_n 1, 1) := by decide +kernel
theorem dX6_feed_93 : decode cX6_feed 93 = .ok (.iconst 2, 1) := by decide +kernel
theorem dX6_feed_94 : decode cX6_feed 94 = .ok (.if_icmp .le 12, 3) := by decide +kernel
theorem dX6_feed_97 : decode cX6_feed 97 = .ok (.aload_n 0, 1) := by decide +kernel
theorem dX6_feed_98 : decode cX6_feed 98 = .ok (.getfield 10, 3) := by decide +kernel
theorem dX6_feed_101 : decode cX6_feed 101 = .ok (.iload 4, 2) := by decide +kernel
theorem dX6_feed_103 : decode cX6_feed 103 = .ok (.invokevirtual 69, 3) := by decide +kernel
theorem dX6_feed_106 : decode cX6_feed 106 = .ok (.iload_n 1, 1) := by decide +kernel
theorem dX6_feed_107 : decode cX6_feed 107 = .ok (.iconst 3, 1) := by decide +kernel
theorem dX6_feed_108 : decode cX6_feed 108 = .ok (.if_icmp .le 12, 3) := by decide +kernel
theorem dX6_feed_111 : decode cX6_feed 111 = .ok (.aload_n 0, 1) := by decide +kernel
theorem dX6_feed_112 : decode cX6_feed 112 = .ok (.getfield 10, 3) := by decide +kernel
theorem dX6_feed_115 : decode cX6_feed 115 = .ok (.iload 5, 2) := by decide +kernel
theorem dX6_feed_117 : decode cX6_feed 117 = .ok (.invokevirtual 69, 3) := by decide +kernel
theorem dX6_feed_120 : decode cX6_feed 120 = .ok (.iload_n 1, 1) := by decide +kernel
theorem dX6_feed_121 : decode cX6_feed 121 = .ok (.iconst 4, 1) := by decide +kernel
theorem dX6_feed_122 : decode cX6_feed 122 = .ok (.if_icmp .le 12, 3) := by decide +kernel
theorem dX6_feed_125 : decode cX6_feed 125 = .ok (.aload_n 0, 1) := by decide +kernel
theorem dX6_feed_126 : decode cX6_feed 126 = .ok (.getfield 10, 3) := by decide +kernel
theorem dX6_feed_129 : decode cX6_feed 129 = .ok (.iload 6, 2) := by decide +kernel
theorem dX6_feed_131 : decode cX6_feed 131 = .ok (.invokevirtual 69, 3) := by decide +kernel
theorem dX6_feed_134 : decode cX6_feed 134 = .ok (.aload_n 0, 1) := by decide +kernel
theorem dX6_feed_135 : decode cX6_feed 135 = .ok (.getfield 10, 3) := by decide +kernel
theorem dX6_feed_138 : decode cX6_feed 138 = .ok (.getfield 65, 3) := by decide +kernel
theorem dX6_feed_141 : decode cX6_feed 141 = .ok (.ireturn, 1) := by decide +kernel
def f_X6_feed_134 (l0 : Nat) (h0 : Hp) : Option (Int32 × Hp) :=
  (gR h0 l0 6 0).bind fun r1 => (gI h0 r1 4 1).bind fun x2 => some (x2, h0)
set_option maxRecDepth 100000 in
set_option maxHeartbeats 4000000 in
theorem c_X6_feed_134 {X : Cx} {adr : Nat → Nat} {q : Int32 × Hp} (hr : (mth X).sig.returnType = (some .int)) {l0 : Nat} {h0 : Hp} (hf : f_X6_feed_134 l0 h0 = some q) : AW X cX6_feed 7 RX6 (rmd 2 0 0) (Qmet X 0 0 (Qe (some (.int q.1)) q.2 adr)) 0 0 adr h0 134 [(0, .ref l0)] [] := by
  unfold f_X6_feed_134 at hf
  refine aw_aload_n 0 dX6_feed_134 rfl rfl ?_
  obtain ⟨r1, er1, hf⟩ := b_some hf
  refine aw_getR dX6_feed_135 gfX6_10 er1 ?_
  obtain ⟨x2, ex2, hf⟩ := b_some hf
  refine aw_getI dX6_feed_138 gfX6_65 ex2 ?_
  have hq := Option.some.inj hf
  subst hq
  exact aw_iret hr dX6_feed_141 ⟨rfl, rfl, rfl⟩
def f_X6_feed_120 (l0 : Nat) (l1 : Int32) (l6 : Int32) (h0 : Hp) : Option (Int32 × Hp) :=
  if l1 ≤ (4 : Int32) then (f_X6_feed_134 l0 h0) else ((gR h0 l0 6 0).bind fun r2 => (f_X4_add r2 l6 h0).bind fun q3 => f_X6_feed_134 l0 q3.2)
set_option maxRecDepth 100000 in
set_option maxHeartbeats 4000000 in
theorem c_X6_feed_120 {X : Cx} {adr : Nat → Nat} {q : Int32 × Hp} (hr : (mth X).sig.returnType = (some .int)) {l0 : Nat} {l1 : Int32} {l6 : Int32} {h0 : Hp} (hf : f_X6_feed_120 l0 l1 l6 h0 = some q) : AW X cX6_feed 7 RX6 (rmd 2 0 0) (Qmet X 0 0 (Qe (some (.int q.1)) q.2 adr)) 0 0 adr h0 120 [(0, .ref l0), (1, .int l1), (6, .int l6)] [] := by
  unfold f_X6_feed_120 at hf
  refine aw_iload_n 1 dX6_feed_120 rfl rfl ?_
  refine aw_iconst (v := 4) dX6_feed_121 (by decide) ?_
  refine aw_icmp_le (tgt := 134) dX6_feed_122 (by decide) (fun c1 => ?_) (fun c1 => ?_)
  · have hf := i_pos c1 hf
    exact aw_sub [0] rfl (c_X6_feed_134 hr hf)
  · have hf := i_neg c1 hf
    refine aw_aload_n 0 dX6_feed_125 rfl rfl ?_
    obtain ⟨r2, er2, hf⟩ := b_some hf
    refine aw_getR dX6_feed_126 gfX6_10 er2 ?_
    refine aw_iload 2 dX6_feed_129 rfl ?_
    obtain ⟨q3, eq3, hf⟩ := b_some hf
    refine aw_cV0 (as := [.int l6]) dX6_feed_131 moX4_add voX4_add mlX6_69 (k_X4_add eq3) rfl (rm_ok (by omega) (by decide)) ⟨Nat.le_refl _, Nat.le_refl _⟩ (Nat.le_of_ble_eq_true rfl) rfl (c_X4_add eq3) ?_
    exact aw_sub [0] rfl (c_X6_feed_134 hr hf)
def f_X6_feed_106 (l0 : Nat) (l1 : Int32) (l5 : Int32) (l6 : Int32) (h0 : Hp) : Option (Int32 × Hp) :=
  if l1 ≤ (3 : Int32) then (f_X6_feed_120 l0 l1 l6 h0) else ((gR h0 l0 6 0).bind fun r2 => (f_X4_add r2 l5 h0).bind fun q3 => f_X6_feed_120 l0 l1 l6 q3.2)
set_option maxRecDepth 100000 in
set_option maxHeartbeats 4000000 in
theorem c_X6_feed_106 {X : Cx} {adr : Nat → Nat} {q : Int32 × Hp} (hr : (mth X).sig.returnType = (some .int)) {l0 : Nat} {l1 : Int32} {l5 : Int32} {l6 : Int32} {h0 : Hp} (hf : f_X6_feed_106 l0 l1 l5 l6 h0 = some q) : AW X cX6_feed 7 RX6 (rmd 2 0 0) (Qmet X 0 0 (Qe (some (.int q.1)) q.2 adr)) 0 0 adr h0 106 [(0, .ref l0), (1, .int l1), (5, .int l5), (6, .int l6)] [] := by
  unfold f_X6_feed_106 at hf
  refine aw_iload_n 1 dX6_feed_106 rfl rfl ?_
  refine aw_iconst (v := 3) dX6_feed_107 (by decide) ?_
  refine aw_icmp_le (tgt := 120) dX6_feed_108 (by decide) (fun c1 => ?_) (fun c1 => ?_)
  · have hf := i_pos c1 hf
    exact aw_sub [0, 1, 3] rfl (c_X6_feed_120 hr hf)
  · have hf := i_neg c1 hf
    refine aw_aload_n 0 dX6_feed_111 rfl rfl ?_
    obtain ⟨r2, er2, hf⟩ := b_some hf
    refine aw_getR dX6_feed_112 gfX6_10 er2 ?_
    refine aw_iload 2 dX6_feed_115 rfl ?_
    obtain ⟨q3, eq3, hf⟩ := b_some hf
    refine aw_cV0 (as := [.int l5]) dX6_feed_117 moX4_add voX4_add mlX6_69 (k_X4_add eq3) rfl (rm_ok (by omega) (by decide)) ⟨Nat.le_refl _, Nat.le_refl _⟩ (Nat.le_of_ble_eq_true rfl) rfl (c_X4_add eq3) ?_
    exact aw_sub [0, 1, 3] rfl (c_X6_feed_120 hr hf)
def f_X6_feed_92 (l0 : Nat) (l1 : Int32) (l4 : Int32) (l5 : Int32) (l6 : Int32) (h0 : Hp) : Option (Int32 × Hp) :=
  if l1 ≤ (2 : Int32) then (f_X6_feed_106 l0 l1 l5 l6 h0) else ((gR h0 l0 6 0).bind fun r2 => (f_X4_add r2 l4 h0).bind fun q3 => f_X6_feed_106 l0 l1 l5 l6 q3.2)
set_option maxRecDepth 100000 in
set_option maxHeartbeats 4000000 in
theorem c_X6_feed_92 {X : Cx} {adr : Nat → Nat} {q : Int32 × Hp} (hr : (mth X).sig.returnType = (some .int)) {l0 : Nat} {l1 : Int32} {l4 : Int32} {l5 : Int32} {l6 : Int32} {h0 : Hp} (hf : f_X6_feed_92 l0 l1 l4 l5 l6 h0 = some q) : AW X cX6_feed 7 RX6 (rmd 2 0 0) (Qmet X 0 0 (Qe (some (.int q.1)) q.2 adr)) 0 0 adr h0 92 [(0, .ref l0), (1, .int l1), (4, .int l4), (5, .int l5), (6, .int l6)] [] := by
  unfold f_X6_feed_92 at hf
  refine aw_iload_n 1 dX6_feed_92 rfl rfl ?_
  refine aw_iconst (v := 2) dX6_feed_93 (by decide) ?_
  refine aw_icmp_le (tgt := 106) dX6_feed_94 (by decide) (fun c1 => ?_) (fun c1 => ?_)
  · have hf := i_pos c1 hf
    exact aw_sub [0, 1, 3, 4] rfl (c_X6_feed_106 hr hf)
  · have hf := i_neg c1 hf
    refine aw_aload_n 0 dX6_feed_97 rfl rfl ?_
    obtain ⟨r2, er2, hf⟩ := b_some hf
    refine aw_getR dX6_feed_98 gfX6_10 er2 ?_
    refine aw_iload 2 dX6_feed_101 rfl ?_
    obtain ⟨q3, eq3, hf⟩ := b_some hf
    refine aw_cV0 (as := [.int l4]) dX6_feed_103 moX4_add voX4_add mlX6_69 (k_X4_add eq3) rfl (rm_ok (by omega) (by decide)) ⟨Nat.le_refl _, Nat.le_refl _⟩ (Nat.le_of_ble_eq_true rfl) rfl (c_X4_add eq3) ?_
    exact aw_sub [0, 1, 3, 4] rfl (c_X6_feed_106 hr hf)
def f_X6_feed (l0 : Nat) (l1 : Int32) (l2 : Int32) (l3 : Int32) (l4 : Int32) (l5 : Int32) (l6 : Int32) (h0 : Hp) : Option (Int32 × Hp) :=
  (ck h0 l0 6).bind fun _ => if l1 < (1 : Int32) then (some ((-2 : Int32), h0)) else (if l1 ≤ (5 : Int32) then ((f_X6_isByte l2 h0).bind fun q3 => if q3.1 = 0 then (some ((-2 : Int32), q3.2)) else ((f_X6_isByte l3 q3.2).bind fun q5 => if q5.1 = 0 then (some ((-2 : Int32), q5.2)) else ((f_X6_isByte l4 q5.2).bind fun q7 => if q7.1 = 0 then (some ((-2 : Int32), q7.2)) else ((f_X6_isByte l5 q7.2).bind fun q9 => if q9.1 = 0 then (some ((-2 : Int32), q9.2)) else ((f_X6_isByte l6 q9.2).bind fun q11 => if q11.1 = 0 then (some ((-2 : Int32), q11.2)) else ((gR q11.2 l0 6 0).bind fun r13 => (gI q11.2 r13 4 1).bind fun x14 => if (x14 + l1) ≤ (40 : Int32) then ((gR q11.2 l0 6 0).bind fun r16 => (f_X4_add r16 l2 q11.2).bind fun q17 => if l1 ≤ (1 : Int32) then (f_X6_feed_92 l0 l1 l4 l5 l6 q17.2) else ((gR q17.2 l0 6 0).bind fun r19 => (f_X4_add r19 l3 q17.2).bind fun q20 => f_X6_feed_92 l0 l1 l4 l5 l6 q20.2)) else (some ((-4 : Int32), q11.2)))))))) else (some ((-2 : Int32), h0)))
set_option maxRecDepth 100000 in
set_option maxHeartbeats 4000000 in
theorem c_X6_feed {l0 : Nat} {l1 : Int32} {l2 : Int32} {l3 : Int32} {l4 : Int32} {l5 : Int32} {l6 : Int32} {h0 : Hp} {q : Int32 × Hp} (hf : f_X6_feed l0 l1 l2 l3 l4 l5 l6 h0 = some q) : Mt 2 yX6_feed cX6_feed 7 (some .int) [.ref l0, .int l1, .int l2, .int l3, .int l4, .int l5, .int l6] h0 (some (.int q.1)) q.2 := by
  refine MtQ.of (by decide) (Nat.le_of_ble_eq_true rfl) (fun X adr hr hn => ?_)
  unfold f_X6_feed at hf
  show AW X cX6_feed 7 RX6 (rmd 2 0 0) (Qmet X 0 0 (Qe (some (.int q.1)) q.2 adr)) 0 0 adr h0 0 [(0, .ref l0), (1, .int l1), (2, .int l2), (3, .int l3), (4, .int l4), (5, .int l5), (6, .int l6)] []
  obtain ⟨u0, e0, hf⟩ := b_some hf
  refine aw_iload_n 1 dX6_feed_0 rfl rfl ?_
  refine aw_iconst (v := 1) dX6_feed_1 (by decide) ?_
  refine aw_icmp_lt (tgt := 10) dX6_feed_2 (by decide) (fun c1 => ?_) (fun c1 => ?_)
  · have hf := i_pos c1 hf
    refine aw_bipush (v := -2) dX6_feed_10 (by decide) ?_
    have hq := Option.some.inj hf
    subst hq
    exact aw_iret hr dX6_feed_12 ⟨rfl, rfl, rfl⟩
  · have hf := i_neg c1 hf
    refine aw_iload_n 1 dX6_feed_5 rfl rfl ?_
    refine aw_iconst (v := 5) dX6_feed_6 (by decide) ?_
    refine aw_icmp_le (tgt := 13) dX6_feed_7 (by decide) (fun c2 => ?_) (fun c2 => ?_)
    · have hf := i_pos c2 hf
      refine aw_iload_n 2 dX6_feed_13 rfl rfl ?_
      obtain ⟨q3, eq3, hf⟩ := b_some hf
      refine aw_cS (as := [.int l2]) dX6_feed_14 moX6_isByte soX6_isByte mlX6_61 (rm_ok (by omega) (by decide)) ⟨Nat.le_refl _, Nat.le_refl _⟩ (Nat.le_of_ble_eq_true rfl) rfl (c_X6_isByte eq3) ?_
      refine aw_if_eq (tgt := 51) dX6_feed_17 (by decide) (fun c4 => ?_) (fun c4 => ?_)
      · have hf := i_pos c4 hf
        refine aw_bipush (v := -2) dX6_feed_51 (by decide) ?_
        have hq := Option.some.inj hf
        subst hq
        exact aw_iret hr dX6_feed_53 ⟨rfl, rfl, rfl⟩
      · have hf := i_neg c4 hf
        refine aw_iload_n 3 dX6_feed_20 rfl rfl ?_
        obtain ⟨q5, eq5, hf⟩ := b_some hf
        refine aw_cS (as := [.int l3]) dX6_feed_21 moX6_isByte soX6_isByte mlX6_61 (rm_ok (by omega) (by decide)) ⟨Nat.le_refl _, Nat.le_refl _⟩ (Nat.le_of_ble_eq_true rfl) rfl (c_X6_isByte eq5) ?_
        refine aw_if_eq (tgt := 51) dX6_feed_24 (by decide) (fun c6 => ?_) (fun c6 => ?_)
        · have hf := i_pos c6 hf
          refine aw_bipush (v := -2) dX6_feed_51 (by decide) ?_
          have hq := Option.some.inj hf
          subst hq
          exact aw_iret hr dX6_feed_53 ⟨rfl, rfl, rfl⟩
        · have hf := i_neg c6 hf
          refine aw_iload 4 dX6_feed_27 rfl ?_
          obtain ⟨q7, eq7, hf⟩ := b_some hf
          refine aw_cS (as := [.int l4]) dX6_feed_29 moX6_isByte soX6_isByte mlX6_61 (rm_ok (by omega) (by decide)) ⟨Nat.le_refl _, Nat.le_refl _⟩ (Nat.le_of_ble_eq_true rfl) rfl (c_X6_isByte eq7) ?_
          refine aw_if_eq (tgt := 51) dX6_feed_32 (by decide) (fun c8 => ?_) (fun c8 => ?_)
          · have hf := i_pos c8 hf
            refine aw_bipush (v := -2) dX6_feed_51 (by decide) ?_
            have hq := Option.some.inj hf
            subst hq
            exact aw_iret hr dX6_feed_53 ⟨rfl, rfl, rfl⟩
          · have hf := i_neg c8 hf
            refine aw_iload 5 dX6_feed_35 rfl ?_
            obtain ⟨q9, eq9, hf⟩ := b_some hf
            refine aw_cS (as := [.int l5]) dX6_feed_37 moX6_isByte soX6_isByte mlX6_61 (rm_ok (by omega) (by decide)) ⟨Nat.le_refl _, Nat.le_refl _⟩ (Nat.le_of_ble_eq_true rfl) rfl (c_X6_isByte eq9) ?_
            refine aw_if_eq (tgt := 51) dX6_feed_40 (by decide) (fun c10 => ?_) (fun c10 => ?_)
            · have hf := i_pos c10 hf
              refine aw_bipush (v := -2) dX6_feed_51 (by decide) ?_
              have hq := Option.some.inj hf
              subst hq
              exact aw_iret hr dX6_feed_53 ⟨rfl, rfl, rfl⟩
            · have hf := i_neg c10 hf
              refine aw_iload 6 dX6_feed_43 rfl ?_
              obtain ⟨q11, eq11, hf⟩ := b_some hf
              refine aw_cS (as := [.int l6]) dX6_feed_45 moX6_isByte soX6_isByte mlX6_61 (rm_ok (by omega) (by decide)) ⟨Nat.le_refl _, Nat.le_refl _⟩ (Nat.le_of_ble_eq_true rfl) rfl (c_X6_isByte eq11) ?_
              refine aw_if_ne (tgt := 54) dX6_feed_48 (by decide) (fun c12 => ?_) (fun c12 => ?_)
              · have hf := i_neg c12 hf
                refine aw_aload_n 0 dX6_feed_54 rfl rfl ?_
                obtain ⟨r13, er13, hf⟩ := b_some hf
                refine aw_getR dX6_feed_55 gfX6_10 er13 ?_
                obtain ⟨x14, ex14, hf⟩ := b_some hf
                refine aw_getI dX6_feed_58 gfX6_65 ex14 ?_
                refine aw_iload_n 1 dX6_feed_61 rfl rfl ?_
                refine aw_iadd dX6_feed_62 ?_
                refine aw_bipush (v := 40) dX6_feed_63 (by decide) ?_
                refine aw_icmp_le (tgt := 71) dX6_feed_65 (by decide) (fun c15 => ?_) (fun c15 => ?_)
                · have hf := i_pos c15 hf
                  refine aw_aload_n 0 dX6_feed_71 rfl rfl ?_
                  obtain ⟨r16, er16, hf⟩ := b_some hf
                  refine aw_getR dX6_feed_72 gfX6_10 er16 ?_
                  refine aw_iload_n 2 dX6_feed_75 rfl rfl ?_
                  obtain ⟨q17, eq17, hf⟩ := b_some hf
                  refine aw_cV0 (as := [.int l2]) dX6_feed_76 moX4_add voX4_add mlX6_69 (k_X4_add eq17) rfl (rm_ok (by omega) (by decide)) ⟨Nat.le_refl _, Nat.le_refl _⟩ (Nat.le_of_ble_eq_true rfl) rfl (c_X4_add eq17) ?_
                  refine aw_iload_n 1 dX6_feed_79 rfl rfl ?_
                  refine aw_iconst (v := 1) dX6_feed_80 (by decide) ?_
                  refine aw_icmp_le (tgt := 92) dX6_feed_81 (by decide) (fun c18 => ?_) (fun c18 => ?_)
                  · have hf := i_pos c18 hf
                    exact aw_sub [0, 1, 4, 5, 6] rfl (c_X6_feed_92 hr hf)
                  · have hf := i_neg c18 hf
                    refine aw_aload_n 0 dX6_feed_84 rfl rfl ?_
                    obtain ⟨r19, er19, hf⟩ := b_some hf
                    refine aw_getR dX6_feed_85 gfX6_10 er19 ?_
                    refine aw_iload_n 3 dX6_feed_88 rfl rfl ?_
                    obtain ⟨q20, eq20, hf⟩ := b_some hf
                    refine aw_cV0 (as := [.int l3]) dX6_feed_89 moX4_add voX4_add mlX6_69 (k_X4_add eq20) rfl (rm_ok (by omega) (by decide)) ⟨Nat.le_refl _, Nat.le_refl _⟩ (Nat.le_of_ble_eq_true rfl) rfl (c_X4_add eq20) ?_
                    exact aw_sub [0, 1, 4, 5, 6] rfl (c_X6_feed_92 hr hf)
                · have hf := i_neg c15 hf
                  refine aw_bipush (v := -4) dX6_feed_68 (by decide) ?_
                  have hq := Option.some.inj hf
                  subst hq
                  exact aw_iret hr dX6_feed_70 ⟨rfl, rfl, rfl⟩
              · have hf := i_pos c12 hf
                refine aw_bipush (v := -2) dX6_feed_51 (by decide) ?_
                have hq := Option.some.inj hf
                subst hq
                exact aw_iret hr dX6_feed_53 ⟨rfl, rfl, rfl⟩
    · have hf := i_neg c2 hf
      refine aw_bipush (v := -2) dX6_feed_10 (by decide) ?_
      have hq := Option.some.inj hf
      subst hq
      exact aw_iret hr dX6_feed_12 ⟨rfl, rfl, rfl⟩
theorem k_X6_feed {l0 : Nat} {l1 : Int32} {l2 : Int32} {l3 : Int32} {l4 : Int32} {l5 : Int32} {l6 : Int32} {h0 : Hp} {q : Int32 × Hp} (hf : f_X6_feed l0 l1 l2 l3 l4 l5 l6 h0 = some q) : ck h0 l0 6 = some () := by
  unfold f_X6_feed at hf
  obtain ⟨u0, e0, hf⟩ := b_some hf
  exact e0
theorem dX6_suffices_0 : decode cX6_suffices 0 = .ok (.aload_n 0, 1) := by decide +kernel
theorem dX6_suffices_1 : decode cX6_suffices 1 = .ok (.getfield 39, 3) := by decide +kernel
theorem dX6_suffices_4 : decode cX6_suffices 4 = .ok (.aload_n 0, 1) := by decide +kernel
theorem dX6_suffices_5 : decode cX6_suffices 5 = .ok (.getfield 19, 3) := by decide +kernel
theorem dX6_suffices_8 : decode cX6_suffices 8 = .ok (.iload_n 1, 1) := by decide +kernel
theorem dX6_suffices_9 : decode cX6_suffices 9 = .ok (.iload_n 3, 1) := by decide +kernel
theorem dX6_suffices_10 : decode cX6_suffices 10 = .ok (.ifCond .eq 14, 3) := by decide +kernel
theorem dX6_suffices_13 : decode cX6_suffices 13 = .ok (.aload_n 0, 1) := by decide +kernel
theorem dX6_suffices_14 : decode cX6_suffices 14 = .ok (.getfield 19, 3) := by decide +kernel
theorem dX6_suffices_17 : decode cX6_suffices 17 = .ok (.iload_n 1, 1) := by decide +kernel
theorem dX6_suffices_18 : decode cX6_suffices 18 = .ok (.invokevirtual 119, 3) := by decide +kernel
theorem dX6_suffices_21 : decode cX6_suffices 21 = .ok (.goto 4, 3) := by decide +kernel
theorem dX6_suffices_24 : decode cX6_suffices 24 = .ok (.iload_n 2, 1) := by decide +kernel
theorem dX6_suffices_25 : decode cX6_suffices 25 = .ok (.invokevirtual 164, 3) := by decide +kernel
theorem dX6_suffices_28 : decode cX6_suffices 28 = .ok (.iload_n 3, 1) := by decide +kernel
theorem dX6_suffices_29 : decode cX6_suffices 29 = .ok (.ifCond .eq 11, 3) := by decide +kernel
theorem dX6_suffices_32 : decode cX6_suffices 32 = .ok (.aload_n 0, 1) := by decide +kernel
theorem dX6_suffices_33 : decode cX6_suffices 33 = .ok (.getfield 39, 3) := by decide +kernel
theorem dX6_suffices_36 : decode cX6_suffices 36 = .ok (.iload_n 2, 1) := by decide +kernel
theorem dX6_suffices_37 : decode cX6_suffices 37 = .ok (.invokevirtual 329, 3) := by decide +kernel
theorem dX6_suffices_40 : decode cX6_suffices 40 = .ok (.aload_n 0, 1) := by decide +kernel
theorem dX6_suffices_41 : decode cX6_suffices 41 = .ok (.getfield 39, 3) := by decide +kernel
theorem dX6_suffices_44 : decode cX6_suffices 44 = .ok (.invokevirtual 168, 3) := by decide +kernel
theorem dX6_suffices_47 : decode cX6_suffices 47 = .ok (.ireturn, 1) := by decide +kernel
def f_X6_suffices_40 (l0 : Nat) (h0 : Hp) : Option (Int32 × Hp) :=
  (gR h0 l0 6 5).bind fun r1 => (f_X1_canEnd r1 h0).bind fun q2 => (bz q2.1).bind fun u3 => some (q2.1, q2.2)
set_option maxRecDepth 100000 in
set_option maxHeartbeats 4000000 in
theorem c_X6_suffices_40 {X : Cx} {adr : Nat → Nat} {q : Int32 × Hp} (hr : (mth X).sig.returnType = (some .boolean)) {l0 : Nat} {h0 : Hp} (hf : f_X6_suffices_40 l0 h0 = some q) : AW X cX6_suffices 4 RX6 (rmd 27 0 0) (Qmet X 0 0 (Qe (some (.int q.1)) q.2 adr)) 0 0 adr h0 40 [(0, .ref l0)] [] := by
  unfold f_X6_suffices_40 at hf
  refine aw_aload_n 0 dX6_suffices_40 rfl rfl ?_
  obtain ⟨r1, er1, hf⟩ := b_some hf
  refine aw_getR dX6_suffices_41 gfX6_39 er1 ?_
  obtain ⟨q2, eq2, hf⟩ := b_some hf
  refine aw_cV (as := []) dX6_suffices_44 moX1_canEnd voX1_canEnd mlX6_168 (k_X1_canEnd eq2) rfl (rm_ok (by omega) (by decide)) ⟨Nat.le_refl _, Nat.le_refl _⟩ (Nat.le_of_ble_eq_true rfl) rfl (c_X1_canEnd eq2) ?_
  obtain ⟨u3, eu3, hf⟩ := b_some hf
  have hq := Option.some.inj hf
  subst hq
  exact aw_zret hr (bz_nar eu3) dX6_suffices_47 ⟨rfl, rfl, rfl⟩
def f_X6_suffices_25 (l0 : Nat) (l2 : Int32) (l3 : Int32) (s0 : Int32) (s1 : Int32) (s2 : Nat) (s3 : Nat) (h0 : Hp) : Option (Int32 × Hp) :=
  (f_X1_open s3 s2 s1 s0 h0).bind fun q1 => if l3 = 0 then (f_X6_suffices_40 l0 q1.2) else ((gR q1.2 l0 6 5).bind fun r3 => (f_X1_drawOnly r3 l2 q1.2).bind fun q4 => f_X6_suffices_40 l0 q4.2)
set_option maxRecDepth 100000 in
set_option maxHeartbeats 4000000 in
theorem c_X6_suffices_25 {X : Cx} {adr : Nat → Nat} {q : Int32 × Hp} (hr : (mth X).sig.returnType = (some .boolean)) {l0 : Nat} {l2 : Int32} {l3 : Int32} {s0 : Int32} {s1 : Int32} {s2 : Nat} {s3 : Nat} {h0 : Hp} (hf : f_X6_suffices_25 l0 l2 l3 s0 s1 s2 s3 h0 = some q) : AW X cX6_suffices 4 RX6 (rmd 27 0 0) (Qmet X 0 0 (Qe (some (.int q.1)) q.2 adr)) 0 0 adr h0 25 [(0, .ref l0), (2, .int l2), (3, .int l3)] [.int s0, .int s1, .ref s2, .ref s3] := by
  unfold f_X6_suffices_25 at hf
  obtain ⟨q1, eq1, hf⟩ := b_some hf
  refine aw_cV0 (as := [.ref s2, .int s1, .int s0]) dX6_suffices_25 moX1_open voX1_open mlX6_164 (k_X1_open eq1) rfl (rm_ok (by omega) (by decide)) ⟨Nat.le_refl _, Nat.le_refl _⟩ (Nat.le_of_ble_eq_true rfl) rfl (c_X1_open eq1) ?_
  refine aw_iload_n 2 dX6_suffices_28 rfl rfl ?_
  refine aw_if_eq (tgt := 40) dX6_suffices_29 (by decide) (fun c2 => ?_) (fun c2 => ?_)
  · have hf := i_pos c2 hf
    exact aw_sub [0] rfl (c_X6_suffices_40 hr hf)
  · have hf := i_neg c2 hf
    refine aw_aload_n 0 dX6_suffices_32 rfl rfl ?_
    obtain ⟨r3, er3, hf⟩ := b_some hf
    refine aw_getR dX6_suffices_33 gfX6_39 er3 ?_
    refine aw_iload_n 1 dX6_suffices_36 rfl rfl ?_
    obtain ⟨q4, eq4, hf⟩ := b_some hf
    refine aw_cV0 (as := [.int l2]) dX6_suffices_37 moX1_drawOnly voX1_drawOnly mlX6_329 (k_X1_drawOnly eq4) rfl (rm_ok (by omega) (by decide)) ⟨Nat.le_refl _, Nat.le_refl _⟩ (Nat.le_of_ble_eq_true rfl) rfl (c_X1_drawOnly eq4) ?_
    exact aw_sub [0] rfl (c_X6_suffices_40 hr hf)
def f_X6_suffices (l0 : Nat) (l1 : Int32) (l2 : Int32) (l3 : Int32) (h0 : Hp) : Option (Int32 × Hp) :=
  (ck h0 l0 6).bind fun _ => (gR h0 l0 6 5).bind fun r1 => (gR h0 l0 6 1).bind fun r2 => if l3 = 0 then (f_X6_suffices_25 l0 l2 l3 l2 l1 r2 r1 h0) else ((gR h0 l0 6 1).bind fun r4 => (f_X0_leftOf r4 l1 h0).bind fun q5 => f_X6_suffices_25 l0 l2 l3 q5.1 l1 r2 r1 q5.2)
set_option maxRecDepth 100000 in
set_option maxHeartbeats 4000000 in
theorem c_X6_suffices {l0 : Nat} {l1 : Int32} {l2 : Int32} {l3 : Int32} {h0 : Hp} {q : Int32 × Hp} (hf : f_X6_suffices l0 l1 l2 l3 h0 = some q) : Mt 27 yX6_suffices cX6_suffices 4 (some .boolean) [.ref l0, .int l1, .int l2, .int l3] h0 (some (.int q.1)) q.2 := by
  refine MtQ.of (by decide) (Nat.le_of_ble_eq_true rfl) (fun X adr hr hn => ?_)
  unfold f_X6_suffices at hf
  show AW X cX6_suffices 4 RX6 (rmd 27 0 0) (Qmet X 0 0 (Qe (some (.int q.1)) q.2 adr)) 0 0 adr h0 0 [(0, .ref l0), (1, .int l1), (2, .int l2), (3, .int l3)] []
  obtain ⟨u0, e0, hf⟩ := b_some hf
  refine aw_aload_n 0 dX6_suffices_0 rfl rfl ?_
  obtain ⟨r1, er1, hf⟩ := b_some hf
  refine aw_getR dX6_suffices_1 gfX6_39 er1 ?_
  refine aw_aload_n 0 dX6_suffices_4 rfl rfl ?_
  obtain ⟨r2, er2, hf⟩ := b_some hf
  refine aw_getR dX6_suffices_5 gfX6_19 er2 ?_
  refine aw_iload_n 1 dX6_suffices_8 rfl rfl ?_
  refine aw_iload_n 3 dX6_suffices_9 rfl rfl ?_
  refine aw_if_eq (tgt := 24) dX6_suffices_10 (by decide) (fun c3 => ?_) (fun c3 => ?_)
  · have hf := i_pos c3 hf
    refine aw_iload_n 2 dX6_suffices_24 rfl rfl ?_
    exact aw_sub [0, 2, 3] rfl (c_X6_suffices_25 hr hf)
  · have hf := i_neg c3 hf
    refine aw_aload_n 0 dX6_suffices_13 rfl rfl ?_
    obtain ⟨r4, er4, hf⟩ := b_some hf
    refine aw_getR dX6_suffices_14 gfX6_19 er4 ?_
    refine aw_iload_n 1 dX6_suffices_17 rfl rfl ?_
    obtain ⟨q5, eq5, hf⟩ := b_some hf
    refine aw_cV (as := [.int l1]) dX6_suffices_18 moX0_leftOf voX0_leftOf mlX6_119 (k_X0_leftOf eq5) rfl (rm_ok (by omega) (by decide)) ⟨Nat.le_refl _, Nat.le_refl _⟩ (Nat.le_of_ble_eq_true rfl) rfl (c_X0_leftOf eq5) ?_
    refine aw_goto (tgt := 25) dX6_suffices_21 (by decide) ?_
    exact aw_sub [0, 2, 3] rfl (c_X6_suffices_25 hr hf)
theorem k_X6_suffices {l0 : Nat} {l1 : Int32} {l2 : Int32} {l3 : Int32} {h0 : Hp} {q : Int32 × Hp} (hf : f_X6_suffices l0 l1 l2 l3 h0 = some q) : ck h0 l0 6 = some () := by
  unfold f_X6_suffices at hf
  obtain ⟨u0, e0, hf⟩ := b_some hf
  exact e0
theorem dX6_fewestFor_0 : decode cX6_fewestFor 0 = .ok (.aload_n 0, 1) := by decide +kernel
theorem dX6_fewestFor_1 : decode cX6_fewestFor 1 = .ok (.aload_n 0, 1) := by decide +kernel
theorem dX6_fewestFor_2 : decode cX6_fewestFor 2 = .ok (.getfield 19, 3) := by decide +kernel
theorem dX6_fewestFor_5 : decode cX6_fewestFor 5 = .ok (.iload_n 1, 1) := by decide +kernel
theorem dX6_fewestFor_6 : decode cX6_fewestFor 6 = .ok (.invokevirtual 144, 3) := by decide +kernel
theorem dX6_fewestFor_9 : decode cX6_fewestFor 9 = .ok (.ifCond .ne 5, 3) := by decide +kernel
theorem dX6_fewestFor_12 : decode cX6_fewestFor 12 = .ok (.iconst (-1), 1) := by decide +kernel
theorem dX6_fewestFor_13 : decode cX6_fewestFor 13 = .ok (.ireturn, 1) := by decide +kernel
theorem dX6_fewestFor_14 : decode cX6_fewestFor 14 = .ok (.iconst 0, 1) := by decide +kernel
theorem dX6_fewestFor_15 : decode cX6_fewestFor 15 = .ok (.istore 4, 2) := by decide +kernel
theorem dX6_fewestFor_17 : decode cX6_fewestFor 17 = .ok (.iload 4, 2) := by decide +kernel
theorem dX6_fewestFor_19 : decode cX6_fewestFor 19 = .ok (.bipush 9, 2) := by decide +kernel
theorem dX6_fewestFor_21 : decode cX6_fewestFor 21 = .ok (.if_icmp .gt 69, 3) := by decide +kernel
theorem dX6_fewestFor_24 : decode cX6_fewestFor 24 = .ok (.iconst 0, 1) := by decide +kernel
theorem dX6_fewestFor_25 : decode cX6_fewestFor 25 = .ok (.istore 5, 2) := by decide +kernel
theorem dX6_fewestFor_27 : decode cX6_fewestFor 27 = .ok (.iconst 0, 1) := by decide +kernel
theorem dX6_fewestFor_28 : decode cX6_fewestFor 28 = .ok (.istore 6, 2) := by decide +kernel
theorem dX6_fewestFor_30 : decode cX6_fewestFor 30 = .ok (.iload 6, 2) := by decide +kernel
theorem dX6_fewestFor_32 : decode cX6_fewestFor 32 = .ok (.sipush 512, 3) := by decide +kernel
theorem dX6_fewestFor_35 : decode cX6_fewestFor 35 = .ok (.if_icmp .ge 49, 3) := by decide +kernel
theorem dX6_fewestFor_38 : decode cX6_fewestFor 38 = .ok (.iload 5, 2) := by decide +kernel
theorem dX6_fewestFor_40 : decode cX6_fewestFor 40 = .ok (.invokestatic 182, 3) := by decide +kernel
theorem dX6_fewestFor_43 : decode cX6_fewestFor 43 = .ok (.iload 4, 2) := by decide +kernel
theorem dX6_fewestFor_45 : decode cX6_fewestFor 45 = .ok (.if_icmp .ne 17, 3) := by decide +kernel
theorem dX6_fewestFor_48 : decode cX6_fewestFor 48 = .ok (.aload_n 0, 1) := by decide +kernel
theorem dX6_fewestFor_49 : decode cX6_fewestFor 49 = .ok (.iload_n 1, 1) := by decide +kernel
theorem dX6_fewestFor_50 : decode cX6_fewestFor 50 = .ok (.iload 5, 2) := by decide +kernel
theorem dX6_fewestFor_52 : decode cX6_fewestFor 52 = .ok (.iload_n 3, 1) := by decide +kernel
theorem dX6_fewestFor_53 : decode cX6_fewestFor 53 = .ok (.invokevirtual 325, 3) := by decide +kernel
theorem dX6_fewestFor_56 : decode cX6_fewestFor 56 = .ok (.ifCond .eq 6, 3) := by decide +kernel
theorem dX6_fewestFor_59 : decode cX6_fewestFor 59 = .ok (.iload 5, 2) := by decide +kernel
theorem dX6_fewestFor_61 : decode cX6_fewestFor 61 = .ok (.ireturn, 1) := by decide +kernel
theorem dX6_fewestFor_62 : decode cX6_fewestFor 62 = .ok (.iload 5, 2) := by decide +kernel
theorem dX6_fewestFor_64 : decode cX6_fewestFor 64 = .ok (.iload_n 2, 1) := by decide +kernel
theorem dX6_fewestFor_65 : decode cX6_fewestFor 65 = .ok (.isub, 1) := by decide +kernel
theorem dX6_fewestFor_66 : decode cX6_fewestFor 66 = .ok (.iload_n 2, 1) := by decide +kernel
theorem dX6_fewestFor_67 : decode cX6_fewestFor 67 = .ok (.iand, 1) := by decide +kernel
theorem dX6_fewestFor_68 : decode cX6_fewestFor 68 = .ok (.istore 5, 2) := by decide +kernel
theorem dX6_fewestFor_70 : decode cX6_fewestFor 70 = .ok (.iload 5, 2) := by decide +kernel
theorem dX6_fewestFor_72 : decode cX6_fewestFor 72 = .ok (.ifCond .ne 6, 3) := by decide +kernel
theorem dX6_fewestFor_75 : decode cX6_fewestFor 75 = .ok (.goto 9, 3) := by decide +kernel
theorem dX6_fewestFor_78 : decode cX6_fewestFor 78 = .ok (.iinc 6 1, 3) := by decide +kernel
theorem dX6_fewestFor_81 : decode cX6_fewestFor 81 = .ok (.goto (-51), 3) := by decide +kernel
theorem dX6_fewestFor_84 : decode cX6_fewestFor 84 = .ok (.iinc 4 1, 3) := by decide +kernel
theorem dX6_fewestFor_87 : decode cX6_fewestFor 87 = .ok (.goto (-70), 3) := by decide +kernel
theorem dX6_fewestFor_90 : decode cX6_fewestFor 90 = .ok (.iconst (-1), 1) := by decide +kernel
theorem dX6_fewestFor_91 : decode cX6_fewestFor 91 = .ok (.ireturn, 1) := by decide +kernel
def f_X6_fewestFor_62 (k17 : Nat × Int32 × Int32 × Int32 × Int32 → Hp → Option (Int32 × Hp)) (k30 : Nat × Int32 × Int32 × Int32 × Int32 × Int32 × Int32 → Hp → Option (Int32 × Hp)) (l0 : Nat) (l1 : Int32) (l2 : Int32) (l3 : Int32) (l4 : Int32) (l5 : Int32) (l6 : Int32) (h0 : Hp) : Option (Int32 × Hp) :=
  (some ((l5 - l2) &&& l2)).bind fun x1 => if x1 = 0 then ((some (l4 + 1)).bind fun x4 => k17 (l0, l1, l2, l3, x4) h0) else ((some (l6 + 1)).bind fun x3 => k30 (l0, l1, l2, l3, l4, x1, x3) h0)
set_option maxRecDepth 100000 in
set_option maxHeartbeats 4000000 in
theorem c_X6_fewestFor_62 {X : Cx} {adr : Nat → Nat} {q : Int32 × Hp} (hr : (mth X).sig.returnType = (some .int)) {k17 : Nat × Int32 × Int32 × Int32 × Int32 → Hp → Option (Int32 × Hp)} (hk17 : ∀ v h, k17 v h = some q → AW X cX6_fewestFor 7 RX6 (rmd 28 0 0) (Qmet X 0 0 (Qe (some (.int q.1)) q.2 adr)) 0 0 adr h 17 [(0, .ref v.1), (1, .int v.2.1), (2, .int v.2.2.1), (3, .int v.2.2.2.1), (4, .int v.2.2.2.2)] []) {k30 : Nat × Int32 × Int32 × Int32 × Int32 × Int32 × Int32 → Hp → Option (Int32 × Hp)} (hk30 : ∀ v h, k30 v h = some q → AW X cX6_fewestFor 7 RX6 (rmd 28 0 0) (Qmet X 0 0 (Qe (some (.int q.1)) q.2 adr)) 0 0 adr h 30 [(0, .ref v.1), (1, .int v.2.1), (2, .int v.2.2.1), (3, .int v.2.2.2.1), (4, .int v.2.2.2.2.1), (5, .int v.2.2.2.2.2.1), (6, .int v.2.2.2.2.2.2)] []) {l0 : Nat} {l1 : Int32} {l2 : Int32} {l3 : Int32} {l4 : Int32} {l5 : Int32} {l6 : Int32} {h0 : Hp} (hf : f_X6_fewestFor_62 k17 k30 l0 l1 l2 l3 l4 l5 l6 h0 = some q) : AW X cX6_fewestFor 7 RX6 (rmd 28 0 0) (Qmet X 0 0 (Qe (some (.int q.1)) q.2 adr)) 0 0 adr h0 62 [(0, .ref l0), (1, .int l1), (2, .int l2), (3, .int l3), (4, .int l4), (5, .int l5), (6, .int l6)] [] := by
  unfold f_X6_fewestFor_62 at hf
  refine aw_iload 5 dX6_fewestFor_62 rfl ?_
  refine aw_iload_n 2 dX6_fewestFor_64 rfl rfl ?_
  refine aw_isub dX6_fewestFor_65 ?_
  refine aw_iload_n 2 dX6_fewestFor_66 rfl rfl ?_
  refine aw_iand dX6_fewestFor_67 ?_
  obtain ⟨x1, ex1, hf⟩ := b_some hf
  refine aw_nm ex1 ?_
  refine aw_istore (L' := [(5, .int x1), (0, .ref l0), (1, .int l1), (2, .int l2), (3, .int l3), (4, .int l4), (6, .int l6)]) dX6_fewestFor_68 (by decide) rfl ?_
  refine aw_iload 0 dX6_fewestFor_70 rfl ?_
  refine aw_if_ne (tgt := 78) dX6_fewestFor_72 (by decide) (fun c2 => ?_) (fun c2 => ?_)
  · have hf := i_neg c2 hf
    obtain ⟨x3, ex3, hf⟩ := b_some hf
    refine aw_iinc (v := x3) (L' := [(6, .int x3), (5, .int x1), (0, .ref l0), (1, .int l1), (2, .int l2), (3, .int l3), (4, .int l4)]) 6 dX6_fewestFor_78 rfl (Option.some.inj ex3) (by decide) rfl ?_
    refine aw_goto (tgt := 30) dX6_fewestFor_81 (by decide) ?_
    exact aw_sub [2, 3, 4, 5, 6, 1, 0] rfl (hk30 _ _ hf)
  · have hf := i_pos c2 hf
    refine aw_goto (tgt := 84) dX6_fewestFor_75 (by decide) ?_
    obtain ⟨x4, ex4, hf⟩ := b_some hf
    refine aw_iinc (v := x4) (L' := [(4, .int x4), (5, .int x1), (0, .ref l0), (1, .int l1), (2, .int l2), (3, .int l3), (6, .int l6)]) 5 dX6_fewestFor_84 rfl (Option.some.inj ex4) (by decide) rfl ?_
    refine aw_goto (tgt := 17) dX6_fewestFor_87 (by decide) ?_
    exact aw_sub [2, 3, 4, 5, 0] rfl (hk17 _ _ hf)
def f_X6_fewestFor_30 (k17 : Nat × Int32 × Int32 × Int32 × Int32 → Hp → Option (Int32 × Hp)) (k30 : Nat × Int32 × Int32 × Int32 × Int32 × Int32 × Int32 → Hp → Option (Int32 × Hp)) (v : Nat × Int32 × Int32 × Int32 × Int32 × Int32 × Int32) (h0 : Hp) : Option (Int32 × Hp) :=
  match v with
  | (l0, l1, l2, l3, l4, l5, l6) => if (512 : Int32) ≤ l6 then ((some (l4 + 1)).bind fun x2 => k17 (l0, l1, l2, l3, x2) h0) else ((f_J6_bitCount_0f7a4 l5 h0).bind fun q3 => if q3.1 = l4 then ((f_X6_suffices l0 l1 l5 l3 q3.2).bind fun q5 => if q5.1 = 0 then (f_X6_fewestFor_62 k17 k30 l0 l1 l2 l3 l4 l5 l6 q5.2) else (some (l5, q5.2))) else (f_X6_fewestFor_62 k17 k30 l0 l1 l2 l3 l4 l5 l6 q3.2))
set_option maxRecDepth 100000 in
set_option maxHeartbeats 4000000 in
theorem c_X6_fewestFor_30 {X : Cx} {adr : Nat → Nat} {q : Int32 × Hp} (hr : (mth X).sig.returnType = (some .int)) {k17 : Nat × Int32 × Int32 × Int32 × Int32 → Hp → Option (Int32 × Hp)} (hk17 : ∀ v h, k17 v h = some q → AW X cX6_fewestFor 7 RX6 (rmd 28 0 0) (Qmet X 0 0 (Qe (some (.int q.1)) q.2 adr)) 0 0 adr h 17 [(0, .ref v.1), (1, .int v.2.1), (2, .int v.2.2.1), (3, .int v.2.2.2.1), (4, .int v.2.2.2.2)] []) (n : Nat) : ∀ v h0, lp (f_X6_fewestFor_30 k17) n v h0 = some q → AW X cX6_fewestFor 7 RX6 (rmd 28 0 0) (Qmet X 0 0 (Qe (some (.int q.1)) q.2 adr)) 0 0 adr h0 30 [(0, .ref v.1), (1, .int v.2.1), (2, .int v.2.2.1), (3, .int v.2.2.2.1), (4, .int v.2.2.2.2.1), (5, .int v.2.2.2.2.2.1), (6, .int v.2.2.2.2.2.2)] [] := by
  refine aw_lp (fun k30 hk30 v h0 hf => ?_) n
  obtain ⟨l0, l1, l2, l3, l4, l5, l6⟩ := v
  unfold f_X6_fewestFor_30 at hf
  dsimp only at hf
  show AW X cX6_fewestFor 7 RX6 (rmd 28 0 0) (Qmet X 0 0 (Qe (some (.int q.1)) q.2 adr)) 0 0 adr h0 30 [(0, .ref l0), (1, .int l1), (2, .int l2), (3, .int l3), (4, .int l4), (5, .int l5), (6, .int l6)] []
  refine aw_iload 6 dX6_fewestFor_30 rfl ?_
  refine aw_sipush (v := 512) dX6_fewestFor_32 (by decide) ?_
  refine aw_icmp_ge (tgt := 84) dX6_fewestFor_35 (by decide) (fun c1 => ?_) (fun c1 => ?_)
  · have hf := i_pos c1 hf
    obtain ⟨x2, ex2, hf⟩ := b_some hf
    refine aw_iinc (v := x2) (L' := [(4, .int x2), (0, .ref l0), (1, .int l1), (2, .int l2), (3, .int l3), (5, .int l5), (6, .int l6)]) 4 dX6_fewestFor_84 rfl (Option.some.inj ex2) (by decide) rfl ?_
    refine aw_goto (tgt := 17) dX6_fewestFor_87 (by decide) ?_
    exact aw_sub [1, 2, 3, 4, 0] rfl (hk17 _ _ hf)
  · have hf := i_neg c1 hf
    refine aw_iload 5 dX6_fewestFor_38 rfl ?_
    obtain ⟨q3, eq3, hf⟩ := b_some hf
    refine aw_cS (as := [.int l5]) dX6_fewestFor_40 moJ6_bitCount_0f7a4 soJ6_bitCount_0f7a4 mlX6_182 (rm_ok (by omega) (by decide)) ⟨Nat.le_refl _, Nat.le_refl _⟩ (Nat.le_of_ble_eq_true rfl) rfl (c_J6_bitCount_0f7a4 eq3) ?_
    refine aw_iload 4 dX6_fewestFor_43 rfl ?_
    refine aw_icmp_ne (tgt := 62) dX6_fewestFor_45 (by decide) (fun c4 => ?_) (fun c4 => ?_)
    · have hf := i_neg c4 hf
      exact aw_sub [0, 1, 2, 3, 4, 5, 6] rfl (c_X6_fewestFor_62 hr hk17 hk30 hf)
    · have hf := i_pos c4 hf
      refine aw_aload_n 0 dX6_fewestFor_48 rfl rfl ?_
      refine aw_iload_n 1 dX6_fewestFor_49 rfl rfl ?_
      refine aw_iload 5 dX6_fewestFor_50 rfl ?_
      refine aw_iload_n 3 dX6_fewestFor_52 rfl rfl ?_
      obtain ⟨q5, eq5, hf⟩ := b_some hf
      refine aw_cV (as := [.int l1, .int l5, .int l3]) dX6_fewestFor_53 moX6_suffices voX6_suffices mlX6_325 (k_X6_suffices eq5) rfl (rm_ok (by omega) (by decide)) ⟨Nat.le_refl _, Nat.le_refl _⟩ (Nat.le_of_ble_eq_true rfl) rfl (c_X6_suffices eq5) ?_
      refine aw_if_eq (tgt := 62) dX6_fewestFor_56 (by decide) (fun c6 => ?_) (fun c6 => ?_)
      · have hf := i_pos c6 hf
        exact aw_sub [0, 1, 2, 3, 4, 5, 6] rfl (c_X6_fewestFor_62 hr hk17 hk30 hf)
      · have hf := i_neg c6 hf
        refine aw_iload 5 dX6_fewestFor_59 rfl ?_
        have hq := Option.some.inj hf
        subst hq
        exact aw_iret hr dX6_fewestFor_61 ⟨rfl, rfl, rfl⟩
def f_X6_fewestFor_17 (k17 : Nat × Int32 × Int32 × Int32 × Int32 → Hp → Option (Int32 × Hp)) (v : Nat × Int32 × Int32 × Int32 × Int32) (h0 : Hp) : Option (Int32 × Hp) :=
  match v with
  | (l0, l1, l2, l3, l4) => if (9 : Int32) < l4 then (some ((-1 : Int32), h0)) else (lp (f_X6_fewestFor_30 k17) 600 (l0, l1, l2, l3, l4, (0 : Int32), (0 : Int32)) h0)
set_option maxRecDepth 100000 in
set_option maxHeartbeats 4000000 in
theorem c_X6_fewestFor_17 {X : Cx} {adr : Nat → Nat} {q : Int32 × Hp} (hr : (mth X).sig.returnType = (some .int)) (n : Nat) : ∀ v h0, lp (f_X6_fewestFor_17) n v h0 = some q → AW X cX6_fewestFor 7 RX6 (rmd 28 0 0) (Qmet X 0 0 (Qe (some (.int q.1)) q.2 adr)) 0 0 adr h0 17 [(0, .ref v.1), (1, .int v.2.1), (2, .int v.2.2.1), (3, .int v.2.2.2.1), (4, .int v.2.2.2.2)] [] := by
  refine aw_lp (fun k17 hk17 v h0 hf => ?_) n
  obtain ⟨l0, l1, l2, l3, l4⟩ := v
  unfold f_X6_fewestFor_17 at hf
  dsimp only at hf
  show AW X cX6_fewestFor 7 RX6 (rmd 28 0 0) (Qmet X 0 0 (Qe (some (.int q.1)) q.2 adr)) 0 0 adr h0 17 [(0, .ref l0), (1, .int l1), (2, .int l2), (3, .int l3), (4, .int l4)] []
  refine aw_iload 4 dX6_fewestFor_17 rfl ?_
  refine aw_bipush (v := 9) dX6_fewestFor_19 (by decide) ?_
  refine aw_icmp_gt (tgt := 90) dX6_fewestFor_21 (by decide) (fun c1 => ?_) (fun c1 => ?_)
  · have hf := i_pos c1 hf
    refine aw_iconst (v := -1) dX6_fewestFor_90 (by decide) ?_
    have hq := Option.some.inj hf
    subst hq
    exact aw_iret hr dX6_fewestFor_91 ⟨rfl, rfl, rfl⟩
  · have hf := i_neg c1 hf
    refine aw_iconst (v := 0) dX6_fewestFor_24 (by decide) ?_
    refine aw_istore (L' := [(5, .int (0 : Int32)), (0, .ref l0), (1, .int l1), (2, .int l2), (3, .int l3), (4, .int l4)]) dX6_fewestFor_25 (by decide) rfl ?_
    refine aw_iconst (v := 0) dX6_fewestFor_27 (by decide) ?_
    refine aw_istore (L' := [(6, .int (0 : Int32)), (5, .int (0 : Int32)), (0, .ref l0), (1, .int l1), (2, .int l2), (3, .int l3), (4, .int l4)]) dX6_fewestFor_28 (by decide) rfl ?_
    exact aw_sub [2, 3, 4, 5, 6, 1, 0] rfl (c_X6_fewestFor_30 hr hk17 600 _ _ hf)
def f_X6_fewestFor (l0 : Nat) (l1 : Int32) (l2 : Int32) (l3 : Int32) (h0 : Hp) : Option (Int32 × Hp) :=
  (ck h0 l0 6).bind fun _ => (gR h0 l0 6 1).bind fun r1 => (f_X6_canWin l0 r1 l1 h0).bind fun q2 => if q2.1 = 0 then (some ((-1 : Int32), q2.2)) else (lp (f_X6_fewestFor_17) 600 (l0, l1, l2, l3, (0 : Int32)) q2.2)
set_option maxRecDepth 100000 in
set_option maxHeartbeats 4000000 in
theorem c_X6_fewestFor {l0 : Nat} {l1 : Int32} {l2 : Int32} {l3 : Int32} {h0 : Hp} {q : Int32 × Hp} (hf : f_X6_fewestFor l0 l1 l2 l3 h0 = some q) : Mt 28 yX6_fewestFor cX6_fewestFor 7 (some .int) [.ref l0, .int l1, .int l2, .int l3] h0 (some (.int q.1)) q.2 := by
  refine MtQ.of (by decide) (Nat.le_of_ble_eq_true rfl) (fun X adr hr hn => ?_)
  unfold f_X6_fewestFor at hf
  show AW X cX6_fewestFor 7 RX6 (rmd 28 0 0) (Qmet X 0 0 (Qe (some (.int q.1)) q.2 adr)) 0 0 adr h0 0 [(0, .ref l0), (1, .int l1), (2, .int l2), (3, .int l3)] []
  obtain ⟨u0, e0, hf⟩ := b_some hf
  refine aw_aload_n 0 dX6_fewestFor_0 rfl rfl ?_
  refine aw_aload_n 0 dX6_fewestFor_1 rfl rfl ?_
  obtain ⟨r1, er1, hf⟩ := b_some hf
  refine aw_getR dX6_fewestFor_2 gfX6_19 er1 ?_
  refine aw_iload_n 1 dX6_fewestFor_5 rfl rfl ?_
  obtain ⟨q2, eq2, hf⟩ := b_some hf
  refine aw_cV (as := [.ref r1, .int l1]) dX6_fewestFor_6 moX6_canWin voX6_canWin mlX6_144 (k_X6_canWin eq2) rfl (rm_ok (by omega) (by decide)) ⟨Nat.le_refl _, Nat.le_refl _⟩ (Nat.le_of_ble_eq_true rfl) rfl (c_X6_canWin eq2) ?_
  refine aw_if_ne (tgt := 14) dX6_fewestFor_9 (by decide) (fun c3 => ?_) (fun c3 => ?_)
  · have hf := i_neg c3 hf
    refine aw_iconst (v := 0) dX6_fewestFor_14 (by decide) ?_
    refine aw_istore (L' := [(4, .int (0 : Int32)), (0, .ref l0), (1, .int l1), (2, .int l2), (3, .int l3)]) dX6_fewestFor_15 (by decide) rfl ?_
    exact aw_sub [1, 2, 3, 4, 0] rfl (c_X6_fewestFor_17 hr 600 _ _ hf)
  · have hf := i_pos c3 hf
    refine aw_iconst (v := -1) dX6_fewestFor_12 (by decide) ?_
    have hq := Option.some.inj hf
    subst hq
    exact aw_iret hr dX6_fewestFor_13 ⟨rfl, rfl, rfl⟩
theorem k_X6_fewestFor {l0 : Nat} {l1 : Int32} {l2 : Int32} {l3 : Int32} {h0 : Hp} {q : Int32 × Hp} (hf : f_X6_fewestFor l0 l1 l2 l3 h0 = some q) : ck h0 l0 6 = some () := by
  unfold f_X6_fewestFor at hf
  obtain ⟨u0, e0, hf⟩ := b_some hf
  exact e0
theorem dX6_film_0 : decode cX6_film 0 = .ok (.iload_n 1, 1) := by decide +kernel
theorem dX6_film_1 : decode cX6_film 1 = .ok (.invokestatic 227, 3) := by decide +kernel
theorem dX6_film_4 : decode cX6_film 4 = .ok (.ifCond .ne 6, 3) := by decide +kernel
theorem dX6_film_7 : decode cX6_film 7 = .ok (.bipush (-2), 2) := by decide +kernel
theorem dX6_film_9 : decode cX6_film 9 = .ok (.ireturn, 1) := by decide +kernel
theorem dX6_film_10 : decode cX6_film 10 = .ok (.aload_n 0, 1) := by decide +kernel
theorem dX6_film_11 : decode cX6_film 11 = .ok (.iload_n 2, 1) := by decide +kernel
theorem dX6_film_12 : decode cX6_film 12 = .ok (.invokevirtual 212, 3) := by decide +kernel
theorem dX6_film_15 : decode cX6_film 15 = .ok (.aload_n 0, 1) := by decide +kernel
theorem dX6_film_16 : decode cX6_film 16 = .ok (.getfield 56, 3) := by decide +kernel
theorem dX6_film_19 : decode cX6_film 19 = .ok (.iload_n 1, 1) := by decide +kernel
theorem dX6_film_20 : decode cX6_film 20 = .ok (.aaload, 1) := by decide +kernel
theorem dX6_film_21 : decode cX6_film 21 = .ok (.astore_n 3, 1) := by decide +kernel
theorem dX6_film_22 : decode cX6_film 22 = .ok (.aload_n 3, 1) := by decide +kernel
theorem dX6_film_23 : decode cX6_film 23 = .ok (.iconst 1, 1) := by decide +kernel
theorem dX6_film_24 : decode cX6_film 24 = .ok (.aload_n 0, 1) := by decide +kernel
theorem dX6_film_25 : decode cX6_film 25 = .ok (.getfield 19, 3) := by decide +kernel
theorem dX6_film_28 : decode cX6_film 28 = .ok (.getfield 215, 3) := by decide +kernel
theorem dX6_film_31 : decode cX6_film 31 = .ok (.invokevirtual 237, 3) := by decide +kernel
theorem dX6_film_34 : decode cX6_film 34 = .ok (.iconst 0, 1) := by decide +kernel
theorem dX6_film_35 : decode cX6_film 35 = .ok (.istore 4, 2) := by decide +kernel
theorem dX6_film_37 : decode cX6_film 37 = .ok (.iload 4, 2) := by decide +kernel
theorem dX6_film_39 : decode cX6_film 39 = .ok (.aload_n 0, 1) := by decide +kernel
theorem dX6_film_40 : decode cX6_film 40 = .ok (.getfield 19, 3) := by decide +kernel
theorem dX6_film_43 : decode cX6_film 43 = .ok (.getfield 215, 3) := by decide +kernel
theorem dX6_film_46 : decode cX6_film 46 = .ok (.if_icmp .ge 23, 3) := by decide +kernel
theorem dX6_film_49 : decode cX6_film 49 = .ok (.aload_n 3, 1) := by decide +kernel
theorem dX6_film_50 : decode cX6_film 50 = .ok (.getfield 234, 3) := by decide +kernel
theorem dX6_film_53 : decode cX6_film 53 = .ok (.iload 4, 2) := by decide +kernel
theorem dX6_film_55 : decode cX6_film 55 = .ok (.aload_n 0, 1) := by decide +kernel
theorem dX6_film_56 : decode cX6_film 56 = .ok (.getfield 50, 3) := by decide +kernel
theorem dX6_film_59 : decode cX6_film 59 = .ok (.iload 4, 2) := by decide +kernel
theorem dX6_film_61 : decode cX6_film 61 = .ok (.iaload, 1) := by decide +kernel
theorem dX6_film_62 : decode cX6_film 62 = .ok (.iastore, 1) := by decide +kernel
theorem dX6_film_63 : decode cX6_film 63 = .ok (.iinc 4 1, 3) := by decide +kernel
theorem dX6_film_66 : decode cX6_film 66 = .ok (.goto (-29), 3) := by decide +kernel
theorem dX6_film_69 : decode cX6_film 69 = .ok (.aload_n 0, 1) := by decide +kernel
theorem dX6_film_70 : decode cX6_film 70 = .ok (.getfield 19, 3) := by decide +kernel
theorem dX6_film_73 : decode cX6_film 73 = .ok (.getfield 215, 3) := by decide +kernel
theorem dX6_film_76 : decode cX6_film 76 = .ok (.ireturn, 1) := by decide +kernel
def f_X6_film_37 (k37 : Nat × Nat × Int32 → Hp → Option (Int32 × Hp)) (v : Nat × Nat × Int32) (h0 : Hp) : Option (Int32 × Hp) :=
  match v with
  | (l0, l3, l4) => (gR h0 l0 6 1).bind fun r1 => (gI h0 r1 0 0).bind fun x2 => if x2 ≤ l4 then ((gR h0 l0 6 1).bind fun r4 => (gI h0 r4 0 0).bind fun x5 => some (x5, h0)) else ((gR h0 l3 2 0).bind fun r6 => (gR h0 l0 6 8).bind fun r7 => (aL h0 r7 l4).bind fun x8 => (aS h0 r6 l4 x8).bind fun h9 => (some (l4 + 1)).bind fun x10 => k37 (l0, l3, x10) h9)
set_option maxRecDepth 100000 in
set_option maxHeartbeats 4000000 in
theorem c_X6_film_37 {X : Cx} {adr : Nat → Nat} {q : Int32 × Hp} (hr : (mth X).sig.returnType = (some .int)) (n : Nat) : ∀ v h0, lp (f_X6_film_37) n v h0 = some q → AW X cX6_film 5 RX6 (rmd 4 0 0) (Qmet X 0 0 (Qe (some (.int q.1)) q.2 adr)) 0 0 adr h0 37 [(0, .ref v.1), (3, .ref v.2.1), (4, .int v.2.2)] [] := by
  refine aw_lp (fun k37 hk37 v h0 hf => ?_) n
  obtain ⟨l0, l3, l4⟩ := v
  unfold f_X6_film_37 at hf
  dsimp only at hf
  show AW X cX6_film 5 RX6 (rmd 4 0 0) (Qmet X 0 0 (Qe (some (.int q.1)) q.2 adr)) 0 0 adr h0 37 [(0, .ref l0), (3, .ref l3), (4, .int l4)] []
  refine aw_iload 2 dX6_film_37 rfl ?_
  refine aw_aload_n 0 dX6_film_39 rfl rfl ?_
  obtain ⟨r1, er1, hf⟩ := b_some hf
  refine aw_getR dX6_film_40 gfX6_19 er1 ?_
  obtain ⟨x2, ex2, hf⟩ := b_some hf
  refine aw_getI dX6_film_43 gfX6_215 ex2 ?_
  refine aw_icmp_ge (tgt := 69) dX6_film_46 (by decide) (fun c3 => ?_) (fun c3 => ?_)
  · have hf := i_pos c3 hf
    refine aw_aload_n 0 dX6_film_69 rfl rfl ?_
    obtain ⟨r4, er4, hf⟩ := b_some hf
    refine aw_getR dX6_film_70 gfX6_19 er4 ?_
    obtain ⟨x5, ex5, hf⟩ := b_some hf
    refine aw_getI dX6_film_73 gfX6_215 ex5 ?_
    have hq := Option.some.inj hf
    subst hq
    exact aw_iret hr dX6_film_76 ⟨rfl, rfl, rfl⟩
  · have hf := i_neg c3 hf
    refine aw_aload_n 1 dX6_film_49 rfl rfl ?_
    obtain ⟨r6, er6, hf⟩ := b_some hf
    refine aw_getR dX6_film_50 gfX6_234 er6 ?_
    refine aw_iload 2 dX6_film_53 rfl ?_
    refine aw_aload_n 0 dX6_film_55 rfl rfl ?_
    obtain ⟨r7, er7, hf⟩ := b_some hf
    refine aw_getR dX6_film_56 gfX6_50 er7 ?_
    refine aw_iload 2 dX6_film_59 rfl ?_
    obtain ⟨x8, ex8, hf⟩ := b_some hf
    refine aw_iald dX6_film_61 ex8 ?_
    obtain ⟨h9, eh9, hf⟩ := b_some hf
    refine aw_iast dX6_film_62 eh9 ?_
    obtain ⟨x10, ex10, hf⟩ := b_some hf
    refine aw_iinc (v := x10) (L' := [(4, .int x10), (0, .ref l0), (3, .ref l3)]) 2 dX6_film_63 rfl (Option.some.inj ex10) (by decide) rfl ?_
    refine aw_goto (tgt := 37) dX6_film_66 (by decide) ?_
    exact aw_sub [1, 2, 0] rfl (hk37 _ _ hf)
def f_X6_film (l0 : Nat) (l1 : Int32) (l2 : Int32) (h0 : Hp) : Option (Int32 × Hp) :=
  (ck h0 l0 6).bind fun _ => (f_X6_isSheet l1 h0).bind fun q1 => if q1.1 = 0 then (some ((-2 : Int32), q1.2)) else ((f_X6_drawInto l0 l2 q1.2).bind fun q3 => (gR q3.2 l0 6 7).bind fun r4 => (qL q3.2 r4 l1).bind fun r5 => (gR q3.2 l0 6 1).bind fun r6 => (gI q3.2 r6 0 0).bind fun x7 => (f_X2_become r5 (1 : Int32) x7 q3.2).bind fun q8 => lp (f_X6_film_37) 600 (l0, r5, (0 : Int32)) q8.2)
set_option maxRecDepth 100000 in
set_option maxHeartbeats 4000000 in
theorem c_X6_film {l0 : Nat} {l1 : Int32} {l2 : Int32} {h0 : Hp} {q : Int32 × Hp} (hf : f_X6_film l0 l1 l2 h0 = some q) : Mt 4 yX6_film cX6_film 5 (some .int) [.ref l0, .int l1, .int l2] h0 (some (.int q.1)) q.2 := by
  refine MtQ.of (by decide) (Nat.le_of_ble_eq_true rfl) (fun X adr hr hn => ?_)
  unfold f_X6_film at hf
  show AW X cX6_film 5 RX6 (rmd 4 0 0) (Qmet X 0 0 (Qe (some (.int q.1)) q.2 adr)) 0 0 adr h0 0 [(0, .ref l0), (1, .int l1), (2, .int l2)] []
  obtain ⟨u0, e0, hf⟩ := b_some hf
  refine aw_iload_n 1 dX6_film_0 rfl rfl ?_
  obtain ⟨q1, eq1, hf⟩ := b_some hf
  refine aw_cS (as := [.int l1]) dX6_film_1 moX6_isSheet soX6_isSheet mlX6_227 (rm_ok (by omega) (by decide)) ⟨Nat.le_refl _, Nat.le_refl _⟩ (Nat.le_of_ble_eq_true rfl) rfl (c_X6_isSheet eq1) ?_
  refine aw_if_ne (tgt := 10) dX6_film_4 (by decide) (fun c2 => ?_) (fun c2 => ?_)
  · have hf := i_neg c2 hf
    refine aw_aload_n 0 dX6_film_10 rfl rfl ?_
    refine aw_iload_n 2 dX6_film_11 rfl rfl ?_
    obtain ⟨q3, eq3, hf⟩ := b_some hf
    refine aw_cV0 (as := [.int l2]) dX6_film_12 moX6_drawInto voX6_drawInto mlX6_212 (k_X6_drawInto eq3) rfl (rm_ok (by omega) (by decide)) ⟨Nat.le_refl _, Nat.le_refl _⟩ (Nat.le_of_ble_eq_true rfl) rfl (c_X6_drawInto eq3) ?_
    refine aw_aload_n 0 dX6_film_15 rfl rfl ?_
    obtain ⟨r4, er4, hf⟩ := b_some hf
    refine aw_getR dX6_film_16 gfX6_56 er4 ?_
    refine aw_iload_n 1 dX6_film_19 rfl rfl ?_
    obtain ⟨r5, er5, hf⟩ := b_some hf
    refine aw_aald dX6_film_20 er5 ?_
    refine aw_astore_n (L' := [(3, .ref r5), (0, .ref l0), (1, .int l1), (2, .int l2)]) dX6_film_21 rfl (by decide) rfl ?_
    refine aw_aload_n 0 dX6_film_22 rfl rfl ?_
    refine aw_iconst (v := 1) dX6_film_23 (by decide) ?_
    refine aw_aload_n 1 dX6_film_24 rfl rfl ?_
    obtain ⟨r6, er6, hf⟩ := b_some hf
    refine aw_getR dX6_film_25 gfX6_19 er6 ?_
    obtain ⟨x7, ex7, hf⟩ := b_some hf
    refine aw_getI dX6_film_28 gfX6_215 ex7 ?_
    obtain ⟨q8, eq8, hf⟩ := b_some hf
    refine aw_cV0 (as := [.int (1 : Int32), .int x7]) dX6_film_31 moX2_become voX2_become mlX6_237 (k_X2_become eq8) rfl (rm_ok (by omega) (by decide)) ⟨Nat.le_refl _, Nat.le_refl _⟩ (Nat.le_of_ble_eq_true rfl) rfl (c_X2_become eq8) ?_
    refine aw_iconst (v := 0) dX6_film_34 (by decide) ?_
    refine aw_istore (L' := [(4, .int (0 : Int32)), (3, .ref r5), (0, .ref l0), (1, .int l1), (2, .int l2)]) dX6_film_35 (by decide) rfl ?_
    exact aw_sub [2, 1, 0] rfl (c_X6_film_37 hr 600 _ _ hf)
  · have hf := i_pos c2 hf
    refine aw_bipush (v := -2) dX6_film_7 (by decide) ?_
    have hq := Option.some.inj hf
    subst hq
    exact aw_iret hr dX6_film_9 ⟨rfl, rfl, rfl⟩
theorem k_X6_film {l0 : Nat} {l1 : Int32} {l2 : Int32} {h0 : Hp} {q : Int32 × Hp} (hf : f_X6_film l0 l1 l2 h0 = some q) : ck h0 l0 6 = some () := by
  unfold f_X6_film at hf
  obtain ⟨u0, e0, hf⟩ := b_some hf
  exact e0
theorem dX6_game_0 : decode cX6_game 0 = .ok (.aload_n 0, 1) := by decide +kernel
theorem dX6_game_1 : decode cX6_game 1 = .ok (.getfield 19, 3) := by decide +kernel
theorem dX6_game_4 : decode cX6_game 4 = .ok (.iload_n 1, 1) := by decide +kernel
theorem dX6_game_5 : decode cX6_game 5 = .ok (.invokevirtual 93, 3) := by decide +kernel
theorem dX6_game_8 : decode cX6_game 8 = .ok (.ifCond .ne 6, 3) := by decide +kernel
theorem dX6_game_11 : decode cX6_game 11 = .ok (.bipush (-2), 2) := by decide +kernel
theorem dX6_game_13 : decode cX6_game 13 = .ok (.ireturn, 1) := by decide +kernel
theorem dX6_game_14 : decode cX6_game 14 = .ok (.iload_n 2, 1) := by decide +kernel
theorem dX6_game_15 : decode cX6_game 15 = .ok (.tableswitch 69 0 3 #[29, 39, 49, 59], 29) := by decide +kernel
theorem dX6_game_44 : decode cX6_game 44 = .ok (.aload_n 0, 1) := by decide +kernel
theorem dX6_game_45 : decode cX6_game 45 = .ok (.getfield 19, 3) := by decide +kernel
theorem dX6_game_48 : decode cX6_game 48 = .ok (.getfield 126, 3) := by decide +kernel
theorem dX6_game_51 : decode cX6_game 51 = .ok (.iload_n 1, 1) := by decide +kernel
theorem dX6_game_52 : decode cX6_game 52 = .ok (.iaload, 1) := by decide +kernel
theorem dX6_game_53 : decode cX6_game 53 = .ok (.ireturn, 1) := by decide +kernel
theorem dX6_game_54 : decode cX6_game 54 = .ok (.aload_n 0, 1) := by decide +kernel
theorem dX6_game_55 : decode cX6_game 55 = .ok (.getfield 19, 3) := by decide +kernel
theorem dX6_game_58 : decode cX6_game 58 = .ok (.getfield 129, 3) := by decide +kernel
theorem dX6_game_61 : decode cX6_game 61 = .ok (.iload_n 1, 1) := by decide +kernel
theorem dX6_game_62 : decode cX6_game 62 = .ok (.iaload, 1) := by decide +kernel
theorem dX6_game_63 : decode cX6_game 63 = .ok (.ireturn, 1) := by decide +kernel
theorem dX6_game_64 : decode cX6_game 64 = .ok (.aload_n 0, 1) := by decide +kernel
theorem dX6_game_65 : decode cX6_game 65 = .ok (.getfield 19, 3) := by decide +kernel
theorem dX6_game_68 : decode cX6_game 68 = .ok (.getfield 132, 3) := by decide +kernel
theorem dX6_game_71 : decode cX6_game 71 = .ok (.iload_n 1, 1) := by decide +kernel
theorem dX6_game_72 : decode cX6_game 72 = .ok (.iaload, 1) := by decide +kernel
theorem dX6_game_73 : decode cX6_game 73 = .ok (.ireturn, 1) := by decide +kernel
theorem dX6_game_74 : decode cX6_game 74 = .ok (.aload_n 0, 1) := by decide +kernel
theorem dX6_game_75 : decode cX6_game 75 = .ok (.getfield 19, 3) := by decide +kernel
theorem dX6_game_78 : decode cX6_game 78 = .ok (.getfield 99, 3) := by decide +kernel
theorem dX6_game_81 : decode cX6_game 81 = .ok (.iload_n 1, 1) := by decide +kernel
theorem dX6_game_82 : decode cX6_game 82 = .ok (.iaload, 1) := by decide +kernel
theorem dX6_game_83 : decode cX6_game 83 = .ok (.ireturn, 1) := by decide +kernel
theorem dX6_game_84 : decode cX6_game 84 = .ok (.bipush (-2), 2) := by decide +kernel
theorem dX6_game_86 : decode cX6_game 86 = .ok (.ireturn, 1) := by decide +kernel
def f_X6_game (l0 : Nat) (l1 : Int32) (l2 : Int32) (h0 : Hp) : Option (Int32 × Hp) :=
  (ck h0 l0 6).bind fun _ => (gR h0 l0 6 1).bind fun r1 => (f_X0_hasGame r1 l1 h0).bind fun q2 => if q2.1 = 0 then (some ((-2 : Int32), q2.2)) else (if l2 = 0 then ((gR q2.2 l0 6 1).bind fun r5 => (gR q2.2 r5 0 6).bind fun r6 => (aL q2.2 r6 l1).bind fun x7 => some (x7, q2.2)) else if l2 = 1 then ((gR q2.2 l0 6 1).bind fun r9 => (gR q2.2 r9 0 7).bind fun r10 => (aL q2.2 r10 l1).bind fun x11 => some (x11, q2.2)) else if l2 = 2 then ((gR q2.2 l0 6 1).bind fun r13 => (gR q2.2 r13 0 8).bind fun r14 => (aL q2.2 r14 l1).bind fun x15 => some (x15, q2.2)) else if l2 = 3 then ((gR q2.2 l0 6 1).bind fun r17 => (gR q2.2 r17 0 9).bind fun r18 => (aL q2.2 r18 l1).bind fun x19 => some (x19, q2.2)) else (some ((-2 : Int32), q2.2)))
set_option maxRecDepth 100000 in
set_option maxHeartbeats 4000000 in
theorem c_X6_game {l0 : Nat} {l1 : Int32} {l2 : Int32} {h0 : Hp} {q : Int32 × Hp} (hf : f_X6_game l0 l1 l2 h0 = some q) : Mt 2 yX6_game cX6_game 3 (some .int) [.ref l0, .int l1, .int l2] h0 (some (.int q.1)) q.2 := by
  refine MtQ.of (by decide) (Nat.le_of_ble_eq_true rfl) (fun X adr hr hn => ?_)
  unfold f_X6_game at hf
  show AW X cX6_game 3 RX6 (rmd 2 0 0) (Qmet X 0 0 (Qe (some (.int q.1)) q.2 adr)) 0 0 adr h0 0 [(0, .ref l0), (1, .int l1), (2, .int l2)] []
  obtain ⟨u0, e0, hf⟩ := b_some hf
  refine aw_aload_n 0 dX6_game_0 rfl rfl ?_
  obtain ⟨r1, er1, hf⟩ := b_some hf
  refine aw_getR dX6_game_1 gfX6_19 er1 ?_
  refine aw_iload_n 1 dX6_game_4 rfl rfl ?_
  obtain ⟨q2, eq2, hf⟩ := b_some hf
  refine aw_cV (as := [.int l1]) dX6_game_5 moX0_hasGame voX0_hasGame mlX6_93 (k_X0_hasGame eq2) rfl (rm_ok (by omega) (by decide)) ⟨Nat.le_refl _, Nat.le_refl _⟩ (Nat.le_of_ble_eq_true rfl) rfl (c_X0_hasGame eq2) ?_
  refine aw_if_ne (tgt := 14) dX6_game_8 (by decide) (fun c3 => ?_) (fun c3 => ?_)
  · have hf := i_neg c3 hf
    refine aw_iload_n 2 dX6_game_14 rfl rfl ?_
    by_cases c4 : l2 = 0
    · have hf := i_pos c4 hf
      refine aw_tabIn (tgt := 44) dX6_game_15 (by rw [c4]; decide) (by rw [c4]; decide) (by rw [c4]; rfl) (by decide) ?_
      refine aw_aload_n 0 dX6_game_44 rfl rfl ?_
      obtain ⟨r5, er5, hf⟩ := b_some hf
      refine aw_getR dX6_game_45 gfX6_19 er5 ?_
      obtain ⟨r6, er6, hf⟩ := b_some hf
      refine aw_getR dX6_game_48 gfX6_126 er6 ?_
      refine aw_iload_n 1 dX6_game_51 rfl rfl ?_
      obtain ⟨x7, ex7, hf⟩ := b_some hf
      refine aw_iald dX6_game_52 ex7 ?_
      have hq := Option.some.inj hf
      subst hq
      exact aw_iret hr dX6_game_53 ⟨rfl, rfl, rfl⟩
    have hf := i_neg c4 hf
    by_cases c8 : l2 = 1
    · have hf := i_pos c8 hf
      refine aw_tabIn (tgt := 54) dX6_game_15 (by rw [c8]; decide) (by rw [c8]; decide) (by rw [c8]; rfl) (by decide) ?_
      refine aw_aload_n 0 dX6_game_54 rfl rfl ?_
      obtain ⟨r9, er9, hf⟩ := b_some hf
      refine aw_getR dX6_game_55 gfX6_19 er9 ?_
      obtain ⟨r10, er10, hf⟩ := b_some hf
      refine aw_getR dX6_game_58 gfX6_129 er10 ?_
      refine aw_iload_n 1 dX6_game_61 rfl rfl ?_
      obtain ⟨x11, ex11, hf⟩ := b_some hf
      refine aw_iald dX6_game_62 ex11 ?_
      have hq := Option.some.inj hf
      subst hq
      exact aw_iret hr dX6_game_63 ⟨rfl, rfl, rfl⟩
    have hf := i_neg c8 hf
    by_cases c12 : l2 = 2
    · have hf := i_pos c12 hf
      refine aw_tabIn (tgt := 64) dX6_game_15 (by rw [c12]; decide) (by rw [c12]; decide) (by rw [c12]; rfl) (by decide) ?_
      refine aw_aload_n 0 dX6_game_64 rfl rfl ?_
      obtain ⟨r13, er13, hf⟩ := b_some hf
      refine aw_getR dX6_game_65 gfX6_19 er13 ?_
      obtain ⟨r14, er14, hf⟩ := b_some hf
      refine aw_getR dX6_game_68 gfX6_132 er14 ?_
      refine aw_iload_n 1 dX6_game_71 rfl rfl ?_
      obtain ⟨x15, ex15, hf⟩ := b_some hf
      refine aw_iald dX6_game_72 ex15 ?_
      have hq := Option.some.inj hf
      subst hq
      exact aw_iret hr dX6_game_73 ⟨rfl, rfl, rfl⟩
    have hf := i_neg c12 hf
    by_cases c16 : l2 = 3
    · have hf := i_pos c16 hf
      refine aw_tabIn (tgt := 74) dX6_game_15 (by rw [c16]; decide) (by rw [c16]; decide) (by rw [c16]; rfl) (by decide) ?_
      refine aw_aload_n 0 dX6_game_74 rfl rfl ?_
      obtain ⟨r17, er17, hf⟩ := b_some hf
      refine aw_getR dX6_game_75 gfX6_19 er17 ?_
      obtain ⟨r18, er18, hf⟩ := b_some hf
      refine aw_getR dX6_game_78 gfX6_99 er18 ?_
      refine aw_iload_n 1 dX6_game_81 rfl rfl ?_
      obtain ⟨x19, ex19, hf⟩ := b_some hf
      refine aw_iald dX6_game_82 ex19 ?_
      have hq := Option.some.inj hf
      subst hq
      exact aw_iret hr dX6_game_83 ⟨rfl, rfl, rfl⟩
    have hf := i_neg c16 hf
    refine aw_tabOut (tgt := 84) dX6_game_15 (tab_out (N := 4) (by decide) (by decide) (fun j hj => ?_)) (by decide) ?_
    · match j, hj with
      | 0, _ => exact c4
      | 1, _ => exact c8
      | 2, _ => exact c12
      | 3, _ => exact c16
    refine aw_bipush (v := -2) dX6_game_84 (by decide) ?_
    have hq := Option.some.inj hf
    subst hq
    exact aw_iret hr dX6_game_86 ⟨rfl, rfl, rfl⟩
  · have hf := i_pos c3 hf
    refine aw_bipush (v := -2) dX6_game_11 (by decide) ?_
    have hq := Option.some.inj hf
    subst hq
    exact aw_iret hr dX6_game_13 ⟨rfl, rfl, rfl⟩
theorem k_X6_game {l0 : Nat} {l1 : Int32} {l2 : Int32} {h0 : Hp} {q : Int32 × Hp} (hf : f_X6_game l0 l1 l2 h0 = some q) : ck h0 l0 6 = some () := by
  unfold f_X6_game at hf
  obtain ⟨u0, e0, hf⟩ := b_some hf
  exact e0
theorem dX6_help_0 : decode cX6_help 0 = .ok (.aload_n 0, 1) := by decide +kernel
theorem dX6_help_1 : decode cX6_help 1 = .ok (.getfield 19, 3) := by decide +kernel
theorem dX6_help_4 : decode cX6_help 4 = .ok (.iload_n 1, 1) := by decide +kernel
theorem dX6_help_5 : decode cX6_help 5 = .ok (.invokevirtual 102, 3) := by decide +kernel
theorem dX6_help_8 : decode cX6_help 8 = .ok (.ifCond .eq 14, 3) := by decide +kernel
theorem dX6_help_11 : decode cX6_help 11 = .ok (.aload_n 0, 1) := by decide +kernel
theorem dX6_help_12 : decode cX6_help 12 = .ok (.getfield 19, 3) := by decide +kernel
theorem dX6_help_15 : decode cX6_help 15 = .ok (.iload_n 2, 1) := by decide +kernel
theorem dX6_help_16 : decode cX6_help 16 = .ok (.invokevirtual 93, 3) := by decide +kernel
theorem dX6_help_19 : decode cX6_help 19 = .ok (.ifCond .ne 6, 3) := by decide +kernel
theorem dX6_help_22 : decode cX6_help 22 = .ok (.bipush (-2), 2) := by decide +kernel
theorem dX6_help_24 : decode cX6_help 24 = .ok (.ireturn, 1) := by decide +kernel
theorem dX6_help_25 : decode cX6_help 25 = .ok (.aload_n 0, 1) := by decide +kernel
theorem dX6_help_26 : decode cX6_help 26 = .ok (.getfield 19, 3) := by decide +kernel
theorem dX6_help_29 : decode cX6_help 29 = .ok (.iload_n 2, 1) := by decide +kernel
theorem dX6_help_30 : decode cX6_help 30 = .ok (.invokevirtual 96, 3) := by decide +kernel
theorem dX6_help_33 : decode cX6_help 33 = .ok (.ifCond .ne 6, 3) := by decide +kernel
theorem dX6_help_36 : decode cX6_help 36 = .ok (.bipush (-3), 2) := by decide +kernel
theorem dX6_help_38 : decode cX6_help 38 = .ok (.ireturn, 1) := by decide +kernel
theorem dX6_help_39 : decode cX6_help 39 = .ok (.aload_n 0, 1) := by decide +kernel
theorem dX6_help_40 : decode cX6_help 40 = .ok (.getfield 26, 3) := by decide +kernel
theorem dX6_help_43 : decode cX6_help 43 = .ok (.aload_n 0, 1) := by decide +kernel
theorem dX6_help_44 : decode cX6_help 44 = .ok (.getfield 19, 3) := by decide +kernel
theorem dX6_help_47 : decode cX6_help 47 = .ok (.invokevirtual 190, 3) := by decide +kernel
theorem dX6_help_50 : decode cX6_help 50 = .ok (.iconst 0, 1) := by decide +kernel
theorem dX6_help_51 : decode cX6_help 51 = .ok (.istore_n 3, 1) := by decide +kernel
theorem dX6_help_52 : decode cX6_help 52 = .ok (.aload_n 0, 1) := by decide +kernel
theorem dX6_help_53 : decode cX6_help 53 = .ok (.getfield 19, 3) := by decide +kernel
theorem dX6_help_56 : decode cX6_help 56 = .ok (.invokevirtual 200, 3) := by decide +kernel
theorem dX6_help_59 : decode cX6_help 59 = .ok (.istore 4, 2) := by decide +kernel
theorem dX6_help_61 : decode cX6_help 61 = .ok (.iload 4, 2) := by decide +kernel
theorem dX6_help_63 : decode cX6_help 63 = .ok (.iconst 2, 1) := by decide +kernel
theorem dX6_help_64 : decode cX6_help 64 = .ok (.if_icmp .gt 39, 3) := by decide +kernel
theorem dX6_help_67 : decode cX6_help 67 = .ok (.aload_n 0, 1) := by decide +kernel
theorem dX6_help_68 : decode cX6_help 68 = .ok (.getfield 26, 3) := by decide +kernel
theorem dX6_help_71 : decode cX6_help 71 = .ok (.getfield 99, 3) := by decide +kernel
theorem dX6_help_74 : decode cX6_help 74 = .ok (.iload_n 2, 1) := by decide +kernel
theorem dX6_help_75 : decode cX6_help 75 = .ok (.iload 4, 2) := by decide +kernel
theorem dX6_help_77 : decode cX6_help 77 = .ok (.iastore, 1) := by decide +kernel
theorem dX6_help_78 : decode cX6_help 78 = .ok (.aload_n 0, 1) := by decide +kernel
theorem dX6_help_79 : decode cX6_help 79 = .ok (.aload_n 0, 1) := by decide +kernel
theorem dX6_help_80 : decode cX6_help 80 = .ok (.getfield 26, 3) := by decide +kernel
theorem dX6_help_83 : decode cX6_help 83 = .ok (.iload_n 1, 1) := by decide +kernel
theorem dX6_help_84 : decode cX6_help 84 = .ok (.invokevirtual 144, 3) := by decide +kernel
theorem dX6_help_87 : decode cX6_help 87 = .ok (.ifCond .eq 10, 3) := by decide +kernel
theorem dX6_help_90 : decode cX6_help 90 = .ok (.iload_n 3, 1) := by decide +kernel
theorem dX6_help_91 : decode cX6_help 91 = .ok (.iconst 1, 1) := by decide +kernel
theorem dX6_help_92 : decode cX6_help 92 = .ok (.iload 4, 2) := by decide +kernel
theorem dX6_help_94 : decode cX6_help 94 = .ok (.ishl, 1) := by decide +kernel
theorem dX6_help_95 : decode cX6_help 95 = .ok (.ior, 1) := by decide +kernel
theorem dX6_help_96 : decode cX6_help 96 = .ok (.istore_n 3, 1) := by decide +kernel
theorem dX6_help_97 : decode cX6_help 97 = .ok (.iinc 4 1, 3) := by decide +kernel
theorem dX6_help_100 : decode cX6_help 100 = .ok (.goto (-39), 3) := by decide +kernel
theorem dX6_help_103 : decode cX6_help 103 = .ok (.iload_n 3, 1) := by decide +kernel
theorem dX6_help_104 : decode cX6_help 104 = .ok (.ireturn, 1) := by decide +kernel
def f_X6_help_61 (k61 : Nat × Int32 × Int32 × Int32 × Int32 → Hp → Option (Int32 × Hp)) (v : Nat × Int32 × Int32 × Int32 × Int32) (h0 : Hp) : Option (Int32 × Hp) :=
  match v with
  | (l0, l1, l2, l3, l4) => if (2 : Int32) < l4 then (some (l3, h0)) else ((gR h0 l0 6 3).bind fun r2 => (gR h0 r2 0 9).bind fun r3 => (aS h0 r3 l2 l4).bind fun h4 => (gR h4 l0 6 3).bind fun r5 => (f_X6_canWin l0 r5 l1 h4).bind fun q6 => if q6.1 = 0 then ((some (l4 + 1)).bind fun x8 => k61 (l0, l1, l2, l3, x8) q6.2) else ((some (l3 ||| ((1 : Int32) <<< (l4 &&& 31)))).bind fun x9 => (some (l4 + 1)).bind fun x10 => k61 (l0, l1, l2, x9, x10) q6.2))
set_option maxRecDepth 100000 in
set_option maxHeartbeats 4000000 in
theorem c_X6_help_61 {X : Cx} {adr : Nat → Nat} {q : Int32 × Hp} (hr : (mth X).sig.returnType = (some .int)) (n : Nat) : ∀ v h0, lp (f_X6_help_61) n v h0 = some q → AW X cX6_help 5 RX6 (rmd 28 0 0) (Qmet X 0 0 (Qe (some (.int q.1)) q.2 adr)) 0 0 adr h0 61 [(0, .ref v.1), (1, .int v.2.1), (2, .int v.2.2.1), (3, .int v.2.2.2.1), (4, .int v.2.2.2.2)] [] := by
  refine aw_lp (fun k61 hk61 v h0 hf => ?_) n
  obtain ⟨l0, l1, l2, l3, l4⟩ := v
  unfold f_X6_help_61 at hf
  dsimp only at hf
  show AW X cX6_help 5 RX6 (rmd 28 0 0) (Qmet X 0 0 (Qe (some (.int q.1)) q.2 adr)) 0 0 adr h0 61 [(0, .ref l0), (1, .int l1), (2, .int l2), (3, .int l3), (4, .int l4)] []
  refine aw_iload 4 dX6_help_61 rfl ?_
  refine aw_iconst (v := 2) dX6_help_63 (by decide) ?_
  refine aw_icmp_gt (tgt := 103) dX6_help_64 (by decide) (fun c1 => ?_) (fun c1 => ?_)
  · have hf := i_pos c1 hf
    refine aw_iload_n 3 dX6_help_103 rfl rfl ?_
    have hq := Option.some.inj hf
    subst hq
    exact aw_iret hr dX6_help_104 ⟨rfl, rfl, rfl⟩
  · have hf := i_neg c1 hf
    refine aw_aload_n 0 dX6_help_67 rfl rfl ?_
    obtain ⟨r2, er2, hf⟩ := b_some hf
    refine aw_getR dX6_help_68 gfX6_26 er2 ?_
    obtain ⟨r3, er3, hf⟩ := b_some hf
    refine aw_getR dX6_help_71 gfX6_99 er3 ?_
    refine aw_iload_n 2 dX6_help_74 rfl rfl ?_
    refine aw_iload 4 dX6_help_75 rfl ?_
    obtain ⟨h4, eh4, hf⟩ := b_some hf
    refine aw_iast dX6_help_77 eh4 ?_
    refine aw_aload_n 0 dX6_help_78 rfl rfl ?_
    refine aw_aload_n 0 dX6_help_79 rfl rfl ?_
    obtain ⟨r5, er5, hf⟩ := b_some hf
    refine aw_getR dX6_help_80 gfX6_26 er5 ?_
    refine aw_iload_n 1 dX6_help_83 rfl rfl ?_
    obtain ⟨q6, eq6, hf⟩ := b_some hf
    refine aw_cV (as := [.ref r5, .int l1]) dX6_help_84 moX6_canWin voX6_canWin mlX6_144 (k_X6_canWin eq6) rfl (rm_ok (by omega) (by decide)) ⟨Nat.le_refl _, Nat.le_refl _⟩ (Nat.le_of_ble_eq_true rfl) rfl (c_X6_canWin eq6) ?_
    refine aw_if_eq (tgt := 97) dX6_help_87 (by decide) (fun c7 => ?_) (fun c7 => ?_)
    · have hf := i_pos c7 hf
      obtain ⟨x8, ex8, hf⟩ := b_some hf
      refine aw_iinc (v := x8) (L' := [(4, .int x8), (0, .ref l0), (1, .int l1), (2, .int l2), (3, .int l3)]) 4 dX6_help_97 rfl (Option.some.inj ex8) (by decide) rfl ?_
      refine aw_goto (tgt := 61) dX6_help_100 (by decide) ?_
      exact aw_sub [1, 2, 3, 4, 0] rfl (hk61 _ _ hf)
    · have hf := i_neg c7 hf
      refine aw_iload_n 3 dX6_help_90 rfl rfl ?_
      refine aw_iconst (v := 1) dX6_help_91 (by decide) ?_
      refine aw_iload 4 dX6_help_92 rfl ?_
      refine aw_ishl dX6_help_94 ?_
      refine aw_ior dX6_help_95 ?_
      obtain ⟨x9, ex9, hf⟩ := b_some hf
      refine aw_nm ex9 ?_
      refine aw_istore_n (L' := [(3, .int x9), (0, .ref l0), (1, .int l1), (2, .int l2), (4, .int l4)]) dX6_help_96 rfl (by decide) rfl ?_
      obtain ⟨x10, ex10, hf⟩ := b_some hf
      refine aw_iinc (v := x10) (L' := [(4, .int x10), (3, .int x9), (0, .ref l0), (1, .int l1), (2, .int l2)]) 4 dX6_help_97 rfl (Option.some.inj ex10) (by decide) rfl ?_
      refine aw_goto (tgt := 61) dX6_help_100 (by decide) ?_
      exact aw_sub [2, 3, 4, 1, 0] rfl (hk61 _ _ hf)
def f_X6_help (l0 : Nat) (l1 : Int32) (l2 : Int32) (h0 : Hp) : Option (Int32 × Hp) :=
  (ck h0 l0 6).bind fun _ => (gR h0 l0 6 1).bind fun r1 => (f_X0_hasTeam r1 l1 h0).bind fun q2 => if q2.1 = 0 then (some ((-2 : Int32), q2.2)) else ((gR q2.2 l0 6 1).bind fun r4 => (f_X0_hasGame r4 l2 q2.2).bind fun q5 => if q5.1 = 0 then (some ((-2 : Int32), q5.2)) else ((gR q5.2 l0 6 1).bind fun r7 => (f_X0_isLeft r7 l2 q5.2).bind fun q8 => if q8.1 = 0 then (some ((-3 : Int32), q8.2)) else ((gR q8.2 l0 6 3).bind fun r10 => (gR q8.2 l0 6 1).bind fun r11 => (f_X0_takeFrom r10 r11 q8.2).bind fun q12 => (gR q12.2 l0 6 1).bind fun r13 => (f_X0_firstResult r13 q12.2).bind fun q14 => lp (f_X6_help_61) 600 (l0, l1, l2, (0 : Int32), q14.1) q14.2)))
set_option maxRecDepth 100000 in
set_option maxHeartbeats 4000000 in
theorem c_X6_help {l0 : Nat} {l1 : Int32} {l2 : Int32} {h0 : Hp} {q : Int32 × Hp} (hf : f_X6_help l0 l1 l2 h0 = some q) : Mt 28 yX6_help cX6_help 5 (some .int) [.ref l0, .int l1, .int l2] h0 (some (.int q.1)) q.2 := by
  refine MtQ.of (by decide) (Nat.le_of_ble_eq_true rfl) (fun X adr hr hn => ?_)
  unfold f_X6_help at hf
  show AW X cX6_help 5 RX6 (rmd 28 0 0) (Qmet X 0 0 (Qe (some (.int q.1)) q.2 adr)) 0 0 adr h0 0 [(0, .ref l0), (1, .int l1), (2, .int l2)] []
  obtain ⟨u0, e0, hf⟩ := b_some hf
  refine aw_aload_n 0 dX6_help_0 rfl rfl ?_
  obtain ⟨r1, er1, hf⟩ := b_some hf
  refine aw_getR dX6_help_1 gfX6_19 er1 ?_
  refine aw_iload_n 1 dX6_help_4 rfl rfl ?_
  obtain ⟨q2, eq2, hf⟩ := b_some hf
  refine aw_cV (as := [.int l1]) dX6_help_5 moX0_hasTeam voX0_hasTeam mlX6_102 (k_X0_hasTeam eq2) rfl (rm_ok (by omega) (by decide)) ⟨Nat.le_refl _, Nat.le_refl _⟩ (Nat.le_of_ble_eq_true rfl) rfl (c_X0_hasTeam eq2) ?_
  refine aw_if_eq (tgt := 22) dX6_help_8 (by decide) (fun c3 => ?_) (fun c3 => ?_)
  · have hf := i_pos c3 hf
    refine aw_bipush (v := -2) dX6_help_22 (by decide) ?_
    have hq := Option.some.inj hf
    subst hq
    exact aw_iret hr dX6_help_24 ⟨rfl, rfl, rfl⟩
  · have hf := i_neg c3 hf
    refine aw_aload_n 0 dX6_help_11 rfl rfl ?_
    obtain ⟨r4, er4, hf⟩ := b_some hf
    refine aw_getR dX6_help_12 gfX6_19 er4 ?_
    refine aw_iload_n 2 dX6_help_15 rfl rfl ?_
    obtain ⟨q5, eq5, hf⟩ := b_some hf
    refine aw_cV (as := [.int l2]) dX6_help_16 moX0_hasGame voX0_hasGame mlX6_93 (k_X0_hasGame eq5) rfl (rm_ok (by omega) (by decide)) ⟨Nat.le_refl _, Nat.le_refl _⟩ (Nat.le_of_ble_eq_true rfl) rfl (c_X0_hasGame eq5) ?_
    refine aw_if_ne (tgt := 25) dX6_help_19 (by decide) (fun c6 => ?_) (fun c6 => ?_)
    · have hf := i_neg c6 hf
      refine aw_aload_n 0 dX6_help_25 rfl rfl ?_
      obtain ⟨r7, er7, hf⟩ := b_some hf
      refine aw_getR dX6_help_26 gfX6_19 er7 ?_
      refine aw_iload_n 2 dX6_help_29 rfl rfl ?_
      obtain ⟨q8, eq8, hf⟩ := b_some hf
      refine aw_cV (as := [.int l2]) dX6_help_30 moX0_isLeft voX0_isLeft mlX6_96 (k_X0_isLeft eq8) rfl (rm_ok (by omega) (by decide)) ⟨Nat.le_refl _, Nat.le_refl _⟩ (Nat.le_of_ble_eq_true rfl) rfl (c_X0_isLeft eq8) ?_
      refine aw_if_ne (tgt := 39) dX6_help_33 (by decide) (fun c9 => ?_) (fun c9 => ?_)
      · have hf := i_neg c9 hf
        refine aw_aload_n 0 dX6_help_39 rfl rfl ?_
        obtain ⟨r10, er10, hf⟩ := b_some hf
        refine aw_getR dX6_help_40 gfX6_26 er10 ?_
        refine aw_aload_n 0 dX6_help_43 rfl rfl ?_
        obtain ⟨r11, er11, hf⟩ := b_some hf
        refine aw_getR dX6_help_44 gfX6_19 er11 ?_
        obtain ⟨q12, eq12, hf⟩ := b_some hf
        refine aw_cV0 (as := [.ref r11]) dX6_help_47 moX0_takeFrom voX0_takeFrom mlX6_190 (k_X0_takeFrom eq12) rfl (rm_ok (by omega) (by decide)) ⟨Nat.le_refl _, Nat.le_refl _⟩ (Nat.le_of_ble_eq_true rfl) rfl (c_X0_takeFrom eq12) ?_
        refine aw_iconst (v := 0) dX6_help_50 (by decide) ?_
        refine aw_istore_n (L' := [(3, .int (0 : Int32)), (0, .ref l0), (1, .int l1), (2, .int l2)]) dX6_help_51 rfl (by decide) rfl ?_
        refine aw_aload_n 1 dX6_help_52 rfl rfl ?_
        obtain ⟨r13, er13, hf⟩ := b_some hf
        refine aw_getR dX6_help_53 gfX6_19 er13 ?_
        obtain ⟨q14, eq14, hf⟩ := b_some hf
        refine aw_cV (as := []) dX6_help_56 moX0_firstResult voX0_firstResult mlX6_200 (k_X0_firstResult eq14) rfl (rm_ok (by omega) (by decide)) ⟨Nat.le_refl _, Nat.le_refl _⟩ (Nat.le_of_ble_eq_true rfl) rfl (c_X0_firstResult eq14) ?_
        refine aw_istore (L' := [(4, .int q14.1), (3, .int (0 : Int32)), (0, .ref l0), (1, .int l1), (2, .int l2)]) dX6_help_59 (by decide) rfl ?_
        exact aw_sub [2, 3, 4, 1, 0] rfl (c_X6_help_61 hr 600 _ _ hf)
      · have hf := i_pos c9 hf
        refine aw_bipush (v := -3) dX6_help_36 (by decide) ?_
        have hq := Option.some.inj hf
        subst hq
        exact aw_iret hr dX6_help_38 ⟨rfl, rfl, rfl⟩
    · have hf := i_pos c6 hf
      refine aw_bipush (v := -2) dX6_help_22 (by decide) ?_
      have hq := Option.some.inj hf
      subst hq
      exact aw_iret hr dX6_help_24 ⟨rfl, rfl, rfl⟩
theorem k_X6_help {l0 : Nat} {l1 : Int32} {l2 : Int32} {h0 : Hp} {q : Int32 × Hp} (hf : f_X6_help l0 l1 l2 h0 = some q) : ck h0 l0 6 = some () := by
  unfold f_X6_help at hf
  obtain ⟨u0, e0, hf⟩ := b_some hf
  exact e0
theorem dX6_image_0 : decode cX6_image 0 = .ok (.aload_n 0, 1) := by decide +kernel
theorem dX6_image_1 : decode cX6_image 1 = .ok (.getfield 23, 3) := by decide +kernel
theorem dX6_image_4 : decode cX6_image 4 = .ok (.aload_n 0, 1) := by decide +kernel
theorem dX6_image_5 : decode cX6_image 5 = .ok (.getfield 19, 3) := by decide +kernel
theorem dX6_image_8 : decode cX6_image 8 = .ok (.invokevirtual 190, 3) := by decide +kernel
theorem dX6_image_11 : decode cX6_image 11 = .ok (.aload_n 0, 1) := by decide +kernel
theorem dX6_image_12 : decode cX6_image 12 = .ok (.iconst 1, 1) := by decide +kernel
theorem dX6_image_13 : decode cX6_image 13 = .ok (.putfield 241, 3) := by decide +kernel
theorem dX6_image_16 : decode cX6_image 16 = .ok (.aload_n 0, 1) := by decide +kernel
theorem dX6_image_17 : decode cX6_image 17 = .ok (.getfield 23, 3) := by decide +kernel
theorem dX6_image_20 : decode cX6_image 20 = .ok (.getfield 135, 3) := by decide +kernel
theorem dX6_image_23 : decode cX6_image 23 = .ok (.ireturn, 1) := by decide +kernel
def f_X6_image (l0 : Nat) (h0 : Hp) : Option (Int32 × Hp) :=
  (ck h0 l0 6).bind fun _ => (gR h0 l0 6 2).bind fun r1 => (gR h0 l0 6 1).bind fun r2 => (f_X0_takeFrom r1 r2 h0).bind fun q3 => (pZ q3.2 l0 6 9 (1 : Int32)).bind fun h4 => (gR h4 l0 6 2).bind fun r5 => (gI h4 r5 0 1).bind fun x6 => some (x6, h4)
set_option maxRecDepth 100000 in
set_option maxHeartbeats 4000000 in
theorem c_X6_image {l0 : Nat} {h0 : Hp} {q : Int32 × Hp} (hf : f_X6_image l0 h0 = some q) : Mt 3 yX6_image cX6_image 1 (some .int) [.ref l0] h0 (some (.int q.1)) q.2 := by
  refine MtQ.of (by decide) (Nat.le_of_ble_eq_true rfl) (fun X adr hr hn => ?_)
  unfold f_X6_image at hf
  show AW X cX6_image 1 RX6 (rmd 3 0 0) (Qmet X 0 0 (Qe (some (.int q.1)) q.2 adr)) 0 0 adr h0 0 [(0, .ref l0)] []
  obtain ⟨u0, e0, hf⟩ := b_some hf
  refine aw_aload_n 0 dX6_image_0 rfl rfl ?_
  obtain ⟨r1, er1, hf⟩ := b_some hf
  refine aw_getR dX6_image_1 gfX6_23 er1 ?_
  refine aw_aload_n 0 dX6_image_4 rfl rfl ?_
  obtain ⟨r2, er2, hf⟩ := b_some hf
  refine aw_getR dX6_image_5 gfX6_19 er2 ?_
  obtain ⟨q3, eq3, hf⟩ := b_some hf
  refine aw_cV0 (as := [.ref r2]) dX6_image_8 moX0_takeFrom voX0_takeFrom mlX6_190 (k_X0_takeFrom eq3) rfl (rm_ok (by omega) (by decide)) ⟨Nat.le_refl _, Nat.le_refl _⟩ (Nat.le_of_ble_eq_true rfl) rfl (c_X0_takeFrom eq3) ?_
  refine aw_aload_n 0 dX6_image_11 rfl rfl ?_
  refine aw_iconst (v := 1) dX6_image_12 (by decide) ?_
  obtain ⟨h4, eh4, hf⟩ := b_some hf
  refine aw_putZ dX6_image_13 pfX6_241 eh4 ?_
  refine aw_aload_n 0 dX6_image_16 rfl rfl ?_
  obtain ⟨r5, er5, hf⟩ := b_some hf
  refine aw_getR dX6_image_17 gfX6_23 er5 ?_
  obtain ⟨x6, ex6, hf⟩ := b_some hf
  refine aw_getI dX6_image_20 gfX6_135 ex6 ?_
  have hq := Option.some.inj hf
  subst hq
  exact aw_iret hr dX6_image_23 ⟨rfl, rfl, rfl⟩
theorem k_X6_image {l0 : Nat} {h0 : Hp} {q : Int32 × Hp} (hf : f_X6_image l0 h0 = some q) : ck h0 l0 6 = some () := by
  unfold f_X6_image at hf
  obtain ⟨u0, e0, hf⟩ := b_some hf
  exact e0
theorem dX6_isIn_0 : decode cX6_isIn 0 = .ok (.aload_n 0, 1) := by decide +kernel
theorem dX6_isIn_1 : decode cX6_isIn 1 = .ok (.getfield 19, 3) := by decide +kernel
theorem dX6_isIn_4 : decode cX6_isIn 4 = .ok (.iload_n 1, 1) := by decide +kernel
theorem dX6_isIn_5 : decode cX6_isIn 5 = .ok (.invokevirtual 102, 3) := by decide +kernel
theorem dX6_isIn_8 : decode cX6_isIn 8 = .ok (.ifCond .ne 6, 3) := by decide +kernel
theorem dX6_isIn_11 : decode cX6_isIn 11 = .ok (.bipush (-2), 2) := by decide +kernel
theorem dX6_isIn_13 : decode cX6_isIn 13 = .ok (.ireturn, 1) := by decide +kernel
theorem dX6_isIn_14 : decode cX6_isIn 14 = .ok (.aload_n 0, 1) := by decide +kernel
theorem dX6_isIn_15 : decode cX6_isIn 15 = .ok (.aload_n 0, 1) := by decide +kernel
theorem dX6_isIn_16 : decode cX6_isIn 16 = .ok (.getfield 19, 3) := by decide +kernel
theorem dX6_isIn_19 : decode cX6_isIn 19 = .ok (.iload_n 1, 1) := by decide +kernel
theorem dX6_isIn_20 : decode cX6_isIn 20 = .ok (.invokevirtual 144, 3) := by decide +kernel
theorem dX6_isIn_23 : decode cX6_isIn 23 = .ok (.ifCond .eq 7, 3) := by decide +kernel
theorem dX6_isIn_26 : decode cX6_isIn 26 = .ok (.iconst 1, 1) := by decide +kernel
theorem dX6_isIn_27 : decode cX6_isIn 27 = .ok (.goto 4, 3) := by decide +kernel
theorem dX6_isIn_30 : decode cX6_isIn 30 = .ok (.iconst 0, 1) := by decide +kernel
theorem dX6_isIn_31 : decode cX6_isIn 31 = .ok (.ireturn, 1) := by decide +kernel
def f_X6_isIn (l0 : Nat) (l1 : Int32) (h0 : Hp) : Option (Int32 × Hp) :=
  (ck h0 l0 6).bind fun _ => (gR h0 l0 6 1).bind fun r1 => (f_X0_hasTeam r1 l1 h0).bind fun q2 => if q2.1 = 0 then (some ((-2 : Int32), q2.2)) else ((gR q2.2 l0 6 1).bind fun r4 => (f_X6_canWin l0 r4 l1 q2.2).bind fun q5 => if q5.1 = 0 then (some ((0 : Int32), q5.2)) else (some ((1 : Int32), q5.2)))
set_option maxRecDepth 100000 in
set_option maxHeartbeats 4000000 in
theorem c_X6_isIn {l0 : Nat} {l1 : Int32} {h0 : Hp} {q : Int32 × Hp} (hf : f_X6_isIn l0 l1 h0 = some q) : Mt 28 yX6_isIn cX6_isIn 2 (some .int) [.ref l0, .int l1] h0 (some (.int q.1)) q.2 := by
  refine MtQ.of (by decide) (Nat.le_of_ble_eq_true rfl) (fun X adr hr hn => ?_)
  unfold f_X6_isIn at hf
  show AW X cX6_isIn 2 RX6 (rmd 28 0 0) (Qmet X 0 0 (Qe (some (.int q.1)) q.2 adr)) 0 0 adr h0 0 [(0, .ref l0), (1, .int l1)] []
  obtain ⟨u0, e0, hf⟩ := b_some hf
  refine aw_aload_n 0 dX6_isIn_0 rfl rfl ?_
  obtain ⟨r1, er1, hf⟩ := b_some hf
  refine aw_getR dX6_isIn_1 gfX6_19 er1 ?_
  refine aw_iload_n 1 dX6_isIn_4 rfl rfl ?_
  obtain ⟨q2, eq2, hf⟩ := b_some hf
  refine aw_cV (as := [.int l1]) dX6_isIn_5 moX0_hasTeam voX0_hasTeam mlX6_102 (k_X0_hasTeam eq2) rfl (rm_ok (by omega) (by decide)) ⟨Nat.le_refl _, Nat.le_refl _⟩ (Nat.le_of_ble_eq_true rfl) rfl (c_X0_hasTeam eq2) ?_
  refine aw_if_ne (tgt := 14) dX6_isIn_8 (by decide) (fun c3 => ?_) (fun c3 => ?_)
  · have hf := i_neg c3 hf
    refine aw_aload_n 0 dX6_isIn_14 rfl rfl ?_
    refine aw_aload_n 0 dX6_isIn_15 rfl rfl ?_
    obtain ⟨r4, er4, hf⟩ := b_some hf
    refine aw_getR dX6_isIn_16 gfX6_19 er4 ?_
    refine aw_iload_n 1 dX6_isIn_19 rfl rfl ?_
    obtain ⟨q5, eq5, hf⟩ := b_some hf
    refine aw_cV (as := [.ref r4, .int l1]) dX6_isIn_20 moX6_canWin voX6_canWin mlX6_144 (k_X6_canWin eq5) rfl (rm_ok (by omega) (by decide)) ⟨Nat.le_refl _, Nat.le_refl _⟩ (Nat.le_of_ble_eq_true rfl) rfl (c_X6_canWin eq5) ?_
    refine aw_if_eq (tgt := 30) dX6_isIn_23 (by decide) (fun c6 => ?_) (fun c6 => ?_)
    · have hf := i_pos c6 hf
      refine aw_iconst (v := 0) dX6_isIn_30 (by decide) ?_
      have hq := Option.some.inj hf
      subst hq
      exact aw_iret hr dX6_isIn_31 ⟨rfl, rfl, rfl⟩
    · have hf := i_neg c6 hf
      refine aw_iconst (v := 1) dX6_isIn_26 (by decide) ?_
      refine aw_goto (tgt := 31) dX6_isIn_27 (by decide) ?_
      have hq := Option.some.inj hf
      subst hq
      exact aw_iret hr dX6_isIn_31 ⟨rfl, rfl, rfl⟩
  · have hf := i_pos c3 hf
    refine aw_bipush (v := -2) dX6_isIn_11 (by decide) ?_
    have hq := Option.some.inj hf
    subst hq
    exact aw_iret hr dX6_isIn_13 ⟨rfl, rfl, rfl⟩
theorem k_X6_isIn {l0 : Nat} {l1 : Int32} {h0 : Hp} {q : Int32 × Hp} (hf : f_X6_isIn l0 l1 h0 = some q) : ck h0 l0 6 = some () := by
  unfold f_X6_isIn at hf
  obtain ⟨u0, e0, hf⟩ := b_some hf
  exact e0
