theorem dX6_isSort_0 : decode cX6_isSort 0 = .ok (.iload_n 0, 1) := by decide +kernel
theorem dX6_isSort_1 : decode cX6_isSort 1 = .ok (.ifCond .eq 8, 3) := by decide +kernel
theorem dX6_isSort_4 : decode cX6_isSort 4 = .ok (.iload_n 0, 1) := by decide +kernel
theorem dX6_isSort_5 : decode cX6_isSort 5 = .ok (.iconst 1, 1) := by decide +kernel
theorem dX6_isSort_6 : decode cX6_isSort 6 = .ok (.if_icmp .ne 7, 3) := by decide +kernel
theorem dX6_isSort_9 : decode cX6_isSort 9 = .ok (.iconst 1, 1) := by decide +kernel
theorem dX6_isSort_10 : decode cX6_isSort 10 = .ok (.goto 4, 3) := by decide +kernel
theorem dX6_isSort_13 : decode cX6_isSort 13 = .ok (.iconst 0, 1) := by decide +kernel
theorem dX6_isSort_14 : decode cX6_isSort 14 = .ok (.ireturn, 1) := by decide +kernel
def f_X6_isSort (l0 : Int32) (h0 : Hp) : Option (Int32 × Hp) :=
  if l0 = 0 then (some ((1 : Int32), h0)) else (if l0 = (1 : Int32) then (some ((1 : Int32), h0)) else (some ((0 : Int32), h0)))
set_option maxRecDepth 100000 in
set_option maxHeartbeats 4000000 in
theorem c_X6_isSort {l0 : Int32} {h0 : Hp} {q : Int32 × Hp} (hf : f_X6_isSort l0 h0 = some q) : Mt 1 yX6_isSort cX6_isSort 1 (some .boolean) [.int l0] h0 (some (.int q.1)) q.2 := by
  refine MtQ.of (by decide) (Nat.le_of_ble_eq_true rfl) (fun X adr hr hn => ?_)
  unfold f_X6_isSort at hf
  show AW X cX6_isSort 1 RX6 (rmd 1 0 0) (Qmet X 0 0 (Qe (some (.int q.1)) q.2 adr)) 0 0 adr h0 0 [(0, .int l0)] []
  refine aw_iload_n 0 dX6_isSort_0 rfl rfl ?_
  refine aw_if_eq (tgt := 9) dX6_isSort_1 (by decide) (fun c1 => ?_) (fun c1 => ?_)
  · have hf := i_pos c1 hf
    refine aw_iconst (v := 1) dX6_isSort_9 (by decide) ?_
    refine aw_goto (tgt := 14) dX6_isSort_10 (by decide) ?_
    have hq := Option.some.inj hf
    subst hq
    exact aw_zret hr (by decide) dX6_isSort_14 ⟨rfl, rfl, rfl⟩
  · have hf := i_neg c1 hf
    refine aw_iload_n 0 dX6_isSort_4 rfl rfl ?_
    refine aw_iconst (v := 1) dX6_isSort_5 (by decide) ?_
    refine aw_icmp_ne (tgt := 13) dX6_isSort_6 (by decide) (fun c2 => ?_) (fun c2 => ?_)
    · have hf := i_neg c2 hf
      refine aw_iconst (v := 0) dX6_isSort_13 (by decide) ?_
      have hq := Option.some.inj hf
      subst hq
      exact aw_zret hr (by decide) dX6_isSort_14 ⟨rfl, rfl, rfl⟩
    · have hf := i_pos c2 hf
      refine aw_iconst (v := 1) dX6_isSort_9 (by decide) ?_
      refine aw_goto (tgt := 14) dX6_isSort_10 (by decide) ?_
      have hq := Option.some.inj hf
      subst hq
      exact aw_zret hr (by decide) dX6_isSort_14 ⟨rfl, rfl, rfl⟩
theorem dX6_pointsOf_0 : decode cX6_pointsOf 0 = .ok (.aload_n 1, 1) := by decide +kernel
theorem dX6_pointsOf_1 : decode cX6_pointsOf 1 = .ok (.aload_n 0, 1) := by decide +kernel
theorem dX6_pointsOf_2 : decode cX6_pointsOf 2 = .ok (.getfield 50, 3) := by decide +kernel
theorem dX6_pointsOf_5 : decode cX6_pointsOf 5 = .ok (.invokevirtual 321, 3) := by decide +kernel
theorem dX6_pointsOf_8 : decode cX6_pointsOf 8 = .ok (.aload_n 0, 1) := by decide +kernel
theorem dX6_pointsOf_9 : decode cX6_pointsOf 9 = .ok (.getfield 50, 3) := by decide +kernel
theorem dX6_pointsOf_12 : decode cX6_pointsOf 12 = .ok (.iload_n 2, 1) := by decide +kernel
theorem dX6_pointsOf_13 : decode cX6_pointsOf 13 = .ok (.iaload, 1) := by decide +kernel
theorem dX6_pointsOf_14 : decode cX6_pointsOf 14 = .ok (.ireturn, 1) := by decide +kernel
def f_X6_pointsOf (l0 : Nat) (l1 : Nat) (l2 : Int32) (h0 : Hp) : Option (Int32 × Hp) :=
  (ck h0 l0 6).bind fun _ => (gR h0 l0 6 8).bind fun r1 => (f_X0_pointsInto l1 r1 h0).bind fun q2 => (gR q2.2 l0 6 8).bind fun r3 => (aL q2.2 r3 l2).bind fun x4 => some (x4, q2.2)
set_option maxRecDepth 100000 in
set_option maxHeartbeats 4000000 in
theorem c_X6_pointsOf {l0 : Nat} {l1 : Nat} {l2 : Int32} {h0 : Hp} {q : Int32 × Hp} (hf : f_X6_pointsOf l0 l1 l2 h0 = some q) : Mt 3 yX6_pointsOf cX6_pointsOf 3 (some .int) [.ref l0, .ref l1, .int l2] h0 (some (.int q.1)) q.2 := by
  refine MtQ.of (by decide) (Nat.le_of_ble_eq_true rfl) (fun X adr hr hn => ?_)
  unfold f_X6_pointsOf at hf
  show AW X cX6_pointsOf 3 RX6 (rmd 3 0 0) (Qmet X 0 0 (Qe (some (.int q.1)) q.2 adr)) 0 0 adr h0 0 [(0, .ref l0), (1, .ref l1), (2, .int l2)] []
  obtain ⟨u0, e0, hf⟩ := b_some hf
  refine aw_aload_n 1 dX6_pointsOf_0 rfl rfl ?_
  refine aw_aload_n 0 dX6_pointsOf_1 rfl rfl ?_
  obtain ⟨r1, er1, hf⟩ := b_some hf
  refine aw_getR dX6_pointsOf_2 gfX6_50 er1 ?_
  obtain ⟨q2, eq2, hf⟩ := b_some hf
  refine aw_cV0 (as := [.ref r1]) dX6_pointsOf_5 moX0_pointsInto voX0_pointsInto mlX6_321 (k_X0_pointsInto eq2) rfl (rm_ok (by omega) (by decide)) ⟨Nat.le_refl _, Nat.le_refl _⟩ (Nat.le_of_ble_eq_true rfl) rfl (c_X0_pointsInto eq2) ?_
  refine aw_aload_n 0 dX6_pointsOf_8 rfl rfl ?_
  obtain ⟨r3, er3, hf⟩ := b_some hf
  refine aw_getR dX6_pointsOf_9 gfX6_50 er3 ?_
  refine aw_iload_n 2 dX6_pointsOf_12 rfl rfl ?_
  obtain ⟨x4, ex4, hf⟩ := b_some hf
  refine aw_iald dX6_pointsOf_13 ex4 ?_
  have hq := Option.some.inj hf
  subst hq
  exact aw_iret hr dX6_pointsOf_14 ⟨rfl, rfl, rfl⟩
theorem k_X6_pointsOf {l0 : Nat} {l1 : Nat} {l2 : Int32} {h0 : Hp} {q : Int32 × Hp} (hf : f_X6_pointsOf l0 l1 l2 h0 = some q) : ck h0 l0 6 = some () := by
  unfold f_X6_pointsOf at hf
  obtain ⟨u0, e0, hf⟩ := b_some hf
  exact e0
theorem dX6_reachOf_0 : decode cX6_reachOf 0 = .ok (.aload_n 0, 1) := by decide +kernel
theorem dX6_reachOf_1 : decode cX6_reachOf 1 = .ok (.aload_n 1, 1) := by decide +kernel
theorem dX6_reachOf_2 : decode cX6_reachOf 2 = .ok (.iload_n 2, 1) := by decide +kernel
theorem dX6_reachOf_3 : decode cX6_reachOf 3 = .ok (.invokevirtual 112, 3) := by decide +kernel
theorem dX6_reachOf_6 : decode cX6_reachOf 6 = .ok (.aload_n 1, 1) := by decide +kernel
theorem dX6_reachOf_7 : decode cX6_reachOf 7 = .ok (.invokevirtual 141, 3) := by decide +kernel
theorem dX6_reachOf_10 : decode cX6_reachOf 10 = .ok (.aload_n 1, 1) := by decide +kernel
theorem dX6_reachOf_11 : decode cX6_reachOf 11 = .ok (.iload_n 2, 1) := by decide +kernel
theorem dX6_reachOf_12 : decode cX6_reachOf 12 = .ok (.invokevirtual 119, 3) := by decide +kernel
theorem dX6_reachOf_15 : decode cX6_reachOf 15 = .ok (.invokestatic 182, 3) := by decide +kernel
theorem dX6_reachOf_18 : decode cX6_reachOf 18 = .ok (.imul, 1) := by decide +kernel
theorem dX6_reachOf_19 : decode cX6_reachOf 19 = .ok (.iadd, 1) := by decide +kernel
theorem dX6_reachOf_20 : decode cX6_reachOf 20 = .ok (.ireturn, 1) := by decide +kernel
def f_X6_reachOf (l0 : Nat) (l1 : Nat) (l2 : Int32) (h0 : Hp) : Option (Int32 × Hp) :=
  (ck h0 l0 6).bind fun _ => (f_X6_pointsOf l0 l1 l2 h0).bind fun q1 => (f_X0_winBrings l1 q1.2).bind fun q2 => (f_X0_leftOf l1 l2 q2.2).bind fun q3 => (f_J6_bitCount_0f7a4 q3.1 q3.2).bind fun q4 => some ((q1.1 + (q2.1 * q4.1)), q4.2)
set_option maxRecDepth 100000 in
set_option maxHeartbeats 4000000 in
theorem c_X6_reachOf {l0 : Nat} {l1 : Nat} {l2 : Int32} {h0 : Hp} {q : Int32 × Hp} (hf : f_X6_reachOf l0 l1 l2 h0 = some q) : Mt 4 yX6_reachOf cX6_reachOf 3 (some .int) [.ref l0, .ref l1, .int l2] h0 (some (.int q.1)) q.2 := by
  refine MtQ.of (by decide) (Nat.le_of_ble_eq_true rfl) (fun X adr hr hn => ?_)
  unfold f_X6_reachOf at hf
  show AW X cX6_reachOf 3 RX6 (rmd 4 0 0) (Qmet X 0 0 (Qe (some (.int q.1)) q.2 adr)) 0 0 adr h0 0 [(0, .ref l0), (1, .ref l1), (2, .int l2)] []
  obtain ⟨u0, e0, hf⟩ := b_some hf
  refine aw_aload_n 0 dX6_reachOf_0 rfl rfl ?_
  refine aw_aload_n 1 dX6_reachOf_1 rfl rfl ?_
  refine aw_iload_n 2 dX6_reachOf_2 rfl rfl ?_
  obtain ⟨q1, eq1, hf⟩ := b_some hf
  refine aw_cV (as := [.ref l1, .int l2]) dX6_reachOf_3 moX6_pointsOf voX6_pointsOf mlX6_112 (k_X6_pointsOf eq1) rfl (rm_ok (by omega) (by decide)) ⟨Nat.le_refl _, Nat.le_refl _⟩ (Nat.le_of_ble_eq_true rfl) rfl (c_X6_pointsOf eq1) ?_
  refine aw_aload_n 1 dX6_reachOf_6 rfl rfl ?_
  obtain ⟨q2, eq2, hf⟩ := b_some hf
  refine aw_cV (as := []) dX6_reachOf_7 moX0_winBrings voX0_winBrings mlX6_141 (k_X0_winBrings eq2) rfl (rm_ok (by omega) (by decide)) ⟨Nat.le_refl _, Nat.le_refl _⟩ (Nat.le_of_ble_eq_true rfl) rfl (c_X0_winBrings eq2) ?_
  refine aw_aload_n 1 dX6_reachOf_10 rfl rfl ?_
  refine aw_iload_n 2 dX6_reachOf_11 rfl rfl ?_
  obtain ⟨q3, eq3, hf⟩ := b_some hf
  refine aw_cV (as := [.int l2]) dX6_reachOf_12 moX0_leftOf voX0_leftOf mlX6_119 (k_X0_leftOf eq3) rfl (rm_ok (by omega) (by decide)) ⟨Nat.le_refl _, Nat.le_refl _⟩ (Nat.le_of_ble_eq_true rfl) rfl (c_X0_leftOf eq3) ?_
  obtain ⟨q4, eq4, hf⟩ := b_some hf
  refine aw_cS (as := [.int q3.1]) dX6_reachOf_15 moJ6_bitCount_0f7a4 soJ6_bitCount_0f7a4 mlX6_182 (rm_ok (by omega) (by decide)) ⟨Nat.le_refl _, Nat.le_refl _⟩ (Nat.le_of_ble_eq_true rfl) rfl (c_J6_bitCount_0f7a4 eq4) ?_
  refine aw_imul dX6_reachOf_18 ?_
  refine aw_iadd dX6_reachOf_19 ?_
  have hq := Option.some.inj hf
  subst hq
  exact aw_iret hr dX6_reachOf_20 ⟨rfl, rfl, rfl⟩
theorem k_X6_reachOf {l0 : Nat} {l1 : Nat} {l2 : Int32} {h0 : Hp} {q : Int32 × Hp} (hf : f_X6_reachOf l0 l1 l2 h0 = some q) : ck h0 l0 6 = some () := by
  unfold f_X6_reachOf at hf
  obtain ⟨u0, e0, hf⟩ := b_some hf
  exact e0
theorem dX6_isSure_0 : decode cX6_isSure 0 = .ok (.aload_n 0, 1) := by decide +kernel
theorem dX6_isSure_1 : decode cX6_isSure 1 = .ok (.aload_n 1, 1) := by decide +kernel
theorem dX6_isSure_2 : decode cX6_isSure 2 = .ok (.iload_n 2, 1) := by decide +kernel
theorem dX6_isSure_3 : decode cX6_isSure 3 = .ok (.invokevirtual 112, 3) := by decide +kernel
theorem dX6_isSure_6 : decode cX6_isSure 6 = .ok (.istore_n 3, 1) := by decide +kernel
theorem dX6_isSure_7 : decode cX6_isSure 7 = .ok (.iconst 0, 1) := by decide +kernel
theorem dX6_isSure_8 : decode cX6_isSure 8 = .ok (.istore 4, 2) := by decide +kernel
theorem dX6_isSure_10 : decode cX6_isSure 10 = .ok (.iload 4, 2) := by decide +kernel
theorem dX6_isSure_12 : decode cX6_isSure 12 = .ok (.aload_n 1, 1) := by decide +kernel
theorem dX6_isSure_13 : decode cX6_isSure 13 = .ok (.getfield 215, 3) := by decide +kernel
theorem dX6_isSure_16 : decode cX6_isSure 16 = .ok (.if_icmp .ge 28, 3) := by decide +kernel
theorem dX6_isSure_19 : decode cX6_isSure 19 = .ok (.iload 4, 2) := by decide +kernel
theorem dX6_isSure_21 : decode cX6_isSure 21 = .ok (.iload_n 2, 1) := by decide +kernel
theorem dX6_isSure_22 : decode cX6_isSure 22 = .ok (.if_icmp .eq 16, 3) := by decide +kernel
theorem dX6_isSure_25 : decode cX6_isSure 25 = .ok (.aload_n 0, 1) := by decide +kernel
theorem dX6_isSure_26 : decode cX6_isSure 26 = .ok (.aload_n 1, 1) := by decide +kernel
theorem dX6_isSure_27 : decode cX6_isSure 27 = .ok (.iload 4, 2) := by decide +kernel
theorem dX6_isSure_29 : decode cX6_isSure 29 = .ok (.invokevirtual 116, 3) := by decide +kernel
theorem dX6_isSure_32 : decode cX6_isSure 32 = .ok (.iload_n 3, 1) := by decide +kernel
theorem dX6_isSure_33 : decode cX6_isSure 33 = .ok (.if_icmp .le 5, 3) := by decide +kernel
theorem dX6_isSure_36 : decode cX6_isSure 36 = .ok (.iconst 0, 1) := by decide +kernel
theorem dX6_isSure_37 : decode cX6_isSure 37 = .ok (.ireturn, 1) := by decide +kernel
theorem dX6_isSure_38 : decode cX6_isSure 38 = .ok (.iinc 4 1, 3) := by decide +kernel
theorem dX6_isSure_41 : decode cX6_isSure 41 = .ok (.goto (-31), 3) := by decide +kernel
theorem dX6_isSure_44 : decode cX6_isSure 44 = .ok (.iconst 1, 1) := by decide +kernel
theorem dX6_isSure_45 : decode cX6_isSure 45 = .ok (.ireturn, 1) := by decide +kernel
def f_X6_isSure_10 (k10 : Nat × Nat × Int32 × Int32 × Int32 → Hp → Option (Int32 × Hp)) (v : Nat × Nat × Int32 × Int32 × Int32) (h0 : Hp) : Option (Int32 × Hp) :=
  match v with
  | (l0, l1, l2, l3, l4) => (gI h0 l1 0 0).bind fun x1 => if x1 ≤ l4 then (some ((1 : Int32), h0)) else (if l4 = l2 then ((some (l4 + 1)).bind fun x4 => k10 (l0, l1, l2, l3, x4) h0) else ((f_X6_reachOf l0 l1 l4 h0).bind fun q5 => if q5.1 ≤ l3 then ((some (l4 + 1)).bind fun x7 => k10 (l0, l1, l2, l3, x7) q5.2) else (some ((0 : Int32), q5.2))))
set_option maxRecDepth 100000 in
set_option maxHeartbeats 4000000 in
theorem c_X6_isSure_10 {X : Cx} {adr : Nat → Nat} {q : Int32 × Hp} (hr : (mth X).sig.returnType = (some .boolean)) (n : Nat) : ∀ v h0, lp (f_X6_isSure_10) n v h0 = some q → AW X cX6_isSure 5 RX6 (rmd 5 0 0) (Qmet X 0 0 (Qe (some (.int q.1)) q.2 adr)) 0 0 adr h0 10 [(0, .ref v.1), (1, .ref v.2.1), (2, .int v.2.2.1), (3, .int v.2.2.2.1), (4, .int v.2.2.2.2)] [] := by
  refine aw_lp (fun k10 hk10 v h0 hf => ?_) n
  obtain ⟨l0, l1, l2, l3, l4⟩ := v
  unfold f_X6_isSure_10 at hf
  dsimp only at hf
  show AW X cX6_isSure 5 RX6 (rmd 5 0 0) (Qmet X 0 0 (Qe (some (.int q.1)) q.2 adr)) 0 0 adr h0 10 [(0, .ref l0), (1, .ref l1), (2, .int l2), (3, .int l3), (4, .int l4)] []
  refine aw_iload 4 dX6_isSure_10 rfl ?_
  refine aw_aload_n 1 dX6_isSure_12 rfl rfl ?_
  obtain ⟨x1, ex1, hf⟩ := b_some hf
  refine aw_getI dX6_isSure_13 gfX6_215 ex1 ?_
  refine aw_icmp_ge (tgt := 44) dX6_isSure_16 (by decide) (fun c2 => ?_) (fun c2 => ?_)
  · have hf := i_pos c2 hf
    refine aw_iconst (v := 1) dX6_isSure_44 (by decide) ?_
    have hq := Option.some.inj hf
    subst hq
    exact aw_zret hr (by decide) dX6_isSure_45 ⟨rfl, rfl, rfl⟩
  · have hf := i_neg c2 hf
    refine aw_iload 4 dX6_isSure_19 rfl ?_
    refine aw_iload_n 2 dX6_isSure_21 rfl rfl ?_
    refine aw_icmp_eq (tgt := 38) dX6_isSure_22 (by decide) (fun c3 => ?_) (fun c3 => ?_)
    · have hf := i_pos c3 hf
      obtain ⟨x4, ex4, hf⟩ := b_some hf
      refine aw_iinc (v := x4) (L' := [(4, .int x4), (0, .ref l0), (1, .ref l1), (2, .int l2), (3, .int l3)]) 4 dX6_isSure_38 rfl (Option.some.inj ex4) (by decide) rfl ?_
      refine aw_goto (tgt := 10) dX6_isSure_41 (by decide) ?_
      exact aw_sub [1, 2, 3, 4, 0] rfl (hk10 _ _ hf)
    · have hf := i_neg c3 hf
      refine aw_aload_n 0 dX6_isSure_25 rfl rfl ?_
      refine aw_aload_n 1 dX6_isSure_26 rfl rfl ?_
      refine aw_iload 4 dX6_isSure_27 rfl ?_
      obtain ⟨q5, eq5, hf⟩ := b_some hf
      refine aw_cV (as := [.ref l1, .int l4]) dX6_isSure_29 moX6_reachOf voX6_reachOf mlX6_116 (k_X6_reachOf eq5) rfl (rm_ok (by omega) (by decide)) ⟨Nat.le_refl _, Nat.le_refl _⟩ (Nat.le_of_ble_eq_true rfl) rfl (c_X6_reachOf eq5) ?_
      refine aw_iload_n 3 dX6_isSure_32 rfl rfl ?_
      refine aw_icmp_le (tgt := 38) dX6_isSure_33 (by decide) (fun c6 => ?_) (fun c6 => ?_)
      · have hf := i_pos c6 hf
        obtain ⟨x7, ex7, hf⟩ := b_some hf
        refine aw_iinc (v := x7) (L' := [(4, .int x7), (0, .ref l0), (1, .ref l1), (2, .int l2), (3, .int l3)]) 4 dX6_isSure_38 rfl (Option.some.inj ex7) (by decide) rfl ?_
        refine aw_goto (tgt := 10) dX6_isSure_41 (by decide) ?_
        exact aw_sub [1, 2, 3, 4, 0] rfl (hk10 _ _ hf)
      · have hf := i_neg c6 hf
        refine aw_iconst (v := 0) dX6_isSure_36 (by decide) ?_
        have hq := Option.some.inj hf
        subst hq
        exact aw_zret hr (by decide) dX6_isSure_37 ⟨rfl, rfl, rfl⟩
def f_X6_isSure (l0 : Nat) (l1 : Nat) (l2 : Int32) (h0 : Hp) : Option (Int32 × Hp) :=
  (ck h0 l0 6).bind fun _ => (f_X6_pointsOf l0 l1 l2 h0).bind fun q1 => lp (f_X6_isSure_10) 600 (l0, l1, l2, q1.1, (0 : Int32)) q1.2
set_option maxRecDepth 100000 in
set_option maxHeartbeats 4000000 in
theorem c_X6_isSure {l0 : Nat} {l1 : Nat} {l2 : Int32} {h0 : Hp} {q : Int32 × Hp} (hf : f_X6_isSure l0 l1 l2 h0 = some q) : Mt 5 yX6_isSure cX6_isSure 5 (some .boolean) [.ref l0, .ref l1, .int l2] h0 (some (.int q.1)) q.2 := by
  refine MtQ.of (by decide) (Nat.le_of_ble_eq_true rfl) (fun X adr hr hn => ?_)
  unfold f_X6_isSure at hf
  show AW X cX6_isSure 5 RX6 (rmd 5 0 0) (Qmet X 0 0 (Qe (some (.int q.1)) q.2 adr)) 0 0 adr h0 0 [(0, .ref l0), (1, .ref l1), (2, .int l2)] []
  obtain ⟨u0, e0, hf⟩ := b_some hf
  refine aw_aload_n 0 dX6_isSure_0 rfl rfl ?_
  refine aw_aload_n 1 dX6_isSure_1 rfl rfl ?_
  refine aw_iload_n 2 dX6_isSure_2 rfl rfl ?_
  obtain ⟨q1, eq1, hf⟩ := b_some hf
  refine aw_cV (as := [.ref l1, .int l2]) dX6_isSure_3 moX6_pointsOf voX6_pointsOf mlX6_112 (k_X6_pointsOf eq1) rfl (rm_ok (by omega) (by decide)) ⟨Nat.le_refl _, Nat.le_refl _⟩ (Nat.le_of_ble_eq_true rfl) rfl (c_X6_pointsOf eq1) ?_
  refine aw_istore_n (L' := [(3, .int q1.1), (0, .ref l0), (1, .ref l1), (2, .int l2)]) dX6_isSure_6 rfl (by decide) rfl ?_
  refine aw_iconst (v := 0) dX6_isSure_7 (by decide) ?_
  refine aw_istore (L' := [(4, .int (0 : Int32)), (3, .int q1.1), (0, .ref l0), (1, .ref l1), (2, .int l2)]) dX6_isSure_8 (by decide) rfl ?_
  exact aw_sub [2, 3, 4, 1, 0] rfl (c_X6_isSure_10 hr 600 _ _ hf)
theorem k_X6_isSure {l0 : Nat} {l1 : Nat} {l2 : Int32} {h0 : Hp} {q : Int32 × Hp} (hf : f_X6_isSure l0 l1 l2 h0 = some q) : ck h0 l0 6 = some () := by
  unfold f_X6_isSure at hf
  obtain ⟨u0, e0, hf⟩ := b_some hf
  exact e0
theorem dX6_isSystem_0 : decode cX6_isSystem 0 = .ok (.iload_n 0, 1) := by decide +kernel
theorem dX6_isSystem_1 : decode cX6_isSystem 1 = .ok (.ifCond .lt 12, 3) := by decide +kernel
theorem dX6_isSystem_4 : decode cX6_isSystem 4 = .ok (.iload_n 0, 1) := by decide +kernel
theorem dX6_isSystem_5 : decode cX6_isSystem 5 = .ok (.iconst 2, 1) := by decide +kernel
theorem dX6_isSystem_6 : decode cX6_isSystem 6 = .ok (.if_icmp .gt 7, 3) := by decide +kernel
theorem dX6_isSystem_9 : decode cX6_isSystem 9 = .ok (.iconst 1, 1) := by decide +kernel
theorem dX6_isSystem_10 : decode cX6_isSystem 10 = .ok (.goto 4, 3) := by decide +kernel
theorem dX6_isSystem_13 : decode cX6_isSystem 13 = .ok (.iconst 0, 1) := by decide +kernel
theorem dX6_isSystem_14 : decode cX6_isSystem 14 = .ok (.ireturn, 1) := by decide +kernel
def f_X6_isSystem (l0 : Int32) (h0 : Hp) : Option (Int32 × Hp) :=
  if l0 < 0 then (some ((0 : Int32), h0)) else (if (2 : Int32) < l0 then (some ((0 : Int32), h0)) else (some ((1 : Int32), h0)))
set_option maxRecDepth 100000 in
set_option maxHeartbeats 4000000 in
theorem c_X6_isSystem {l0 : Int32} {h0 : Hp} {q : Int32 × Hp} (hf : f_X6_isSystem l0 h0 = some q) : Mt 1 yX6_isSystem cX6_isSystem 1 (some .boolean) [.int l0] h0 (some (.int q.1)) q.2 := by
  refine MtQ.of (by decide) (Nat.le_of_ble_eq_true rfl) (fun X adr hr hn => ?_)
  unfold f_X6_isSystem at hf
  show AW X cX6_isSystem 1 RX6 (rmd 1 0 0) (Qmet X 0 0 (Qe (some (.int q.1)) q.2 adr)) 0 0 adr h0 0 [(0, .int l0)] []
  refine aw_iload_n 0 dX6_isSystem_0 rfl rfl ?_
  refine aw_if_lt (tgt := 13) dX6_isSystem_1 (by decide) (fun c1 => ?_) (fun c1 => ?_)
  · have hf := i_pos c1 hf
    refine aw_iconst (v := 0) dX6_isSystem_13 (by decide) ?_
    have hq := Option.some.inj hf
    subst hq
    exact aw_zret hr (by decide) dX6_isSystem_14 ⟨rfl, rfl, rfl⟩
  · have hf := i_neg c1 hf
    refine aw_iload_n 0 dX6_isSystem_4 rfl rfl ?_
    refine aw_iconst (v := 2) dX6_isSystem_5 (by decide) ?_
    refine aw_icmp_gt (tgt := 13) dX6_isSystem_6 (by decide) (fun c2 => ?_) (fun c2 => ?_)
    · have hf := i_pos c2 hf
      refine aw_iconst (v := 0) dX6_isSystem_13 (by decide) ?_
      have hq := Option.some.inj hf
      subst hq
      exact aw_zret hr (by decide) dX6_isSystem_14 ⟨rfl, rfl, rfl⟩
    · have hf := i_neg c2 hf
      refine aw_iconst (v := 1) dX6_isSystem_9 (by decide) ?_
      refine aw_goto (tgt := 14) dX6_isSystem_10 (by decide) ?_
      have hq := Option.some.inj hf
      subst hq
      exact aw_zret hr (by decide) dX6_isSystem_14 ⟨rfl, rfl, rfl⟩
theorem dX6_load_0 : decode cX6_load 0 = .ok (.iload_n 1, 1) := by decide +kernel
theorem dX6_load_1 : decode cX6_load 1 = .ok (.invokestatic 227, 3) := by decide +kernel
theorem dX6_load_4 : decode cX6_load 4 = .ok (.ifCond .eq 22, 3) := by decide +kernel
theorem dX6_load_7 : decode cX6_load 7 = .ok (.iload_n 2, 1) := by decide +kernel
theorem dX6_load_8 : decode cX6_load 8 = .ok (.invokestatic 245, 3) := by decide +kernel
theorem dX6_load_11 : decode cX6_load 11 = .ok (.ifCond .eq 15, 3) := by decide +kernel
theorem dX6_load_14 : decode cX6_load 14 = .ok (.iload 4, 2) := by decide +kernel
theorem dX6_load_16 : decode cX6_load 16 = .ok (.ifCond .lt 10, 3) := by decide +kernel
theorem dX6_load_19 : decode cX6_load 19 = .ok (.iload 4, 2) := by decide +kernel
theorem dX6_load_21 : decode cX6_load 21 = .ok (.bipush 9, 2) := by decide +kernel
theorem dX6_load_23 : decode cX6_load 23 = .ok (.if_icmp .le 6, 3) := by decide +kernel
theorem dX6_load_26 : decode cX6_load 26 = .ok (.bipush (-2), 2) := by decide +kernel
theorem dX6_load_28 : decode cX6_load 28 = .ok (.ireturn, 1) := by decide +kernel
theorem dX6_load_29 : decode cX6_load 29 = .ok (.aload_n 0, 1) := by decide +kernel
theorem dX6_load_30 : decode cX6_load 30 = .ok (.getfield 56, 3) := by decide +kernel
theorem dX6_load_33 : decode cX6_load 33 = .ok (.iload_n 1, 1) := by decide +kernel
theorem dX6_load_34 : decode cX6_load 34 = .ok (.aaload, 1) := by decide +kernel
theorem dX6_load_35 : decode cX6_load 35 = .ok (.astore 5, 2) := by decide +kernel
theorem dX6_load_37 : decode cX6_load 37 = .ok (.aload 5, 2) := by decide +kernel
theorem dX6_load_39 : decode cX6_load 39 = .ok (.invokevirtual 230, 3) := by decide +kernel
theorem dX6_load_42 : decode cX6_load 42 = .ok (.ifCond .ne 15, 3) := by decide +kernel
theorem dX6_load_45 : decode cX6_load 45 = .ok (.aload 5, 2) := by decide +kernel
theorem dX6_load_47 : decode cX6_load 47 = .ok (.getfield 248, 3) := by decide +kernel
theorem dX6_load_50 : decode cX6_load 50 = .ok (.iload_n 2, 1) := by decide +kernel
theorem dX6_load_51 : decode cX6_load 51 = .ok (.if_icmp .eq 6, 3) := by decide +kernel
theorem dX6_load_54 : decode cX6_load 54 = .ok (.bipush (-13), 2) := by decide +kernel
theorem dX6_load_56 : decode cX6_load 56 = .ok (.ireturn, 1) := by decide +kernel
theorem dX6_load_57 : decode cX6_load 57 = .ok (.aload 5, 2) := by decide +kernel
theorem dX6_load_59 : decode cX6_load 59 = .ok (.invokevirtual 230, 3) := by decide +kernel
theorem dX6_load_62 : decode cX6_load 62 = .ok (.ifCond .eq 6, 3) := by decide +kernel
theorem dX6_load_65 : decode cX6_load 65 = .ok (.bipush (-11), 2) := by decide +kernel
theorem dX6_load_67 : decode cX6_load 67 = .ok (.ireturn, 1) := by decide +kernel
theorem dX6_load_68 : decode cX6_load 68 = .ok (.iconst 0, 1) := by decide +kernel
theorem dX6_load_69 : decode cX6_load 69 = .ok (.istore 6, 2) := by decide +kernel
theorem dX6_load_71 : decode cX6_load 71 = .ok (.iconst 0, 1) := by decide +kernel
theorem dX6_load_72 : decode cX6_load 72 = .ok (.istore 7, 2) := by decide +kernel
theorem dX6_load_74 : decode cX6_load 74 = .ok (.iload 7, 2) := by decide +kernel
theorem dX6_load_76 : decode cX6_load 76 = .ok (.iload 4, 2) := by decide +kernel
theorem dX6_load_78 : decode cX6_load 78 = .ok (.if_icmp .ge 73, 3) := by decide +kernel
theorem dX6_load_81 : decode cX6_load 81 = .ok (.iload_n 3, 1) := by decide +kernel
theorem dX6_load_82 : decode cX6_load 82 = .ok (.iconst 3, 1) := by decide +kernel
theorem dX6_load_83 : decode cX6_load 83 = .ok (.iload 7, 2) := by decide +kernel
theorem dX6_load_85 : decode cX6_load 85 = .ok (.imul, 1) := by decide +kernel
theorem dX6_load_86 : decode cX6_load 86 = .ok (.iadd, 1) := by decide +kernel
theorem dX6_load_87 : decode cX6_load 87 = .ok (.istore 8, 2) := by decide +kernel
theorem dX6_load_89 : decode cX6_load 89 = .ok (.aload 5, 2) := by decide +kernel
theorem dX6_load_91 : decode cX6_load 91 = .ok (.iload 8, 2) := by decide +kernel
theorem dX6_load_93 : decode cX6_load 93 = .ok (.iconst 3, 1) := by decide +kernel
theorem dX6_load_94 : decode cX6_load 94 = .ok (.invokevirtual 251, 3) := by decide +kernel
theorem dX6_load_97 : decode cX6_load 97 = .ok (.ifCond .ne 6, 3) := by decide +kernel
theorem dX6_load_100 : decode cX6_load 100 = .ok (.bipush (-12), 2) := by decide +kernel
theorem dX6_load_102 : decode cX6_load 102 = .ok (.ireturn, 1) := by decide +kernel
theorem dX6_load_103 : decode cX6_load 103 = .ok (.aload_n 0, 1) := by decide +kernel
theorem dX6_load_104 : decode cX6_load 104 = .ok (.getfield 19, 3) := by decide +kernel
theorem dX6_load_107 : decode cX6_load 107 = .ok (.aload 5, 2) := by decide +kernel
theorem dX6_load_109 : decode cX6_load 109 = .ok (.getfield 234, 3) := by decide +kernel
theorem dX6_load_112 : decode cX6_load 112 = .ok (.iload 8, 2) := by decide +kernel
theorem dX6_load_114 : decode cX6_load 114 = .ok (.iaload, 1) := by decide +kernel
theorem dX6_load_115 : decode cX6_load 115 = .ok (.aload 5, 2) := by decide +kernel
theorem dX6_load_117 : decode cX6_load 117 = .ok (.getfield 234, 3) := by decide +kernel
theorem dX6_load_120 : decode cX6_load 120 = .ok (.iload 8, 2) := by decide +kernel
theorem dX6_load_122 : decode cX6_load 122 = .ok (.iconst 1, 1) := by decide +kernel
theorem dX6_load_123 : decode cX6_load 123 = .ok (.iadd, 1) := by decide +kernel
theorem dX6_load_124 : decode cX6_load 124 = .ok (.iaload, 1) := by decide +kernel
theorem dX6_load_125 : decode cX6_load 125 = .ok (.aload 5, 2) := by decide +kernel
theorem dX6_load_127 : decode cX6_load 127 = .ok (.getfield 234, 3) := by decide +kernel
theorem dX6_load_130 : decode cX6_load 130 = .ok (.iload 8, 2) := by decide +kernel
theorem dX6_load_132 : decode cX6_load 132 = .ok (.iconst 2, 1) := by decide +kernel
theorem dX6_load_133 : decode cX6_load 133 = .ok (.iadd, 1) := by decide +kernel
theorem dX6_load_134 : decode cX6_load 134 = .ok (.iaload, 1) := by decide +kernel
theorem dX6_load_135 : decode cX6_load 135 = .ok (.invokevirtual 260, 3) := by decide +kernel
theorem dX6_load_138 : decode cX6_load 138 = .ok (.iconst (-1), 1) := by decide +kernel
theorem dX6_load_139 : decode cX6_load 139 = .ok (.if_icmp .eq 6, 3) := by decide +kernel
theorem dX6_load_142 : decode cX6_load 142 = .ok (.iinc 6 1, 3) := by decide +kernel
theorem dX6_load_145 : decode cX6_load 145 = .ok (.iinc 7 1, 3) := by decide +kernel
theorem dX6_load_148 : decode cX6_load 148 = .ok (.goto (-74), 3) := by decide +kernel
theorem dX6_load_151 : decode cX6_load 151 = .ok (.iload 6, 2) := by decide +kernel
theorem dX6_load_153 : decode cX6_load 153 = .ok (.ireturn, 1) := by decide +kernel
def f_X6_load_74 (k74 : Nat × Int32 × Int32 × Nat × Int32 × Int32 → Hp → Option (Int32 × Hp)) (v : Nat × Int32 × Int32 × Nat × Int32 × Int32) (h0 : Hp) : Option (Int32 × Hp) :=
  match v with
  | (l0, l3, l4, l5, l6, l7) => if l4 ≤ l7 then (some (l6, h0)) else ((some (l3 + ((3 : Int32) * l7))).bind fun x2 => (f_X2_holds l5 x2 (3 : Int32) h0).bind fun q3 => if q3.1 = 0 then (some ((-12 : Int32), q3.2)) else ((gR q3.2 l0 6 1).bind fun r5 => (gR q3.2 l5 2 0).bind fun r6 => (aL q3.2 r6 x2).bind fun x7 => (gR q3.2 l5 2 0).bind fun r8 => (aL q3.2 r8 (x2 + (1 : Int32))).bind fun x9 => (gR q3.2 l5 2 0).bind fun r10 => (aL q3.2 r10 (x2 + (2 : Int32))).bind fun x11 => (f_X0_addGame r5 x7 x9 x11 q3.2).bind fun q12 => if q12.1 = (-1 : Int32) then ((some (l7 + 1)).bind fun x14 => k74 (l0, l3, l4, l5, l6, x14) q12.2) else ((some (l6 + 1)).bind fun x15 => (some (l7 + 1)).bind fun x16 => k74 (l0, l3, l4, l5, x15, x16) q12.2)))
set_option maxRecDepth 100000 in
set_option maxHeartbeats 4000000 in
theorem c_X6_load_74 {X : Cx} {adr : Nat → Nat} {q : Int32 × Hp} (hr : (mth X).sig.returnType = (some .int)) (n : Nat) : ∀ v h0, lp (f_X6_load_74) n v h0 = some q → AW X cX6_load 9 RX6 (rmd 3 0 0) (Qmet X 0 0 (Qe (some (.int q.1)) q.2 adr)) 0 0 adr h0 74 [(0, .ref v.1), (3, .int v.2.1), (4, .int v.2.2.1), (5, .ref v.2.2.2.1), (6, .int v.2.2.2.2.1), (7, .int v.2.2.2.2.2)] [] := by
  refine aw_lp (fun k74 hk74 v h0 hf => ?_) n
  obtain ⟨l0, l3, l4, l5, l6, l7⟩ := v
  unfold f_X6_load_74 at hf
  dsimp only at hf
  show AW X cX6_load 9 RX6 (rmd 3 0 0) (Qmet X 0 0 (Qe (some (.int q.1)) q.2 adr)) 0 0 adr h0 74 [(0, .ref l0), (3, .int l3), (4, .int l4), (5, .ref l5), (6, .int l6), (7, .int l7)] []
  refine aw_iload 5 dX6_load_74 rfl ?_
  refine aw_iload 2 dX6_load_76 rfl ?_
  refine aw_icmp_ge (tgt := 151) dX6_load_78 (by decide) (fun c1 => ?_) (fun c1 => ?_)
  · have hf := i_pos c1 hf
    refine aw_iload 4 dX6_load_151 rfl ?_
    have hq := Option.some.inj hf
    subst hq
    exact aw_iret hr dX6_load_153 ⟨rfl, rfl, rfl⟩
  · have hf := i_neg c1 hf
    refine aw_iload_n 1 dX6_load_81 rfl rfl ?_
    refine aw_iconst (v := 3) dX6_load_82 (by decide) ?_
    refine aw_iload 5 dX6_load_83 rfl ?_
    refine aw_imul dX6_load_85 ?_
    refine aw_iadd dX6_load_86 ?_
    obtain ⟨x2, ex2, hf⟩ := b_some hf
    refine aw_nm ex2 ?_
    refine aw_istore (L' := [(8, .int x2), (0, .ref l0), (3, .int l3), (4, .int l4), (5, .ref l5), (6, .int l6), (7, .int l7)]) dX6_load_87 (by decide) rfl ?_
    refine aw_aload 4 dX6_load_89 rfl ?_
    refine aw_iload 0 dX6_load_91 rfl ?_
    refine aw_iconst (v := 3) dX6_load_93 (by decide) ?_
    obtain ⟨q3, eq3, hf⟩ := b_some hf
    refine aw_cV (as := [.int x2, .int (3 : Int32)]) dX6_load_94 moX2_holds voX2_holds mlX6_251 (k_X2_holds eq3) rfl (rm_ok (by omega) (by decide)) ⟨Nat.le_refl _, Nat.le_refl _⟩ (Nat.le_of_ble_eq_true rfl) rfl (c_X2_holds eq3) ?_
    refine aw_if_ne (tgt := 103) dX6_load_97 (by decide) (fun c4 => ?_) (fun c4 => ?_)
    · have hf := i_neg c4 hf
      refine aw_aload_n 1 dX6_load_103 rfl rfl ?_
      obtain ⟨r5, er5, hf⟩ := b_some hf
      refine aw_getR dX6_load_104 gfX6_19 er5 ?_
      refine aw_aload 4 dX6_load_107 rfl ?_
      obtain ⟨r6, er6, hf⟩ := b_some hf
      refine aw_getR dX6_load_109 gfX6_234 er6 ?_
      refine aw_iload 0 dX6_load_112 rfl ?_
      obtain ⟨x7, ex7, hf⟩ := b_some hf
      refine aw_iald dX6_load_114 ex7 ?_
      refine aw_aload 4 dX6_load_115 rfl ?_
      obtain ⟨r8, er8, hf⟩ := b_some hf
      refine aw_getR dX6_load_117 gfX6_234 er8 ?_
      refine aw_iload 0 dX6_load_120 rfl ?_
      refine aw_iconst (v := 1) dX6_load_122 (by decide) ?_
      refine aw_iadd dX6_load_123 ?_
      obtain ⟨x9, ex9, hf⟩ := b_some hf
      refine aw_iald dX6_load_124 ex9 ?_
      refine aw_aload 4 dX6_load_125 rfl ?_
      obtain ⟨r10, er10, hf⟩ := b_some hf
      refine aw_getR dX6_load_127 gfX6_234 er10 ?_
      refine aw_iload 0 dX6_load_130 rfl ?_
      refine aw_iconst (v := 2) dX6_load_132 (by decide) ?_
      refine aw_iadd dX6_load_133 ?_
      obtain ⟨x11, ex11, hf⟩ := b_some hf
      refine aw_iald dX6_load_134 ex11 ?_
      obtain ⟨q12, eq12, hf⟩ := b_some hf
      refine aw_cV (as := [.int x7, .int x9, .int x11]) dX6_load_135 moX0_addGame voX0_addGame mlX6_260 (k_X0_addGame eq12) rfl (rm_ok (by omega) (by decide)) ⟨Nat.le_refl _, Nat.le_refl _⟩ (Nat.le_of_ble_eq_true rfl) rfl (c_X0_addGame eq12) ?_
      refine aw_iconst (v := -1) dX6_load_138 (by decide) ?_
      refine aw_icmp_eq (tgt := 145) dX6_load_139 (by decide) (fun c13 => ?_) (fun c13 => ?_)
      · have hf := i_pos c13 hf
        obtain ⟨x14, ex14, hf⟩ := b_some hf
        refine aw_iinc (v := x14) (L' := [(7, .int x14), (8, .int x2), (0, .ref l0), (3, .int l3), (4, .int l4), (5, .ref l5), (6, .int l6)]) 6 dX6_load_145 rfl (Option.some.inj ex14) (by decide) rfl ?_
        refine aw_goto (tgt := 74) dX6_load_148 (by decide) ?_
        exact aw_sub [2, 3, 4, 5, 6, 0] rfl (hk74 _ _ hf)
      · have hf := i_neg c13 hf
        obtain ⟨x15, ex15, hf⟩ := b_some hf
        refine aw_iinc (v := x15) (L' := [(6, .int x15), (8, .int x2), (0, .ref l0), (3, .int l3), (4, .int l4), (5, .ref l5), (7, .int l7)]) 5 dX6_load_142 rfl (Option.some.inj ex15) (by decide) rfl ?_
        obtain ⟨x16, ex16, hf⟩ := b_some hf
        refine aw_iinc (v := x16) (L' := [(7, .int x16), (6, .int x15), (8, .int x2), (0, .ref l0), (3, .int l3), (4, .int l4), (5, .ref l5)]) 6 dX6_load_145 rfl (Option.some.inj ex16) (by decide) rfl ?_
        refine aw_goto (tgt := 74) dX6_load_148 (by decide) ?_
        exact aw_sub [3, 4, 5, 6, 1, 0] rfl (hk74 _ _ hf)
    · have hf := i_pos c4 hf
      refine aw_bipush (v := -12) dX6_load_100 (by decide) ?_
      have hq := Option.some.inj hf
      subst hq
      exact aw_iret hr dX6_load_102 ⟨rfl, rfl, rfl⟩
def f_X6_load_57 (l0 : Nat) (l3 : Int32) (l4 : Int32) (l5 : Nat) (h0 : Hp) : Option (Int32 × Hp) :=
  (f_X2_isMissing l5 h0).bind fun q1 => if q1.1 = 0 then (lp (f_X6_load_74) 600 (l0, l3, l4, l5, (0 : Int32), (0 : Int32)) q1.2) else (some ((-11 : Int32), q1.2))
set_option maxRecDepth 100000 in
set_option maxHeartbeats 4000000 in
theorem c_X6_load_57 {X : Cx} {adr : Nat → Nat} {q : Int32 × Hp} (hr : (mth X).sig.returnType = (some .int)) {l0 : Nat} {l3 : Int32} {l4 : Int32} {l5 : Nat} {h0 : Hp} (hf : f_X6_load_57 l0 l3 l4 l5 h0 = some q) : AW X cX6_load 9 RX6 (rmd 3 0 0) (Qmet X 0 0 (Qe (some (.int q.1)) q.2 adr)) 0 0 adr h0 57 [(0, .ref l0), (3, .int l3), (4, .int l4), (5, .ref l5)] [] := by
  unfold f_X6_load_57 at hf
  refine aw_aload 3 dX6_load_57 rfl ?_
  obtain ⟨q1, eq1, hf⟩ := b_some hf
  refine aw_cV (as := []) dX6_load_59 moX2_isMissing voX2_isMissing mlX6_230 (k_X2_isMissing eq1) rfl (rm_ok (by omega) (by decide)) ⟨Nat.le_refl _, Nat.le_refl _⟩ (Nat.le_of_ble_eq_true rfl) rfl (c_X2_isMissing eq1) ?_
  refine aw_if_eq (tgt := 68) dX6_load_62 (by decide) (fun c2 => ?_) (fun c2 => ?_)
  · have hf := i_pos c2 hf
    refine aw_iconst (v := 0) dX6_load_68 (by decide) ?_
    refine aw_istore (L' := [(6, .int (0 : Int32)), (0, .ref l0), (3, .int l3), (4, .int l4), (5, .ref l5)]) dX6_load_69 (by decide) rfl ?_
    refine aw_iconst (v := 0) dX6_load_71 (by decide) ?_
    refine aw_istore (L' := [(7, .int (0 : Int32)), (6, .int (0 : Int32)), (0, .ref l0), (3, .int l3), (4, .int l4), (5, .ref l5)]) dX6_load_72 (by decide) rfl ?_
    exact aw_sub [2, 3, 4, 5, 1, 0] rfl (c_X6_load_74 hr 600 _ _ hf)
  · have hf := i_neg c2 hf
    refine aw_bipush (v := -11) dX6_load_65 (by decide) ?_
    have hq := Option.some.inj hf
    subst hq
    exact aw_iret hr dX6_load_67 ⟨rfl, rfl, rfl⟩
def f_X6_load (l0 : Nat) (l1 : Int32) (l2 : Int32) (l3 : Int32) (l4 : Int32) (h0 : Hp) : Option (Int32 × Hp) :=
  (ck h0 l0 6).bind fun _ => (f_X6_isSheet l1 h0).bind fun q1 => if q1.1 = 0 then (some ((-2 : Int32), q1.2)) else ((f_X6_isSort l2 q1.2).bind fun q3 => if q3.1 = 0 then (some ((-2 : Int32), q3.2)) else (if l4 < 0 then (some ((-2 : Int32), q3.2)) else (if l4 ≤ (9 : Int32) then ((gR q3.2 l0 6 7).bind fun r7 => (qL q3.2 r7 l1).bind fun r8 => (f_X2_isMissing r8 q3.2).bind fun q9 => if q9.1 = 0 then ((gI q9.2 r8 2 1).bind fun x11 => if x11 = l2 then (f_X6_load_57 l0 l3 l4 r8 q9.2) else (some ((-13 : Int32), q9.2))) else (f_X6_load_57 l0 l3 l4 r8 q9.2)) else (some ((-2 : Int32), q3.2)))))
set_option maxRecDepth 100000 in
set_option maxHeartbeats 4000000 in
theorem c_X6_load {l0 : Nat} {l1 : Int32} {l2 : Int32} {l3 : Int32} {l4 : Int32} {h0 : Hp} {q : Int32 × Hp} (hf : f_X6_load l0 l1 l2 l3 l4 h0 = some q) : Mt 3 yX6_load cX6_load 9 (some .int) [.ref l0, .int l1, .int l2, .int l3, .int l4] h0 (some (.int q.1)) q.2 := by
  refine MtQ.of (by decide) (Nat.le_of_ble_eq_true rfl) (fun X adr hr hn => ?_)
  unfold f_X6_load at hf
  show AW X cX6_load 9 RX6 (rmd 3 0 0) (Qmet X 0 0 (Qe (some (.int q.1)) q.2 adr)) 0 0 adr h0 0 [(0, .ref l0), (1, .int l1), (2, .int l2), (3, .int l3), (4, .int l4)] []
  obtain ⟨u0, e0, hf⟩ := b_some hf
  refine aw_iload_n 1 dX6_load_0 rfl rfl ?_
  obtain ⟨q1, eq1, hf⟩ := b_some hf
  refine aw_cS (as := [.int l1]) dX6_load_1 moX6_isSheet soX6_isSheet mlX6_227 (rm_ok (by omega) (by decide)) ⟨Nat.le_refl _, Nat.le_refl _⟩ (Nat.le_of_ble_eq_true rfl) rfl (c_X6_isSheet eq1) ?_
  refine aw_if_eq (tgt := 26) dX6_load_4 (by decide) (fun c2 => ?_) (fun c2 => ?_)
  · have hf := i_pos c2 hf
    refine aw_bipush (v := -2) dX6_load_26 (by decide) ?_
    have hq := Option.some.inj hf
    subst hq
    exact aw_iret hr dX6_load_28 ⟨rfl, rfl, rfl⟩
  · have hf := i_neg c2 hf
    refine aw_iload_n 2 dX6_load_7 rfl rfl ?_
    obtain ⟨q3, eq3, hf⟩ := b_some hf
    refine aw_cS (as := [.int l2]) dX6_load_8 moX6_isSort soX6_isSort mlX6_245 (rm_ok (by omega) (by decide)) ⟨Nat.le_refl _, Nat.le_refl _⟩ (Nat.le_of_ble_eq_true rfl) rfl (c_X6_isSort eq3) ?_
    refine aw_if_eq (tgt := 26) dX6_load_11 (by decide) (fun c4 => ?_) (fun c4 => ?_)
    · have hf := i_pos c4 hf
      refine aw_bipush (v := -2) dX6_load_26 (by decide) ?_
      have hq := Option.some.inj hf
      subst hq
      exact aw_iret hr dX6_load_28 ⟨rfl, rfl, rfl⟩
    · have hf := i_neg c4 hf
      refine aw_iload 4 dX6_load_14 rfl ?_
      refine aw_if_lt (tgt := 26) dX6_load_16 (by decide) (fun c5 => ?_) (fun c5 => ?_)
      · have hf := i_pos c5 hf
        refine aw_bipush (v := -2) dX6_load_26 (by decide) ?_
        have hq := Option.some.inj hf
        subst hq
        exact aw_iret hr dX6_load_28 ⟨rfl, rfl, rfl⟩
      · have hf := i_neg c5 hf
        refine aw_iload 4 dX6_load_19 rfl ?_
        refine aw_bipush (v := 9) dX6_load_21 (by decide) ?_
        refine aw_icmp_le (tgt := 29) dX6_load_23 (by decide) (fun c6 => ?_) (fun c6 => ?_)
        · have hf := i_pos c6 hf
          refine aw_aload_n 0 dX6_load_29 rfl rfl ?_
          obtain ⟨r7, er7, hf⟩ := b_some hf
          refine aw_getR dX6_load_30 gfX6_56 er7 ?_
          refine aw_iload_n 1 dX6_load_33 rfl rfl ?_
          obtain ⟨r8, er8, hf⟩ := b_some hf
          refine aw_aald dX6_load_34 er8 ?_
          refine aw_astore (L' := [(5, .ref r8), (0, .ref l0), (1, .int l1), (2, .int l2), (3, .int l3), (4, .int l4)]) dX6_load_35 (by decide) rfl ?_
          refine aw_aload 0 dX6_load_37 rfl ?_
          obtain ⟨q9, eq9, hf⟩ := b_some hf
          refine aw_cV (as := []) dX6_load_39 moX2_isMissing voX2_isMissing mlX6_230 (k_X2_isMissing eq9) rfl (rm_ok (by omega) (by decide)) ⟨Nat.le_refl _, Nat.le_refl _⟩ (Nat.le_of_ble_eq_true rfl) rfl (c_X2_isMissing eq9) ?_
          refine aw_if_ne (tgt := 57) dX6_load_42 (by decide) (fun c10 => ?_) (fun c10 => ?_)
          · have hf := i_neg c10 hf
            exact aw_sub [1, 4, 5, 0] rfl (c_X6_load_57 hr hf)
          · have hf := i_pos c10 hf
            refine aw_aload 0 dX6_load_45 rfl ?_
            obtain ⟨x11, ex11, hf⟩ := b_some hf
            refine aw_getI dX6_load_47 gfX6_248 ex11 ?_
            refine aw_iload_n 3 dX6_load_50 rfl rfl ?_
            refine aw_icmp_eq (tgt := 57) dX6_load_51 (by decide) (fun c12 => ?_) (fun c12 => ?_)
            · have hf := i_pos c12 hf
              exact aw_sub [1, 4, 5, 0] rfl (c_X6_load_57 hr hf)
            · have hf := i_neg c12 hf
              refine aw_bipush (v := -13) dX6_load_54 (by decide) ?_
              have hq := Option.some.inj hf
              subst hq
              exact aw_iret hr dX6_load_56 ⟨rfl, rfl, rfl⟩
        · have hf := i_neg c6 hf
          refine aw_bipush (v := -2) dX6_load_26 (by decide) ?_
          have hq := Option.some.inj hf
          subst hq
          exact aw_iret hr dX6_load_28 ⟨rfl, rfl, rfl⟩
theorem k_X6_load {l0 : Nat} {l1 : Int32} {l2 : Int32} {l3 : Int32} {l4 : Int32} {h0 : Hp} {q : Int32 × Hp} (hf : f_X6_load l0 l1 l2 l3 l4 h0 = some q) : ck h0 l0 6 = some () := by
  unfold f_X6_load at hf
  obtain ⟨u0, e0, hf⟩ := b_some hf
  exact e0
theorem dX6_named_0 : decode cX6_named 0 = .ok (.aload_n 0, 1) := by decide +kernel
theorem dX6_named_1 : decode cX6_named 1 = .ok (.getfield 19, 3) := by decide +kernel
theorem dX6_named_4 : decode cX6_named 4 = .ok (.aload_n 0, 1) := by decide +kernel
theorem dX6_named_5 : decode cX6_named 5 = .ok (.getfield 10, 3) := by decide +kernel
theorem dX6_named_8 : decode cX6_named 8 = .ok (.getfield 80, 3) := by decide +kernel
theorem dX6_named_11 : decode cX6_named 11 = .ok (.iconst 0, 1) := by decide +kernel
theorem dX6_named_12 : decode cX6_named 12 = .ok (.aload_n 0, 1) := by decide +kernel
theorem dX6_named_13 : decode cX6_named 13 = .ok (.getfield 10, 3) := by decide +kernel
theorem dX6_named_16 : decode cX6_named 16 = .ok (.getfield 65, 3) := by decide +kernel
theorem dX6_named_19 : decode cX6_named 19 = .ok (.invokevirtual 83, 3) := by decide +kernel
theorem dX6_named_22 : decode cX6_named 22 = .ok (.istore_n 1, 1) := by decide +kernel
theorem dX6_named_23 : decode cX6_named 23 = .ok (.aload_n 0, 1) := by decide +kernel
theorem dX6_named_24 : decode cX6_named 24 = .ok (.getfield 10, 3) := by decide +kernel
theorem dX6_named_27 : decode cX6_named 27 = .ok (.invokevirtual 77, 3) := by decide +kernel
theorem dX6_named_30 : decode cX6_named 30 = .ok (.iload_n 1, 1) := by decide +kernel
theorem dX6_named_31 : decode cX6_named 31 = .ok (.ireturn, 1) := by decide +kernel
def f_X6_named (l0 : Nat) (h0 : Hp) : Option (Int32 × Hp) :=
  (ck h0 l0 6).bind fun _ => (gR h0 l0 6 1).bind fun r1 => (gR h0 l0 6 0).bind fun r2 => (gR h0 r2 4 0).bind fun r3 => (gR h0 l0 6 0).bind fun r4 => (gI h0 r4 4 1).bind fun x5 => (f_X0_whose r1 r3 (0 : Int32) x5 h0).bind fun q6 => (gR q6.2 l0 6 0).bind fun r7 => (f_X4_clear r7 q6.2).bind fun q8 => some (q6.1, q8.2)
set_option maxRecDepth 100000 in
set_option maxHeartbeats 4000000 in
theorem c_X6_named {l0 : Nat} {h0 : Hp} {q : Int32 × Hp} (hf : f_X6_named l0 h0 = some q) : Mt 3 yX6_named cX6_named 2 (some .int) [.ref l0] h0 (some (.int q.1)) q.2 := by
  refine MtQ.of (by decide) (Nat.le_of_ble_eq_true rfl) (fun X adr hr hn => ?_)
  unfold f_X6_named at hf
  show AW X cX6_named 2 RX6 (rmd 3 0 0) (Qmet X 0 0 (Qe (some (.int q.1)) q.2 adr)) 0 0 adr h0 0 [(0, .ref l0)] []
  obtain ⟨u0, e0, hf⟩ := b_some hf
  refine aw_aload_n 0 dX6_named_0 rfl rfl ?_
  obtain ⟨r1, er1, hf⟩ := b_some hf
  refine aw_getR dX6_named_1 gfX6_19 er1 ?_
  refine aw_aload_n 0 dX6_named_4 rfl rfl ?_
  obtain ⟨r2, er2, hf⟩ := b_some hf
  refine aw_getR dX6_named_5 gfX6_10 er2 ?_
  obtain ⟨r3, er3, hf⟩ := b_some hf
  refine aw_getR dX6_named_8 gfX6_80 er3 ?_
  refine aw_iconst (v := 0) dX6_named_11 (by decide) ?_
  refine aw_aload_n 0 dX6_named_12 rfl rfl ?_
  obtain ⟨r4, er4, hf⟩ := b_some hf
  refine aw_getR dX6_named_13 gfX6_10 er4 ?_
  obtain ⟨x5, ex5, hf⟩ := b_some hf
  refine aw_getI dX6_named_16 gfX6_65 ex5 ?_
  obtain ⟨q6, eq6, hf⟩ := b_some hf
  refine aw_cV (as := [.ref r3, .int (0 : Int32), .int x5]) dX6_named_19 moX0_whose voX0_whose mlX6_83 (k_X0_whose eq6) rfl (rm_ok (by omega) (by decide)) ⟨Nat.le_refl _, Nat.le_refl _⟩ (Nat.le_of_ble_eq_true rfl) rfl (c_X0_whose eq6) ?_
  refine aw_istore_n (L' := [(1, .int q6.1), (0, .ref l0)]) dX6_named_22 rfl (by decide) rfl ?_
  refine aw_aload_n 1 dX6_named_23 rfl rfl ?_
  obtain ⟨r7, er7, hf⟩ := b_some hf
  refine aw_getR dX6_named_24 gfX6_10 er7 ?_
  obtain ⟨q8, eq8, hf⟩ := b_some hf
  refine aw_cV0 (as := []) dX6_named_27 moX4_clear voX4_clear mlX6_77 (k_X4_clear eq8) rfl (rm_ok (by omega) (by decide)) ⟨Nat.le_refl _, Nat.le_refl _⟩ (Nat.le_of_ble_eq_true rfl) rfl (c_X4_clear eq8) ?_
  refine aw_iload_n 0 dX6_named_30 rfl rfl ?_
  have hq := Option.some.inj hf
  subst hq
  exact aw_iret hr dX6_named_31 ⟨rfl, rfl, rfl⟩
theorem k_X6_named {l0 : Nat} {h0 : Hp} {q : Int32 × Hp} (hf : f_X6_named l0 h0 = some q) : ck h0 l0 6 = some () := by
  unfold f_X6_named at hf
  obtain ⟨u0, e0, hf⟩ := b_some hf
  exact e0
theorem dX6_needs_0 : decode cX6_needs 0 = .ok (.aload_n 0, 1) := by decide +kernel
theorem dX6_needs_1 : decode cX6_needs 1 = .ok (.getfield 19, 3) := by decide +kernel
theorem dX6_needs_4 : decode cX6_needs 4 = .ok (.iload_n 1, 1) := by decide +kernel
theorem dX6_needs_5 : decode cX6_needs 5 = .ok (.invokevirtual 102, 3) := by decide +kernel
theorem dX6_needs_8 : decode cX6_needs 8 = .ok (.ifCond .eq 10, 3) := by decide +kernel
theorem dX6_needs_11 : decode cX6_needs 11 = .ok (.iload_n 2, 1) := by decide +kernel
theorem dX6_needs_12 : decode cX6_needs 12 = .ok (.invokestatic 152, 3) := by decide +kernel
theorem dX6_needs_15 : decode cX6_needs 15 = .ok (.ifCond .ne 6, 3) := by decide +kernel
theorem dX6_needs_18 : decode cX6_needs 18 = .ok (.bipush (-2), 2) := by decide +kernel
theorem dX6_needs_20 : decode cX6_needs 20 = .ok (.ireturn, 1) := by decide +kernel
theorem dX6_needs_21 : decode cX6_needs 21 = .ok (.aload_n 0, 1) := by decide +kernel
theorem dX6_needs_22 : decode cX6_needs 22 = .ok (.iload_n 1, 1) := by decide +kernel
theorem dX6_needs_23 : decode cX6_needs 23 = .ok (.aload_n 0, 1) := by decide +kernel
theorem dX6_needs_24 : decode cX6_needs 24 = .ok (.getfield 19, 3) := by decide +kernel
theorem dX6_needs_27 : decode cX6_needs 27 = .ok (.iload_n 1, 1) := by decide +kernel
theorem dX6_needs_28 : decode cX6_needs 28 = .ok (.invokevirtual 119, 3) := by decide +kernel
theorem dX6_needs_31 : decode cX6_needs 31 = .ok (.iconst 0, 1) := by decide +kernel
theorem dX6_needs_32 : decode cX6_needs 32 = .ok (.invokevirtual 178, 3) := by decide +kernel
theorem dX6_needs_35 : decode cX6_needs 35 = .ok (.istore_n 3, 1) := by decide +kernel
theorem dX6_needs_36 : decode cX6_needs 36 = .ok (.iload_n 2, 1) := by decide +kernel
theorem dX6_needs_37 : decode cX6_needs 37 = .ok (.ifCond .ne 15, 3) := by decide +kernel
theorem dX6_needs_40 : decode cX6_needs 40 = .ok (.iload_n 3, 1) := by decide +kernel
theorem dX6_needs_41 : decode cX6_needs 41 = .ok (.iconst (-1), 1) := by decide +kernel
theorem dX6_needs_42 : decode cX6_needs 42 = .ok (.if_icmp .eq 10, 3) := by decide +kernel
theorem dX6_needs_45 : decode cX6_needs 45 = .ok (.iload_n 3, 1) := by decide +kernel
theorem dX6_needs_46 : decode cX6_needs 46 = .ok (.invokestatic 182, 3) := by decide +kernel
theorem dX6_needs_49 : decode cX6_needs 49 = .ok (.goto 4, 3) := by decide +kernel
theorem dX6_needs_52 : decode cX6_needs 52 = .ok (.iload_n 3, 1) := by decide +kernel
theorem dX6_needs_53 : decode cX6_needs 53 = .ok (.ireturn, 1) := by decide +kernel
def f_X6_needs (l0 : Nat) (l1 : Int32) (l2 : Int32) (h0 : Hp) : Option (Int32 × Hp) :=
  (ck h0 l0 6).bind fun _ => (gR h0 l0 6 1).bind fun r1 => (f_X0_hasTeam r1 l1 h0).bind fun q2 => if q2.1 = 0 then (some ((-2 : Int32), q2.2)) else ((f_X6_isPart l2 q2.2).bind fun q4 => if q4.1 = 0 then (some ((-2 : Int32), q4.2)) else ((gR q4.2 l0 6 1).bind fun r6 => (f_X0_leftOf r6 l1 q4.2).bind fun q7 => (f_X6_fewestFor l0 l1 q7.1 (0 : Int32) q7.2).bind fun q8 => if l2 = 0 then (if q8.1 = (-1 : Int32) then (some (q8.1, q8.2)) else ((f_J6_bitCount_0f7a4 q8.1 q8.2).bind fun q11 => some (q11.1, q11.2))) else (some (q8.1, q8.2))))
set_option maxRecDepth 100000 in
set_option maxHeartbeats 4000000 in
theorem c_X6_needs {l0 : Nat} {l1 : Int32} {l2 : Int32} {h0 : Hp} {q : Int32 × Hp} (hf : f_X6_needs l0 l1 l2 h0 = some q) : Mt 29 yX6_needs cX6_needs 4 (some .int) [.ref l0, .int l1, .int l2] h0 (some (.int q.1)) q.2 := by
  refine MtQ.of (by decide) (Nat.le_of_ble_eq_true rfl) (fun X adr hr hn => ?_)
  unfold f_X6_needs at hf
  show AW X cX6_needs 4 RX6 (rmd 29 0 0) (Qmet X 0 0 (Qe (some (.int q.1)) q.2 adr)) 0 0 adr h0 0 [(0, .ref l0), (1, .int l1), (2, .int l2)] []
  obtain ⟨u0, e0, hf⟩ := b_some hf
  refine aw_aload_n 0 dX6_needs_0 rfl rfl ?_
  obtain ⟨r1, er1, hf⟩ := b_some hf
  refine aw_getR dX6_needs_1 gfX6_19 er1 ?_
  refine aw_iload_n 1 dX6_needs_4 rfl rfl ?_
  obtain ⟨q2, eq2, hf⟩ := b_some hf
  refine aw_cV (as := [.int l1]) dX6_needs_5 moX0_hasTeam voX0_hasTeam mlX6_102 (k_X0_hasTeam eq2) rfl (rm_ok (by omega) (by decide)) ⟨Nat.le_refl _, Nat.le_refl _⟩ (Nat.le_of_ble_eq_true rfl) rfl (c_X0_hasTeam eq2) ?_
  refine aw_if_eq (tgt := 18) dX6_needs_8 (by decide) (fun c3 => ?_) (fun c3 => ?_)
  · have hf := i_pos c3 hf
    refine aw_bipush (v := -2) dX6_needs_18 (by decide) ?_
    have hq := Option.some.inj hf
    subst hq
    exact aw_iret hr dX6_needs_20 ⟨rfl, rfl, rfl⟩
  · have hf := i_neg c3 hf
    refine aw_iload_n 2 dX6_needs_11 rfl rfl ?_
    obtain ⟨q4, eq4, hf⟩ := b_some hf
    refine aw_cS (as := [.int l2]) dX6_needs_12 moX6_isPart soX6_isPart mlX6_152 (rm_ok (by omega) (by decide)) ⟨Nat.le_refl _, Nat.le_refl _⟩ (Nat.le_of_ble_eq_true rfl) rfl (c_X6_isPart eq4) ?_
    refine aw_if_ne (tgt := 21) dX6_needs_15 (by decide) (fun c5 => ?_) (fun c5 => ?_)
    · have hf := i_neg c5 hf
      refine aw_aload_n 0 dX6_needs_21 rfl rfl ?_
      refine aw_iload_n 1 dX6_needs_22 rfl rfl ?_
      refine aw_aload_n 0 dX6_needs_23 rfl rfl ?_
      obtain ⟨r6, er6, hf⟩ := b_some hf
      refine aw_getR dX6_needs_24 gfX6_19 er6 ?_
      refine aw_iload_n 1 dX6_needs_27 rfl rfl ?_
      obtain ⟨q7, eq7, hf⟩ := b_some hf
      refine aw_cV (as := [.int l1]) dX6_needs_28 moX0_leftOf voX0_leftOf mlX6_119 (k_X0_leftOf eq7) rfl (rm_ok (by omega) (by decide)) ⟨Nat.le_refl _, Nat.le_refl _⟩ (Nat.le_of_ble_eq_true rfl) rfl (c_X0_leftOf eq7) ?_
      refine aw_iconst (v := 0) dX6_needs_31 (by decide) ?_
      obtain ⟨q8, eq8, hf⟩ := b_some hf
      refine aw_cV (as := [.int l1, .int q7.1, .int (0 : Int32)]) dX6_needs_32 moX6_fewestFor voX6_fewestFor mlX6_178 (k_X6_fewestFor eq8) rfl (rm_ok (by omega) (by decide)) ⟨Nat.le_refl _, Nat.le_refl _⟩ (Nat.le_of_ble_eq_true rfl) rfl (c_X6_fewestFor eq8) ?_
      refine aw_istore_n (L' := [(3, .int q8.1), (0, .ref l0), (1, .int l1), (2, .int l2)]) dX6_needs_35 rfl (by decide) rfl ?_
      refine aw_iload_n 3 dX6_needs_36 rfl rfl ?_
      refine aw_if_ne (tgt := 52) dX6_needs_37 (by decide) (fun c9 => ?_) (fun c9 => ?_)
      · have hf := i_neg c9 hf
        refine aw_iload_n 0 dX6_needs_52 rfl rfl ?_
        have hq := Option.some.inj hf
        subst hq
        exact aw_iret hr dX6_needs_53 ⟨rfl, rfl, rfl⟩
      · have hf := i_pos c9 hf
        refine aw_iload_n 0 dX6_needs_40 rfl rfl ?_
        refine aw_iconst (v := -1) dX6_needs_41 (by decide) ?_
        refine aw_icmp_eq (tgt := 52) dX6_needs_42 (by decide) (fun c10 => ?_) (fun c10 => ?_)
        · have hf := i_pos c10 hf
          refine aw_iload_n 0 dX6_needs_52 rfl rfl ?_
          have hq := Option.some.inj hf
          subst hq
          exact aw_iret hr dX6_needs_53 ⟨rfl, rfl, rfl⟩
        · have hf := i_neg c10 hf
          refine aw_iload_n 0 dX6_needs_45 rfl rfl ?_
          obtain ⟨q11, eq11, hf⟩ := b_some hf
          refine aw_cS (as := [.int q8.1]) dX6_needs_46 moJ6_bitCount_0f7a4 soJ6_bitCount_0f7a4 mlX6_182 (rm_ok (by omega) (by decide)) ⟨Nat.le_refl _, Nat.le_refl _⟩ (Nat.le_of_ble_eq_true rfl) rfl (c_J6_bitCount_0f7a4 eq11) ?_
          refine aw_goto (tgt := 53) dX6_needs_49 (by decide) ?_
          have hq := Option.some.inj hf
          subst hq
          exact aw_iret hr dX6_needs_53 ⟨rfl, rfl, rfl⟩
    · have hf := i_pos c5 hf
      refine aw_bipush (v := -2) dX6_needs_18 (by decide) ?_
      have hq := Option.some.inj hf
      subst hq
      exact aw_iret hr dX6_needs_20 ⟨rfl, rfl, rfl⟩
theorem k_X6_needs {l0 : Nat} {l1 : Int32} {l2 : Int32} {h0 : Hp} {q : Int32 × Hp} (hf : f_X6_needs l0 l1 l2 h0 = some q) : ck h0 l0 6 = some () := by
  unfold f_X6_needs at hf
  obtain ⟨u0, e0, hf⟩ := b_some hf
  exact e0
theorem dX6_pattern_0 : decode cX6_pattern 0 = .ok (.aload_n 0, 1) := by decide +kernel
theorem dX6_pattern_1 : decode cX6_pattern 1 = .ok (.getfield 19, 3) := by decide +kernel
theorem dX6_pattern_4 : decode cX6_pattern 4 = .ok (.iload_n 1, 1) := by decide +kernel
theorem dX6_pattern_5 : decode cX6_pattern 5 = .ok (.invokevirtual 102, 3) := by decide +kernel
theorem dX6_pattern_8 : decode cX6_pattern 8 = .ok (.ifCond .ne 6, 3) := by decide +kernel
theorem dX6_pattern_11 : decode cX6_pattern 11 = .ok (.bipush (-2), 2) := by decide +kernel
theorem dX6_pattern_13 : decode cX6_pattern 13 = .ok (.ireturn, 1) := by decide +kernel
theorem dX6_pattern_14 : decode cX6_pattern 14 = .ok (.aload_n 0, 1) := by decide +kernel
theorem dX6_pattern_15 : decode cX6_pattern 15 = .ok (.iload_n 1, 1) := by decide +kernel
theorem dX6_pattern_16 : decode cX6_pattern 16 = .ok (.aload_n 0, 1) := by decide +kernel
theorem dX6_pattern_17 : decode cX6_pattern 17 = .ok (.getfield 19, 3) := by decide +kernel
theorem dX6_pattern_20 : decode cX6_pattern 20 = .ok (.invokevirtual 175, 3) := by decide +kernel
theorem dX6_pattern_23 : decode cX6_pattern 23 = .ok (.aload_n 0, 1) := by decide +kernel
theorem dX6_pattern_24 : decode cX6_pattern 24 = .ok (.getfield 19, 3) := by decide +kernel
theorem dX6_pattern_27 : decode cX6_pattern 27 = .ok (.iload_n 1, 1) := by decide +kernel
theorem dX6_pattern_28 : decode cX6_pattern 28 = .ok (.invokevirtual 119, 3) := by decide +kernel
theorem dX6_pattern_31 : decode cX6_pattern 31 = .ok (.iconst (-1), 1) := by decide +kernel
theorem dX6_pattern_32 : decode cX6_pattern 32 = .ok (.ixor, 1) := by decide +kernel
theorem dX6_pattern_33 : decode cX6_pattern 33 = .ok (.iand, 1) := by decide +kernel
theorem dX6_pattern_34 : decode cX6_pattern 34 = .ok (.iconst 1, 1) := by decide +kernel
theorem dX6_pattern_35 : decode cX6_pattern 35 = .ok (.invokevirtual 178, 3) := by decide +kernel
theorem dX6_pattern_38 : decode cX6_pattern 38 = .ok (.ireturn, 1) := by decide +kernel
def f_X6_pattern (l0 : Nat) (l1 : Int32) (h0 : Hp) : Option (Int32 × Hp) :=
  (ck h0 l0 6).bind fun _ => (gR h0 l0 6 1).bind fun r1 => (f_X0_hasTeam r1 l1 h0).bind fun q2 => if q2.1 = 0 then (some ((-2 : Int32), q2.2)) else ((gR q2.2 l0 6 1).bind fun r4 => (f_X0_left r4 q2.2).bind fun q5 => (gR q5.2 l0 6 1).bind fun r6 => (f_X0_leftOf r6 l1 q5.2).bind fun q7 => (f_X6_fewestFor l0 l1 (q5.1 &&& (q7.1 ^^^ (-1 : Int32))) (1 : Int32) q7.2).bind fun q8 => some (q8.1, q8.2))
set_option maxRecDepth 100000 in
set_option maxHeartbeats 4000000 in
theorem c_X6_pattern {l0 : Nat} {l1 : Int32} {h0 : Hp} {q : Int32 × Hp} (hf : f_X6_pattern l0 l1 h0 = some q) : Mt 29 yX6_pattern cX6_pattern 2 (some .int) [.ref l0, .int l1] h0 (some (.int q.1)) q.2 := by
  refine MtQ.of (by decide) (Nat.le_of_ble_eq_true rfl) (fun X adr hr hn => ?_)
  unfold f_X6_pattern at hf
  show AW X cX6_pattern 2 RX6 (rmd 29 0 0) (Qmet X 0 0 (Qe (some (.int q.1)) q.2 adr)) 0 0 adr h0 0 [(0, .ref l0), (1, .int l1)] []
  obtain ⟨u0, e0, hf⟩ := b_some hf
  refine aw_aload_n 0 dX6_pattern_0 rfl rfl ?_
  obtain ⟨r1, er1, hf⟩ := b_some hf
  refine aw_getR dX6_pattern_1 gfX6_19 er1 ?_
  refine aw_iload_n 1 dX6_pattern_4 rfl rfl ?_
  obtain ⟨q2, eq2, hf⟩ := b_some hf
  refine aw_cV (as := [.int l1]) dX6_pattern_5 moX0_hasTeam voX0_hasTeam mlX6_102 (k_X0_hasTeam eq2) rfl (rm_ok (by omega) (by decide)) ⟨Nat.le_refl _, Nat.le_refl _⟩ (Nat.le_of_ble_eq_true rfl) rfl (c_X0_hasTeam eq2) ?_
  refine aw_if_ne (tgt := 14) dX6_pattern_8 (by decide) (fun c3 => ?_) (fun c3 => ?_)
  · have hf := i_neg c3 hf
    refine aw_aload_n 0 dX6_pattern_14 rfl rfl ?_
    refine aw_iload_n 1 dX6_pattern_15 rfl rfl ?_
    refine aw_aload_n 0 dX6_pattern_16 rfl rfl ?_
    obtain ⟨r4, er4, hf⟩ := b_some hf
    refine aw_getR dX6_pattern_17 gfX6_19 er4 ?_
    obtain ⟨q5, eq5, hf⟩ := b_some hf
    refine aw_cV (as := []) dX6_pattern_20 moX0_left voX0_left mlX6_175 (k_X0_left eq5) rfl (rm_ok (by omega) (by decide)) ⟨Nat.le_refl _, Nat.le_refl _⟩ (Nat.le_of_ble_eq_true rfl) rfl (c_X0_left eq5) ?_
    refine aw_aload_n 0 dX6_pattern_23 rfl rfl ?_
    obtain ⟨r6, er6, hf⟩ := b_some hf
    refine aw_getR dX6_pattern_24 gfX6_19 er6 ?_
    refine aw_iload_n 1 dX6_pattern_27 rfl rfl ?_
    obtain ⟨q7, eq7, hf⟩ := b_some hf
    refine aw_cV (as := [.int l1]) dX6_pattern_28 moX0_leftOf voX0_leftOf mlX6_119 (k_X0_leftOf eq7) rfl (rm_ok (by omega) (by decide)) ⟨Nat.le_refl _, Nat.le_refl _⟩ (Nat.le_of_ble_eq_true rfl) rfl (c_X0_leftOf eq7) ?_
    refine aw_iconst (v := -1) dX6_pattern_31 (by decide) ?_
    refine aw_ixor dX6_pattern_32 ?_
    refine aw_iand dX6_pattern_33 ?_
    refine aw_iconst (v := 1) dX6_pattern_34 (by decide) ?_
    obtain ⟨q8, eq8, hf⟩ := b_some hf
    refine aw_cV (as := [.int l1, .int (q5.1 &&& (q7.1 ^^^ (-1 : Int32))), .int (1 : Int32)]) dX6_pattern_35 moX6_fewestFor voX6_fewestFor mlX6_178 (k_X6_fewestFor eq8) rfl (rm_ok (by omega) (by decide)) ⟨Nat.le_refl _, Nat.le_refl _⟩ (Nat.le_of_ble_eq_true rfl) rfl (c_X6_fewestFor eq8) ?_
    have hq := Option.some.inj hf
    subst hq
    exact aw_iret hr dX6_pattern_38 ⟨rfl, rfl, rfl⟩
  · have hf := i_pos c3 hf
    refine aw_bipush (v := -2) dX6_pattern_11 (by decide) ?_
    have hq := Option.some.inj hf
    subst hq
    exact aw_iret hr dX6_pattern_13 ⟨rfl, rfl, rfl⟩
theorem k_X6_pattern {l0 : Nat} {l1 : Int32} {h0 : Hp} {q : Int32 × Hp} (hf : f_X6_pattern l0 l1 h0 = some q) : ck h0 l0 6 = some () := by
  unfold f_X6_pattern at hf
  obtain ⟨u0, e0, hf⟩ := b_some hf
  exact e0
theorem dX6_play_0 : decode cX6_play 0 = .ok (.aload_n 0, 1) := by decide +kernel
theorem dX6_play_1 : decode cX6_play 1 = .ok (.getfield 19, 3) := by decide +kernel
theorem dX6_play_4 : decode cX6_play 4 = .ok (.iload_n 1, 1) := by decide +kernel
theorem dX6_play_5 : decode cX6_play 5 = .ok (.invokevirtual 93, 3) := by decide +kernel
theorem dX6_play_8 : decode cX6_play 8 = .ok (.ifCond .eq 12, 3) := by decide +kernel
theorem dX6_play_11 : decode cX6_play 11 = .ok (.iload_n 2, 1) := by decide +kernel
theorem dX6_play_12 : decode cX6_play 12 = .ok (.ifCond .lt 8, 3) := by decide +kernel
theorem dX6_play_15 : decode cX6_play 15 = .ok (.iload_n 2, 1) := by decide +kernel
theorem dX6_play_16 : decode cX6_play 16 = .ok (.iconst 2, 1) := by decide +kernel
theorem dX6_play_17 : decode cX6_play 17 = .ok (.if_icmp .le 6, 3) := by decide +kernel
theorem dX6_play_20 : decode cX6_play 20 = .ok (.bipush (-2), 2) := by decide +kernel
theorem dX6_play_22 : decode cX6_play 22 = .ok (.ireturn, 1) := by decide +kernel
theorem dX6_play_23 : decode cX6_play 23 = .ok (.aload_n 0, 1) := by decide +kernel
theorem dX6_play_24 : decode cX6_play 24 = .ok (.getfield 19, 3) := by decide +kernel
theorem dX6_play_27 : decode cX6_play 27 = .ok (.iload_n 1, 1) := by decide +kernel
theorem dX6_play_28 : decode cX6_play 28 = .ok (.invokevirtual 96, 3) := by decide +kernel
theorem dX6_play_31 : decode cX6_play 31 = .ok (.ifCond .ne 6, 3) := by decide +kernel
theorem dX6_play_34 : decode cX6_play 34 = .ok (.bipush (-3), 2) := by decide +kernel
theorem dX6_play_36 : decode cX6_play 36 = .ok (.ireturn, 1) := by decide +kernel
theorem dX6_play_37 : decode cX6_play 37 = .ok (.aload_n 0, 1) := by decide +kernel
theorem dX6_play_38 : decode cX6_play 38 = .ok (.getfield 19, 3) := by decide +kernel
theorem dX6_play_41 : decode cX6_play 41 = .ok (.getfield 99, 3) := by decide +kernel
theorem dX6_play_44 : decode cX6_play 44 = .ok (.iload_n 1, 1) := by decide +kernel
theorem dX6_play_45 : decode cX6_play 45 = .ok (.iload_n 2, 1) := by decide +kernel
theorem dX6_play_46 : decode cX6_play 46 = .ok (.iastore, 1) := by decide +kernel
theorem dX6_play_47 : decode cX6_play 47 = .ok (.iconst 1, 1) := by decide +kernel
theorem dX6_play_48 : decode cX6_play 48 = .ok (.ireturn, 1) := by decide +kernel
def f_X6_play (l0 : Nat) (l1 : Int32) (l2 : Int32) (h0 : Hp) : Option (Int32 × Hp) :=
  (ck h0 l0 6).bind fun _ => (gR h0 l0 6 1).bind fun r1 => (f_X0_hasGame r1 l1 h0).bind fun q2 => if q2.1 = 0 then (some ((-2 : Int32), q2.2)) else (if l2 < 0 then (some ((-2 : Int32), q2.2)) else (if l2 ≤ (2 : Int32) then ((gR q2.2 l0 6 1).bind fun r6 => (f_X0_isLeft r6 l1 q2.2).bind fun q7 => if q7.1 = 0 then (some ((-3 : Int32), q7.2)) else ((gR q7.2 l0 6 1).bind fun r9 => (gR q7.2 r9 0 9).bind fun r10 => (aS q7.2 r10 l1 l2).bind fun h11 => some ((1 : Int32), h11))) else (some ((-2 : Int32), q2.2))))
set_option maxRecDepth 100000 in
set_option maxHeartbeats 4000000 in
theorem c_X6_play {l0 : Nat} {l1 : Int32} {l2 : Int32} {h0 : Hp} {q : Int32 × Hp} (hf : f_X6_play l0 l1 l2 h0 = some q) : Mt 2 yX6_play cX6_play 3 (some .int) [.ref l0, .int l1, .int l2] h0 (some (.int q.1)) q.2 := by
  refine MtQ.of (by decide) (Nat.le_of_ble_eq_true rfl) (fun X adr hr hn => ?_)
  unfold f_X6_play at hf
  show AW X cX6_play 3 RX6 (rmd 2 0 0) (Qmet X 0 0 (Qe (some (.int q.1)) q.2 adr)) 0 0 adr h0 0 [(0, .ref l0), (1, .int l1), (2, .int l2)] []
  obtain ⟨u0, e0, hf⟩ := b_some hf
  refine aw_aload_n 0 dX6_play_0 rfl rfl ?_
  obtain ⟨r1, er1, hf⟩ := b_some hf
  refine aw_getR dX6_play_1 gfX6_19 er1 ?_
  refine aw_iload_n 1 dX6_play_4 rfl rfl ?_
  obtain ⟨q2, eq2, hf⟩ := b_some hf
  refine aw_cV (as := [.int l1]) dX6_play_5 moX0_hasGame voX0_hasGame mlX6_93 (k_X0_hasGame eq2) rfl (rm_ok (by omega) (by decide)) ⟨Nat.le_refl _, Nat.le_refl _⟩ (Nat.le_of_ble_eq_true rfl) rfl (c_X0_hasGame eq2) ?_
  refine aw_if_eq (tgt := 20) dX6_play_8 (by decide) (fun c3 => ?_) (fun c3 => ?_)
  · have hf := i_pos c3 hf
    refine aw_bipush (v := -2) dX6_play_20 (by decide) ?_
    have hq := Option.some.inj hf
    subst hq
    exact aw_iret hr dX6_play_22 ⟨rfl, rfl, rfl⟩
  · have hf := i_neg c3 hf
    refine aw_iload_n 2 dX6_play_11 rfl rfl ?_
    refine aw_if_lt (tgt := 20) dX6_play_12 (by decide) (fun c4 => ?_) (fun c4 => ?_)
    · have hf := i_pos c4 hf
      refine aw_bipush (v := -2) dX6_play_20 (by decide) ?_
      have hq := Option.some.inj hf
      subst hq
      exact aw_iret hr dX6_play_22 ⟨rfl, rfl, rfl⟩
    · have hf := i_neg c4 hf
      refine aw_iload_n 2 dX6_play_15 rfl rfl ?_
      refine aw_iconst (v := 2) dX6_play_16 (by decide) ?_
      refine aw_icmp_le (tgt := 23) dX6_play_17 (by decide) (fun c5 => ?_) (fun c5 => ?_)
      · have hf := i_pos c5 hf
        refine aw_aload_n 0 dX6_play_23 rfl rfl ?_
        obtain ⟨r6, er6, hf⟩ := b_some hf
        refine aw_getR dX6_play_24 gfX6_19 er6 ?_
        refine aw_iload_n 1 dX6_play_27 rfl rfl ?_
        obtain ⟨q7, eq7, hf⟩ := b_some hf
        refine aw_cV (as := [.int l1]) dX6_play_28 moX0_isLeft voX0_isLeft mlX6_96 (k_X0_isLeft eq7) rfl (rm_ok (by omega) (by decide)) ⟨Nat.le_refl _, Nat.le_refl _⟩ (Nat.le_of_ble_eq_true rfl) rfl (c_X0_isLeft eq7) ?_
        refine aw_if_ne (tgt := 37) dX6_play_31 (by decide) (fun c8 => ?_) (fun c8 => ?_)
        · have hf := i_neg c8 hf
          refine aw_aload_n 0 dX6_play_37 rfl rfl ?_
          obtain ⟨r9, er9, hf⟩ := b_some hf
          refine aw_getR dX6_play_38 gfX6_19 er9 ?_
          obtain ⟨r10, er10, hf⟩ := b_some hf
          refine aw_getR dX6_play_41 gfX6_99 er10 ?_
          refine aw_iload_n 1 dX6_play_44 rfl rfl ?_
          refine aw_iload_n 2 dX6_play_45 rfl rfl ?_
          obtain ⟨h11, eh11, hf⟩ := b_some hf
          refine aw_iast dX6_play_46 eh11 ?_
          refine aw_iconst (v := 1) dX6_play_47 (by decide) ?_
          have hq := Option.some.inj hf
          subst hq
          exact aw_iret hr dX6_play_48 ⟨rfl, rfl, rfl⟩
        · have hf := i_pos c8 hf
          refine aw_bipush (v := -3) dX6_play_34 (by decide) ?_
          have hq := Option.some.inj hf
          subst hq
          exact aw_iret hr dX6_play_36 ⟨rfl, rfl, rfl⟩
      · have hf := i_neg c5 hf
        refine aw_bipush (v := -2) dX6_play_20 (by decide) ?_
        have hq := Option.some.inj hf
        subst hq
        exact aw_iret hr dX6_play_22 ⟨rfl, rfl, rfl⟩
theorem k_X6_play {l0 : Nat} {l1 : Int32} {l2 : Int32} {h0 : Hp} {q : Int32 × Hp} (hf : f_X6_play l0 l1 l2 h0 = some q) : ck h0 l0 6 = some () := by
  unfold f_X6_play at hf
  obtain ⟨u0, e0, hf⟩ := b_some hf
  exact e0
theorem dX6_put_0 : decode cX6_put 0 = .ok (.iload_n 1, 1) := by decide +kernel
theorem dX6_put_1 : decode cX6_put 1 = .ok (.invokestatic 227, 3) := by decide +kernel
theorem dX6_put_4 : decode cX6_put 4 = .ok (.ifCond .ne 6, 3) := by decide +kernel
theorem dX6_put_7 : decode cX6_put 7 = .ok (.bipush (-2), 2) := by decide +kernel
theorem dX6_put_9 : decode cX6_put 9 = .ok (.ireturn, 1) := by decide +kernel
theorem dX6_put_10 : decode cX6_put 10 = .ok (.aload_n 0, 1) := by decide +kernel
theorem dX6_put_11 : decode cX6_put 11 = .ok (.getfield 56, 3) := by decide +kernel
theorem dX6_put_14 : decode cX6_put 14 = .ok (.iload_n 1, 1) := by decide +kernel
theorem dX6_put_15 : decode cX6_put 15 = .ok (.aaload, 1) := by decide +kernel
theorem dX6_put_16 : decode cX6_put 16 = .ok (.astore 4, 2) := by decide +kernel
theorem dX6_put_18 : decode cX6_put 18 = .ok (.aload 4, 2) := by decide +kernel
theorem dX6_put_20 : decode cX6_put 20 = .ok (.invokevirtual 230, 3) := by decide +kernel
theorem dX6_put_23 : decode cX6_put 23 = .ok (.ifCond .eq 6, 3) := by decide +kernel
theorem dX6_put_26 : decode cX6_put 26 = .ok (.bipush (-11), 2) := by decide +kernel
theorem dX6_put_28 : decode cX6_put 28 = .ok (.ireturn, 1) := by decide +kernel
theorem dX6_put_29 : decode cX6_put 29 = .ok (.iload_n 2, 1) := by decide +kernel
theorem dX6_put_30 : decode cX6_put 30 = .ok (.ifCond .lt 12, 3) := by decide +kernel
theorem dX6_put_33 : decode cX6_put 33 = .ok (.iload_n 2, 1) := by decide +kernel
theorem dX6_put_34 : decode cX6_put 34 = .ok (.aload 4, 2) := by decide +kernel
theorem dX6_put_36 : decode cX6_put 36 = .ok (.getfield 233, 3) := by decide +kernel
theorem dX6_put_39 : decode cX6_put 39 = .ok (.if_icmp .lt 6, 3) := by decide +kernel
theorem dX6_put_42 : decode cX6_put 42 = .ok (.bipush (-12), 2) := by decide +kernel
theorem dX6_put_44 : decode cX6_put 44 = .ok (.ireturn, 1) := by decide +kernel
theorem dX6_put_45 : decode cX6_put 45 = .ok (.aload 4, 2) := by decide +kernel
theorem dX6_put_47 : decode cX6_put 47 = .ok (.getfield 234, 3) := by decide +kernel
theorem dX6_put_50 : decode cX6_put 50 = .ok (.iload_n 2, 1) := by decide +kernel
theorem dX6_put_51 : decode cX6_put 51 = .ok (.aload 4, 2) := by decide +kernel
theorem dX6_put_53 : decode cX6_put 53 = .ok (.getfield 248, 3) := by decide +kernel
theorem dX6_put_56 : decode cX6_put 56 = .ok (.ifCond .ne 11, 3) := by decide +kernel
theorem dX6_put_59 : decode cX6_put 59 = .ok (.iload_n 3, 1) := by decide +kernel
theorem dX6_put_60 : decode cX6_put 60 = .ok (.sipush 255, 3) := by decide +kernel
theorem dX6_put_63 : decode cX6_put 63 = .ok (.iand, 1) := by decide +kernel
theorem dX6_put_64 : decode cX6_put 64 = .ok (.goto 4, 3) := by decide +kernel
theorem dX6_put_67 : decode cX6_put 67 = .ok (.iload_n 3, 1) := by decide +kernel
theorem dX6_put_68 : decode cX6_put 68 = .ok (.iastore, 1) := by decide +kernel
theorem dX6_put_69 : decode cX6_put 69 = .ok (.iconst 1, 1) := by decide +kernel
theorem dX6_put_70 : decode cX6_put 70 = .ok (.ireturn, 1) := by decide +kernel
def f_X6_put_68 (s0 : Int32) (s1 : Int32) (s2 : Nat) (h0 : Hp) : Option (Int32 × Hp) :=
  (aS h0 s2 s1 s0).bind fun h1 => some ((1 : Int32), h1)
set_option maxRecDepth 100000 in
set_option maxHeartbeats 4000000 in
theorem c_X6_put_68 {X : Cx} {adr : Nat → Nat} {q : Int32 × Hp} (hr : (mth X).sig.returnType = (some .int)) {s0 : Int32} {s1 : Int32} {s2 : Nat} {h0 : Hp} (hf : f_X6_put_68 s0 s1 s2 h0 = some q) : AW X cX6_put 5 RX6 (rmd 2 0 0) (Qmet X 0 0 (Qe (some (.int q.1)) q.2 adr)) 0 0 adr h0 68 [] [.int s0, .int s1, .ref s2] := by
  unfold f_X6_put_68 at hf
  obtain ⟨h1, eh1, hf⟩ := b_some hf
  refine aw_iast dX6_put_68 eh1 ?_
  refine aw_iconst (v := 1) dX6_put_69 (by decide) ?_
  have hq := Option.some.inj hf
  subst hq
  exact aw_iret hr dX6_put_70 ⟨rfl, rfl, rfl⟩
def f_X6_put (l0 : Nat) (l1 : Int32) (l2 : Int32) (l3 : Int32) (h0 : Hp) : Option (Int32 × Hp) :=
  (ck h0 l0 6).bind fun _ => (f_X6_isSheet l1 h0).bind fun q1 => if q1.1 = 0 then (some ((-2 : Int32), q1.2)) else ((gR q1.2 l0 6 7).bind fun r3 => (qL q1.2 r3 l1).bind fun r4 => (f_X2_isMissing r4 q1.2).bind fun q5 => if q5.1 = 0 then (if l2 < 0 then (some ((-12 : Int32), q5.2)) else ((gI q5.2 r4 2 2).bind fun x8 => if l2 < x8 then ((gR q5.2 r4 2 0).bind fun r10 => (gI q5.2 r4 2 1).bind fun x11 => if x11 = 0 then (f_X6_put_68 (l3 &&& (255 : Int32)) l2 r10 q5.2) else (f_X6_put_68 l3 l2 r10 q5.2)) else (some ((-12 : Int32), q5.2)))) else (some ((-11 : Int32), q5.2)))
set_option maxRecDepth 100000 in
set_option maxHeartbeats 4000000 in
theorem c_X6_put {l0 : Nat} {l1 : Int32} {l2 : Int32} {l3 : Int32} {h0 : Hp} {q : Int32 × Hp} (hf : f_X6_put l0 l1 l2 l3 h0 = some q) : Mt 2 yX6_put cX6_put 5 (some .int) [.ref l0, .int l1, .int l2, .int l3] h0 (some (.int q.1)) q.2 := by
  refine MtQ.of (by decide) (Nat.le_of_ble_eq_true rfl) (fun X adr hr hn => ?_)
  unfold f_X6_put at hf
  show AW X cX6_put 5 RX6 (rmd 2 0 0) (Qmet X 0 0 (Qe (some (.int q.1)) q.2 adr)) 0 0 adr h0 0 [(0, .ref l0), (1, .int l1), (2, .int l2), (3, .int l3)] []
  obtain ⟨u0, e0, hf⟩ := b_some hf
  refine aw_iload_n 1 dX6_put_0 rfl rfl ?_
  obtain ⟨q1, eq1, hf⟩ := b_some hf
  refine aw_cS (as := [.int l1]) dX6_put_1 moX6_isSheet soX6_isSheet mlX6_227 (rm_ok (by omega) (by decide)) ⟨Nat.le_refl _, Nat.le_refl _⟩ (Nat.le_of_ble_eq_true rfl) rfl (c_X6_isSheet eq1) ?_
  refine aw_if_ne (tgt := 10) dX6_put_4 (by decide) (fun c2 => ?_) (fun c2 => ?_)
  · have hf := i_neg c2 hf
    refine aw_aload_n 0 dX6_put_10 rfl rfl ?_
    obtain ⟨r3, er3, hf⟩ := b_some hf
    refine aw_getR dX6_put_11 gfX6_56 er3 ?_
    refine aw_iload_n 1 dX6_put_14 rfl rfl ?_
    obtain ⟨r4, er4, hf⟩ := b_some hf
    refine aw_aald dX6_put_15 er4 ?_
    refine aw_astore (L' := [(4, .ref r4), (0, .ref l0), (1, .int l1), (2, .int l2), (3, .int l3)]) dX6_put_16 (by decide) rfl ?_
    refine aw_aload 0 dX6_put_18 rfl ?_
    obtain ⟨q5, eq5, hf⟩ := b_some hf
    refine aw_cV (as := []) dX6_put_20 moX2_isMissing voX2_isMissing mlX6_230 (k_X2_isMissing eq5) rfl (rm_ok (by omega) (by decide)) ⟨Nat.le_refl _, Nat.le_refl _⟩ (Nat.le_of_ble_eq_true rfl) rfl (c_X2_isMissing eq5) ?_
    refine aw_if_eq (tgt := 29) dX6_put_23 (by decide) (fun c6 => ?_) (fun c6 => ?_)
    · have hf := i_pos c6 hf
      refine aw_iload_n 3 dX6_put_29 rfl rfl ?_
      refine aw_if_lt (tgt := 42) dX6_put_30 (by decide) (fun c7 => ?_) (fun c7 => ?_)
      · have hf := i_pos c7 hf
        refine aw_bipush (v := -12) dX6_put_42 (by decide) ?_
        have hq := Option.some.inj hf
        subst hq
        exact aw_iret hr dX6_put_44 ⟨rfl, rfl, rfl⟩
      · have hf := i_neg c7 hf
        refine aw_iload_n 3 dX6_put_33 rfl rfl ?_
        refine aw_aload 0 dX6_put_34 rfl ?_
        obtain ⟨x8, ex8, hf⟩ := b_some hf
        refine aw_getI dX6_put_36 gfX6_233 ex8 ?_
        refine aw_icmp_lt (tgt := 45) dX6_put_39 (by decide) (fun c9 => ?_) (fun c9 => ?_)
        · have hf := i_pos c9 hf
          refine aw_aload 0 dX6_put_45 rfl ?_
          obtain ⟨r10, er10, hf⟩ := b_some hf
          refine aw_getR dX6_put_47 gfX6_234 er10 ?_
          refine aw_iload_n 3 dX6_put_50 rfl rfl ?_
          refine aw_aload 0 dX6_put_51 rfl ?_
          obtain ⟨x11, ex11, hf⟩ := b_some hf
          refine aw_getI dX6_put_53 gfX6_248 ex11 ?_
          refine aw_if_ne (tgt := 67) dX6_put_56 (by decide) (fun c12 => ?_) (fun c12 => ?_)
          · have hf := i_neg c12 hf
            refine aw_iload_n 4 dX6_put_67 rfl rfl ?_
            exact aw_sub [] rfl (c_X6_put_68 hr hf)
          · have hf := i_pos c12 hf
            refine aw_iload_n 4 dX6_put_59 rfl rfl ?_
            refine aw_sipush (v := 255) dX6_put_60 (by decide) ?_
            refine aw_iand dX6_put_63 ?_
            refine aw_goto (tgt := 68) dX6_put_64 (by decide) ?_
            exact aw_sub [] rfl (c_X6_put_68 hr hf)
        · have hf := i_neg c9 hf
          refine aw_bipush (v := -12) dX6_put_42 (by decide) ?_
          have hq := Option.some.inj hf
          subst hq
          exact aw_iret hr dX6_put_44 ⟨rfl, rfl, rfl⟩
    · have hf := i_neg c6 hf
      refine aw_bipush (v := -11) dX6_put_26 (by decide) ?_
      have hq := Option.some.inj hf
      subst hq
      exact aw_iret hr dX6_put_28 ⟨rfl, rfl, rfl⟩
  · have hf := i_pos c2 hf
    refine aw_bipush (v := -2) dX6_put_7 (by decide) ?_
    have hq := Option.some.inj hf
    subst hq
    exact aw_iret hr dX6_put_9 ⟨rfl, rfl, rfl⟩
theorem k_X6_put {l0 : Nat} {l1 : Int32} {l2 : Int32} {l3 : Int32} {h0 : Hp} {q : Int32 × Hp} (hf : f_X6_put l0 l1 l2 l3 h0 = some q) : ck h0 l0 6 = some () := by
  unfold f_X6_put at hf
  obtain ⟨u0, e0, hf⟩ := b_some hf
  exact e0
theorem dX6_run_0 : decode cX6_run 0 = .ok (.aload_n 0, 1) := by decide +kernel
theorem dX6_run_1 : decode cX6_run 1 = .ok (.getfield 19, 3) := by decide +kernel
theorem dX6_run_4 : decode cX6_run 4 = .ok (.iload_n 1, 1) := by decide +kernel
theorem dX6_run_5 : decode cX6_run 5 = .ok (.invokevirtual 102, 3) := by decide +kernel
theorem dX6_run_8 : decode cX6_run 8 = .ok (.ifCond .eq 14, 3) := by decide +kernel
theorem dX6_run_11 : decode cX6_run 11 = .ok (.aload_n 0, 1) := by decide +kernel
theorem dX6_run_12 : decode cX6_run 12 = .ok (.getfield 19, 3) := by decide +kernel
theorem dX6_run_15 : decode cX6_run 15 = .ok (.iload_n 2, 1) := by decide +kernel
theorem dX6_run_16 : decode cX6_run 16 = .ok (.invokevirtual 93, 3) := by decide +kernel
theorem dX6_run_19 : decode cX6_run 19 = .ok (.ifCond .ne 6, 3) := by decide +kernel
theorem dX6_run_22 : decode cX6_run 22 = .ok (.bipush (-2), 2) := by decide +kernel
theorem dX6_run_24 : decode cX6_run 24 = .ok (.ireturn, 1) := by decide +kernel
theorem dX6_run_25 : decode cX6_run 25 = .ok (.aload_n 0, 1) := by decide +kernel
theorem dX6_run_26 : decode cX6_run 26 = .ok (.getfield 19, 3) := by decide +kernel
theorem dX6_run_29 : decode cX6_run 29 = .ok (.iload_n 2, 1) := by decide +kernel
theorem dX6_run_30 : decode cX6_run 30 = .ok (.invokevirtual 96, 3) := by decide +kernel
theorem dX6_run_33 : decode cX6_run 33 = .ok (.ifCond .ne 6, 3) := by decide +kernel
theorem dX6_run_36 : decode cX6_run 36 = .ok (.bipush (-3), 2) := by decide +kernel
theorem dX6_run_38 : decode cX6_run 38 = .ok (.ireturn, 1) := by decide +kernel
theorem dX6_run_39 : decode cX6_run 39 = .ok (.aload_n 0, 1) := by decide +kernel
theorem dX6_run_40 : decode cX6_run 40 = .ok (.getfield 32, 3) := by decide +kernel
theorem dX6_run_43 : decode cX6_run 43 = .ok (.aload_n 0, 1) := by decide +kernel
theorem dX6_run_44 : decode cX6_run 44 = .ok (.getfield 19, 3) := by decide +kernel
theorem dX6_run_47 : decode cX6_run 47 = .ok (.iload_n 1, 1) := by decide +kernel
theorem dX6_run_48 : decode cX6_run 48 = .ok (.invokevirtual 155, 3) := by decide +kernel
theorem dX6_run_51 : decode cX6_run 51 = .ok (.ifCond .le 5, 3) := by decide +kernel
theorem dX6_run_54 : decode cX6_run 54 = .ok (.iconst (-1), 1) := by decide +kernel
theorem dX6_run_55 : decode cX6_run 55 = .ok (.ireturn, 1) := by decide +kernel
theorem dX6_run_56 : decode cX6_run 56 = .ok (.aload_n 0, 1) := by decide +kernel
theorem dX6_run_57 : decode cX6_run 57 = .ok (.getfield 39, 3) := by decide +kernel
theorem dX6_run_60 : decode cX6_run 60 = .ok (.aload_n 0, 1) := by decide +kernel
theorem dX6_run_61 : decode cX6_run 61 = .ok (.getfield 19, 3) := by decide +kernel
theorem dX6_run_64 : decode cX6_run 64 = .ok (.iload_n 1, 1) := by decide +kernel
theorem dX6_run_65 : decode cX6_run 65 = .ok (.aload_n 0, 1) := by decide +kernel
theorem dX6_run_66 : decode cX6_run 66 = .ok (.getfield 19, 3) := by decide +kernel
theorem dX6_run_69 : decode cX6_run 69 = .ok (.iload_n 1, 1) := by decide +kernel
theorem dX6_run_70 : decode cX6_run 70 = .ok (.invokevirtual 119, 3) := by decide +kernel
theorem dX6_run_73 : decode cX6_run 73 = .ok (.invokevirtual 164, 3) := by decide +kernel
theorem dX6_run_76 : decode cX6_run 76 = .ok (.aload_n 0, 1) := by decide +kernel
theorem dX6_run_77 : decode cX6_run 77 = .ok (.getfield 39, 3) := by decide +kernel
theorem dX6_run_80 : decode cX6_run 80 = .ok (.invokevirtual 168, 3) := by decide +kernel
theorem dX6_run_83 : decode cX6_run 83 = .ok (.ifCond .ne 5, 3) := by decide +kernel
theorem dX6_run_86 : decode cX6_run 86 = .ok (.iconst (-1), 1) := by decide +kernel
theorem dX6_run_87 : decode cX6_run 87 = .ok (.ireturn, 1) := by decide +kernel
theorem dX6_run_88 : decode cX6_run 88 = .ok (.aload_n 0, 1) := by decide +kernel
theorem dX6_run_89 : decode cX6_run 89 = .ok (.getfield 19, 3) := by decide +kernel
theorem dX6_run_92 : decode cX6_run 92 = .ok (.iload_n 2, 1) := by decide +kernel
theorem dX6_run_93 : decode cX6_run 93 = .ok (.iload_n 1, 1) := by decide +kernel
theorem dX6_run_94 : decode cX6_run 94 = .ok (.invokevirtual 138, 3) := by decide +kernel
theorem dX6_run_97 : decode cX6_run 97 = .ok (.iconst (-1), 1) := by decide +kernel
theorem dX6_run_98 : decode cX6_run 98 = .ok (.if_icmp .ne 12, 3) := by decide +kernel
theorem dX6_run_101 : decode cX6_run 101 = .ok (.aload_n 0, 1) := by decide +kernel
theorem dX6_run_102 : decode cX6_run 102 = .ok (.getfield 39, 3) := by decide +kernel
theorem dX6_run_105 : decode cX6_run 105 = .ok (.iload_n 2, 1) := by decide +kernel
theorem dX6_run_106 : decode cX6_run 106 = .ok (.invokevirtual 172, 3) := by decide +kernel
theorem dX6_run_109 : decode cX6_run 109 = .ok (.ireturn, 1) := by decide +kernel
theorem dX6_run_110 : decode cX6_run 110 = .ok (.aload_n 0, 1) := by decide +kernel
theorem dX6_run_111 : decode cX6_run 111 = .ok (.getfield 19, 3) := by decide +kernel
theorem dX6_run_114 : decode cX6_run 114 = .ok (.getfield 126, 3) := by decide +kernel
theorem dX6_run_117 : decode cX6_run 117 = .ok (.iload_n 2, 1) := by decide +kernel
theorem dX6_run_118 : decode cX6_run 118 = .ok (.iaload, 1) := by decide +kernel
theorem dX6_run_119 : decode cX6_run 119 = .ok (.iload_n 1, 1) := by decide +kernel
theorem dX6_run_120 : decode cX6_run 120 = .ok (.if_icmp .ne 7, 3) := by decide +kernel
theorem dX6_run_123 : decode cX6_run 123 = .ok (.iconst 1, 1) := by decide +kernel
theorem dX6_run_124 : decode cX6_run 124 = .ok (.goto 4, 3) := by decide +kernel
theorem dX6_run_127 : decode cX6_run 127 = .ok (.iconst 2, 1) := by decide +kernel
theorem dX6_run_128 : decode cX6_run 128 = .ok (.ireturn, 1) := by decide +kernel
def f_X6_run (l0 : Nat) (l1 : Int32) (l2 : Int32) (h0 : Hp) : Option (Int32 × Hp) :=
  (ck h0 l0 6).bind fun _ => (gR h0 l0 6 1).bind fun r1 => (f_X0_hasTeam r1 l1 h0).bind fun q2 => if q2.1 = 0 then (some ((-2 : Int32), q2.2)) else ((gR q2.2 l0 6 1).bind fun r4 => (f_X0_hasGame r4 l2 q2.2).bind fun q5 => if q5.1 = 0 then (some ((-2 : Int32), q5.2)) else ((gR q5.2 l0 6 1).bind fun r7 => (f_X0_isLeft r7 l2 q5.2).bind fun q8 => if q8.1 = 0 then (some ((-3 : Int32), q8.2)) else ((gR q8.2 l0 6 4).bind fun r10 => (gR q8.2 l0 6 1).bind fun r11 => (f_X3_find r10 r11 l1 q8.2).bind fun q12 => if q12.1 ≤ 0 then ((gR q12.2 l0 6 5).bind fun r14 => (gR q12.2 l0 6 1).bind fun r15 => (gR q12.2 l0 6 1).bind fun r16 => (f_X0_leftOf r16 l1 q12.2).bind fun q17 => (f_X1_open r14 r15 l1 q17.1 q17.2).bind fun q18 => (gR q18.2 l0 6 5).bind fun r19 => (f_X1_canEnd r19 q18.2).bind fun q20 => if q20.1 = 0 then (some ((-1 : Int32), q20.2)) else ((gR q20.2 l0 6 1).bind fun r22 => (f_X0_foe r22 l2 l1 q20.2).bind fun q23 => if q23.1 = (-1 : Int32) then ((gR q23.2 l0 6 5).bind fun r29 => (f_X1_pickOf r29 l2 q23.2).bind fun q30 => some (q30.1, q30.2)) else ((gR q23.2 l0 6 1).bind fun r25 => (gR q23.2 r25 0 6).bind fun r26 => (aL q23.2 r26 l2).bind fun x27 => if x27 = l1 then (some ((1 : Int32), q23.2)) else (some ((2 : Int32), q23.2))))) else (some ((-1 : Int32), q12.2)))))
set_option maxRecDepth 100000 in
set_option maxHeartbeats 4000000 in
theorem c_X6_run {l0 : Nat} {l1 : Int32} {l2 : Int32} {h0 : Hp} {q : Int32 × Hp} (hf : f_X6_run l0 l1 l2 h0 = some q) : Mt 27 yX6_run cX6_run 3 (some .int) [.ref l0, .int l1, .int l2] h0 (some (.int q.1)) q.2 := by
  refine MtQ.of (by decide) (Nat.le_of_ble_eq_true rfl) (fun X adr hr hn => ?_)
  unfold f_X6_run at hf
  show AW X cX6_run 3 RX6 (rmd 27 0 0) (Qmet X 0 0 (Qe (some (.int q.1)) q.2 adr)) 0 0 adr h0 0 [(0, .ref l0), (1, .int l1), (2, .int l2)] []
  obtain ⟨u0, e0, hf⟩ := b_some hf
  refine aw_aload_n 0 dX6_run_0 rfl rfl ?_
  obtain ⟨r1, er1, hf⟩ := b_some hf
  refine aw_getR dX6_run_1 gfX6_19 er1 ?_
  refine aw_iload_n 1 dX6_run_4 rfl rfl ?_
  obtain ⟨q2, eq2, hf⟩ := b_some hf
  refine aw_cV (as := [.int l1]) dX6_run_5 moX0_hasTeam voX0_hasTeam mlX6_102 (k_X0_hasTeam eq2) rfl (rm_ok (by omega) (by decide)) ⟨Nat.le_refl _, Nat.le_refl _⟩ (Nat.le_of_ble_eq_true rfl) rfl (c_X0_hasTeam eq2) ?_
  refine aw_if_eq (tgt := 22) dX6_run_8 (by decide) (fun c3 => ?_) (fun c3 => ?_)
  · have hf := i_pos c3 hf
    refine aw_bipush (v := -2) dX6_run_22 (by decide) ?_
    have hq := Option.some.inj hf
    subst hq
    exact aw_iret hr dX6_run_24 ⟨rfl, rfl, rfl⟩
  · have hf := i_neg c3 hf
    refine aw_aload_n 0 dX6_run_11 rfl rfl ?_
    obtain ⟨r4, er4, hf⟩ := b_some hf
    refine aw_getR dX6_run_12 gfX6_19 er4 ?_
    refine aw_iload_n 2 dX6_run_15 rfl rfl ?_
    obtain ⟨q5, eq5, hf⟩ := b_some hf
    refine aw_cV (as := [.int l2]) dX6_run_16 moX0_hasGame voX0_hasGame mlX6_93 (k_X0_hasGame eq5) rfl (rm_ok (by omega) (by decide)) ⟨Nat.le_refl _, Nat.le_refl _⟩ (Nat.le_of_ble_eq_true rfl) rfl (c_X0_hasGame eq5) ?_
    refine aw_if_ne (tgt := 25) dX6_run_19 (by decide) (fun c6 => ?_) (fun c6 => ?_)
    · have hf := i_neg c6 hf
      refine aw_aload_n 0 dX6_run_25 rfl rfl ?_
      obtain ⟨r7, er7, hf⟩ := b_some hf
      refine aw_getR dX6_run_26 gfX6_19 er7 ?_
      refine aw_iload_n 2 dX6_run_29 rfl rfl ?_
      obtain ⟨q8, eq8, hf⟩ := b_some hf
      refine aw_cV (as := [.int l2]) dX6_run_30 moX0_isLeft voX0_isLeft mlX6_96 (k_X0_isLeft eq8) rfl (rm_ok (by omega) (by decide)) ⟨Nat.le_refl _, Nat.le_refl _⟩ (Nat.le_of_ble_eq_true rfl) rfl (c_X0_isLeft eq8) ?_
      refine aw_if_ne (tgt := 39) dX6_run_33 (by decide) (fun c9 => ?_) (fun c9 => ?_)
      · have hf := i_neg c9 hf
        refine aw_aload_n 0 dX6_run_39 rfl rfl ?_
        obtain ⟨r10, er10, hf⟩ := b_some hf
        refine aw_getR dX6_run_40 gfX6_32 er10 ?_
        refine aw_aload_n 0 dX6_run_43 rfl rfl ?_
        obtain ⟨r11, er11, hf⟩ := b_some hf
        refine aw_getR dX6_run_44 gfX6_19 er11 ?_
        refine aw_iload_n 1 dX6_run_47 rfl rfl ?_
        obtain ⟨q12, eq12, hf⟩ := b_some hf
        refine aw_cV (as := [.ref r11, .int l1]) dX6_run_48 moX3_find voX3_find mlX6_155 (k_X3_find eq12) rfl (rm_ok (by omega) (by decide)) ⟨Nat.le_refl _, Nat.le_refl _⟩ (Nat.le_of_ble_eq_true rfl) rfl (c_X3_find eq12) ?_
        refine aw_if_le (tgt := 56) dX6_run_51 (by decide) (fun c13 => ?_) (fun c13 => ?_)
        · have hf := i_pos c13 hf
          refine aw_aload_n 0 dX6_run_56 rfl rfl ?_
          obtain ⟨r14, er14, hf⟩ := b_some hf
          refine aw_getR dX6_run_57 gfX6_39 er14 ?_
          refine aw_aload_n 0 dX6_run_60 rfl rfl ?_
          obtain ⟨r15, er15, hf⟩ := b_some hf
          refine aw_getR dX6_run_61 gfX6_19 er15 ?_
          refine aw_iload_n 1 dX6_run_64 rfl rfl ?_
          refine aw_aload_n 0 dX6_run_65 rfl rfl ?_
          obtain ⟨r16, er16, hf⟩ := b_some hf
          refine aw_getR dX6_run_66 gfX6_19 er16 ?_
          refine aw_iload_n 1 dX6_run_69 rfl rfl ?_
          obtain ⟨q17, eq17, hf⟩ := b_some hf
          refine aw_cV (as := [.int l1]) dX6_run_70 moX0_leftOf voX0_leftOf mlX6_119 (k_X0_leftOf eq17) rfl (rm_ok (by omega) (by decide)) ⟨Nat.le_refl _, Nat.le_refl _⟩ (Nat.le_of_ble_eq_true rfl) rfl (c_X0_leftOf eq17) ?_
          obtain ⟨q18, eq18, hf⟩ := b_some hf
          refine aw_cV0 (as := [.ref r15, .int l1, .int q17.1]) dX6_run_73 moX1_open voX1_open mlX6_164 (k_X1_open eq18) rfl (rm_ok (by omega) (by decide)) ⟨Nat.le_refl _, Nat.le_refl _⟩ (Nat.le_of_ble_eq_true rfl) rfl (c_X1_open eq18) ?_
          refine aw_aload_n 0 dX6_run_76 rfl rfl ?_
          obtain ⟨r19, er19, hf⟩ := b_some hf
          refine aw_getR dX6_run_77 gfX6_39 er19 ?_
          obtain ⟨q20, eq20, hf⟩ := b_some hf
          refine aw_cV (as := []) dX6_run_80 moX1_canEnd voX1_canEnd mlX6_168 (k_X1_canEnd eq20) rfl (rm_ok (by omega) (by decide)) ⟨Nat.le_refl _, Nat.le_refl _⟩ (Nat.le_of_ble_eq_true rfl) rfl (c_X1_canEnd eq20) ?_
          refine aw_if_ne (tgt := 88) dX6_run_83 (by decide) (fun c21 => ?_) (fun c21 => ?_)
          · have hf := i_neg c21 hf
            refine aw_aload_n 0 dX6_run_88 rfl rfl ?_
            obtain ⟨r22, er22, hf⟩ := b_some hf
            refine aw_getR dX6_run_89 gfX6_19 er22 ?_
            refine aw_iload_n 2 dX6_run_92 rfl rfl ?_
            refine aw_iload_n 1 dX6_run_93 rfl rfl ?_
            obtain ⟨q23, eq23, hf⟩ := b_some hf
            refine aw_cV (as := [.int l2, .int l1]) dX6_run_94 moX0_foe voX0_foe mlX6_138 (k_X0_foe eq23) rfl (rm_ok (by omega) (by decide)) ⟨Nat.le_refl _, Nat.le_refl _⟩ (Nat.le_of_ble_eq_true rfl) rfl (c_X0_foe eq23) ?_
            refine aw_iconst (v := -1) dX6_run_97 (by decide) ?_
            refine aw_icmp_ne (tgt := 110) dX6_run_98 (by decide) (fun c24 => ?_) (fun c24 => ?_)
            · have hf := i_neg c24 hf
              refine aw_aload_n 0 dX6_run_110 rfl rfl ?_
              obtain ⟨r25, er25, hf⟩ := b_some hf
              refine aw_getR dX6_run_111 gfX6_19 er25 ?_
              obtain ⟨r26, er26, hf⟩ := b_some hf
              refine aw_getR dX6_run_114 gfX6_126 er26 ?_
              refine aw_iload_n 2 dX6_run_117 rfl rfl ?_
              obtain ⟨x27, ex27, hf⟩ := b_some hf
              refine aw_iald dX6_run_118 ex27 ?_
              refine aw_iload_n 1 dX6_run_119 rfl rfl ?_
              refine aw_icmp_ne (tgt := 127) dX6_run_120 (by decide) (fun c28 => ?_) (fun c28 => ?_)
              · have hf := i_neg c28 hf
                refine aw_iconst (v := 2) dX6_run_127 (by decide) ?_
                have hq := Option.some.inj hf
                subst hq
                exact aw_iret hr dX6_run_128 ⟨rfl, rfl, rfl⟩
              · have hf := i_pos c28 hf
                refine aw_iconst (v := 1) dX6_run_123 (by decide) ?_
                refine aw_goto (tgt := 128) dX6_run_124 (by decide) ?_
                have hq := Option.some.inj hf
                subst hq
                exact aw_iret hr dX6_run_128 ⟨rfl, rfl, rfl⟩
            · have hf := i_pos c24 hf
              refine aw_aload_n 0 dX6_run_101 rfl rfl ?_
              obtain ⟨r29, er29, hf⟩ := b_some hf
              refine aw_getR dX6_run_102 gfX6_39 er29 ?_
              refine aw_iload_n 2 dX6_run_105 rfl rfl ?_
              obtain ⟨q30, eq30, hf⟩ := b_some hf
              refine aw_cV (as := [.int l2]) dX6_run_106 moX1_pickOf voX1_pickOf mlX6_172 (k_X1_pickOf eq30) rfl (rm_ok (by omega) (by decide)) ⟨Nat.le_refl _, Nat.le_refl _⟩ (Nat.le_of_ble_eq_true rfl) rfl (c_X1_pickOf eq30) ?_
              have hq := Option.some.inj hf
              subst hq
              exact aw_iret hr dX6_run_109 ⟨rfl, rfl, rfl⟩
          · have hf := i_pos c21 hf
            refine aw_iconst (v := -1) dX6_run_86 (by decide) ?_
            have hq := Option.some.inj hf
            subst hq
            exact aw_iret hr dX6_run_87 ⟨rfl, rfl, rfl⟩
        · have hf := i_neg c13 hf
          refine aw_iconst (v := -1) dX6_run_54 (by decide) ?_
          have hq := Option.some.inj hf
          subst hq
          exact aw_iret hr dX6_run_55 ⟨rfl, rfl, rfl⟩
      · have hf := i_pos c9 hf
        refine aw_bipush (v := -3) dX6_run_36 (by decide) ?_
        have hq := Option.some.inj hf
        subst hq
        exact aw_iret hr dX6_run_38 ⟨rfl, rfl, rfl⟩
    · have hf := i_pos c6 hf
      refine aw_bipush (v := -2) dX6_run_22 (by decide) ?_
      have hq := Option.some.inj hf
      subst hq
      exact aw_iret hr dX6_run_24 ⟨rfl, rfl, rfl⟩
theorem k_X6_run {l0 : Nat} {l1 : Int32} {l2 : Int32} {h0 : Hp} {q : Int32 × Hp} (hf : f_X6_run l0 l1 l2 h0 = some q) : ck h0 l0 6 = some () := by
  unfold f_X6_run at hf
  obtain ⟨u0, e0, hf⟩ := b_some hf
  exact e0
theorem dX6_set_0 : decode cX6_set 0 = .ok (.aload_n 0, 1) := by decide +kernel
theorem dX6_set_1 : decode cX6_set 1 = .ok (.getfield 19, 3) := by decide +kernel
theorem dX6_set_4 : decode cX6_set 4 = .ok (.iload_n 1, 1) := by decide +kernel
theorem dX6_set_5 : decode cX6_set 5 = .ok (.invokevirtual 102, 3) := by decide +kernel
theorem dX6_set_8 : decode cX6_set 8 = .ok (.ifCond .eq 10, 3) := by decide +kernel
theorem dX6_set_11 : decode cX6_set 11 = .ok (.iload_n 2, 1) := by decide +kernel
theorem dX6_set_12 : decode cX6_set 12 = .ok (.invokestatic 152, 3) := by decide +kernel
theorem dX6_set_15 : decode cX6_set 15 = .ok (.ifCond .ne 6, 3) := by decide +kernel
theorem dX6_set_18 : decode cX6_set 18 = .ok (.bipush (-2), 2) := by decide +kernel
theorem dX6_set_20 : decode cX6_set 20 = .ok (.ireturn, 1) := by decide +kernel
theorem dX6_set_21 : decode cX6_set 21 = .ok (.aload_n 0, 1) := by decide +kernel
theorem dX6_set_22 : decode cX6_set 22 = .ok (.getfield 32, 3) := by decide +kernel
theorem dX6_set_25 : decode cX6_set 25 = .ok (.aload_n 0, 1) := by decide +kernel
theorem dX6_set_26 : decode cX6_set 26 = .ok (.getfield 19, 3) := by decide +kernel
theorem dX6_set_29 : decode cX6_set 29 = .ok (.iload_n 1, 1) := by decide +kernel
theorem dX6_set_30 : decode cX6_set 30 = .ok (.invokevirtual 155, 3) := by decide +kernel
theorem dX6_set_33 : decode cX6_set 33 = .ok (.pop, 1) := by decide +kernel
theorem dX6_set_34 : decode cX6_set 34 = .ok (.iload_n 2, 1) := by decide +kernel
theorem dX6_set_35 : decode cX6_set 35 = .ok (.ifCond .ne 13, 3) := by decide +kernel
theorem dX6_set_38 : decode cX6_set 38 = .ok (.aload_n 0, 1) := by decide +kernel
theorem dX6_set_39 : decode cX6_set 39 = .ok (.getfield 32, 3) := by decide +kernel
theorem dX6_set_42 : decode cX6_set 42 = .ok (.getfield 158, 3) := by decide +kernel
theorem dX6_set_45 : decode cX6_set 45 = .ok (.goto 10, 3) := by decide +kernel
theorem dX6_set_48 : decode cX6_set 48 = .ok (.aload_n 0, 1) := by decide +kernel
theorem dX6_set_49 : decode cX6_set 49 = .ok (.getfield 32, 3) := by decide +kernel
theorem dX6_set_52 : decode cX6_set 52 = .ok (.getfield 161, 3) := by decide +kernel
theorem dX6_set_55 : decode cX6_set 55 = .ok (.ireturn, 1) := by decide +kernel
def f_X6_set (l0 : Nat) (l1 : Int32) (l2 : Int32) (h0 : Hp) : Option (Int32 × Hp) :=
  (ck h0 l0 6).bind fun _ => (gR h0 l0 6 1).bind fun r1 => (f_X0_hasTeam r1 l1 h0).bind fun q2 => if q2.1 = 0 then (some ((-2 : Int32), q2.2)) else ((f_X6_isPart l2 q2.2).bind fun q4 => if q4.1 = 0 then (some ((-2 : Int32), q4.2)) else ((gR q4.2 l0 6 4).bind fun r6 => (gR q4.2 l0 6 1).bind fun r7 => (f_X3_find r6 r7 l1 q4.2).bind fun q8 => if l2 = 0 then ((gR q8.2 l0 6 4).bind fun r12 => (gI q8.2 r12 3 3).bind fun x13 => some (x13, q8.2)) else ((gR q8.2 l0 6 4).bind fun r10 => (gI q8.2 r10 3 4).bind fun x11 => some (x11, q8.2))))
set_option maxRecDepth 100000 in
set_option maxHeartbeats 4000000 in
theorem c_X6_set {l0 : Nat} {l1 : Int32} {l2 : Int32} {h0 : Hp} {q : Int32 × Hp} (hf : f_X6_set l0 l1 l2 h0 = some q) : Mt 5 yX6_set cX6_set 3 (some .int) [.ref l0, .int l1, .int l2] h0 (some (.int q.1)) q.2 := by
  refine MtQ.of (by decide) (Nat.le_of_ble_eq_true rfl) (fun X adr hr hn => ?_)
  unfold f_X6_set at hf
  show AW X cX6_set 3 RX6 (rmd 5 0 0) (Qmet X 0 0 (Qe (some (.int q.1)) q.2 adr)) 0 0 adr h0 0 [(0, .ref l0), (1, .int l1), (2, .int l2)] []
  obtain ⟨u0, e0, hf⟩ := b_some hf
  refine aw_aload_n 0 dX6_set_0 rfl rfl ?_
  obtain ⟨r1, er1, hf⟩ := b_some hf
  refine aw_getR dX6_set_1 gfX6_19 er1 ?_
  refine aw_iload_n 1 dX6_set_4 rfl rfl ?_
  obtain ⟨q2, eq2, hf⟩ := b_some hf
  refine aw_cV (as := [.int l1]) dX6_set_5 moX0_hasTeam voX0_hasTeam mlX6_102 (k_X0_hasTeam eq2) rfl (rm_ok (by omega) (by decide)) ⟨Nat.le_refl _, Nat.le_refl _⟩ (Nat.le_of_ble_eq_true rfl) rfl (c_X0_hasTeam eq2) ?_
  refine aw_if_eq (tgt := 18) dX6_set_8 (by decide) (fun c3 => ?_) (fun c3 => ?_)
  · have hf := i_pos c3 hf
    refine aw_bipush (v := -2) dX6_set_18 (by decide) ?_
    have hq := Option.some.inj hf
    subst hq
    exact aw_iret hr dX6_set_20 ⟨rfl, rfl, rfl⟩
  · have hf := i_neg c3 hf
    refine aw_iload_n 2 dX6_set_11 rfl rfl ?_
    obtain ⟨q4, eq4, hf⟩ := b_some hf
    refine aw_cS (as := [.int l2]) dX6_set_12 moX6_isPart soX6_isPart mlX6_152 (rm_ok (by omega) (by decide)) ⟨Nat.le_refl _, Nat.le_refl _⟩ (Nat.le_of_ble_eq_true rfl) rfl (c_X6_isPart eq4) ?_
    refine aw_if_ne (tgt := 21) dX6_set_15 (by decide) (fun c5 => ?_) (fun c5 => ?_)
    · have hf := i_neg c5 hf
      refine aw_aload_n 0 dX6_set_21 rfl rfl ?_
      obtain ⟨r6, er6, hf⟩ := b_some hf
      refine aw_getR dX6_set_22 gfX6_32 er6 ?_
      refine aw_aload_n 0 dX6_set_25 rfl rfl ?_
      obtain ⟨r7, er7, hf⟩ := b_some hf
      refine aw_getR dX6_set_26 gfX6_19 er7 ?_
      refine aw_iload_n 1 dX6_set_29 rfl rfl ?_
      obtain ⟨q8, eq8, hf⟩ := b_some hf
      refine aw_cV (as := [.ref r7, .int l1]) dX6_set_30 moX3_find voX3_find mlX6_155 (k_X3_find eq8) rfl (rm_ok (by omega) (by decide)) ⟨Nat.le_refl _, Nat.le_refl _⟩ (Nat.le_of_ble_eq_true rfl) rfl (c_X3_find eq8) ?_
      refine aw_pop dX6_set_33 rfl ?_
      refine aw_iload_n 2 dX6_set_34 rfl rfl ?_
      refine aw_if_ne (tgt := 48) dX6_set_35 (by decide) (fun c9 => ?_) (fun c9 => ?_)
      · have hf := i_neg c9 hf
        refine aw_aload_n 0 dX6_set_48 rfl rfl ?_
        obtain ⟨r10, er10, hf⟩ := b_some hf
        refine aw_getR dX6_set_49 gfX6_32 er10 ?_
        obtain ⟨x11, ex11, hf⟩ := b_some hf
        refine aw_getI dX6_set_52 gfX6_161 ex11 ?_
        have hq := Option.some.inj hf
        subst hq
        exact aw_iret hr dX6_set_55 ⟨rfl, rfl, rfl⟩
      · have hf := i_pos c9 hf
        refine aw_aload_n 0 dX6_set_38 rfl rfl ?_
        obtain ⟨r12, er12, hf⟩ := b_some hf
        refine aw_getR dX6_set_39 gfX6_32 er12 ?_
        obtain ⟨x13, ex13, hf⟩ := b_some hf
        refine aw_getI dX6_set_42 gfX6_158 ex13 ?_
        refine aw_goto (tgt := 55) dX6_set_45 (by decide) ?_
        have hq := Option.some.inj hf
        subst hq
        exact aw_iret hr dX6_set_55 ⟨rfl, rfl, rfl⟩
    · have hf := i_pos c5 hf
      refine aw_bipush (v := -2) dX6_set_18 (by decide) ?_
      have hq := Option.some.inj hf
      subst hq
      exact aw_iret hr dX6_set_20 ⟨rfl, rfl, rfl⟩
theorem k_X6_set {l0 : Nat} {l1 : Int32} {l2 : Int32} {h0 : Hp} {q : Int32 × Hp} (hf : f_X6_set l0 l1 l2 h0 = some q) : ck h0 l0 6 = some () := by
  unfold f_X6_set at hf
  obtain ⟨u0, e0, hf⟩ := b_some hf
  exact e0
theorem dX6_sheet_0 : decode cX6_sheet 0 = .ok (.iload_n 1, 1) := by decide +kernel
theorem dX6_sheet_1 : decode cX6_sheet 1 = .ok (.invokestatic 227, 3) := by decide +kernel
theorem dX6_sheet_4 : decode cX6_sheet 4 = .ok (.ifCond .ne 6, 3) := by decide +kernel
theorem dX6_sheet_7 : decode cX6_sheet 7 = .ok (.bipush (-2), 2) := by decide +kernel
theorem dX6_sheet_9 : decode cX6_sheet 9 = .ok (.ireturn, 1) := by decide +kernel
theorem dX6_sheet_10 : decode cX6_sheet 10 = .ok (.iload_n 2, 1) := by decide +kernel
theorem dX6_sheet_11 : decode cX6_sheet 11 = .ok (.iconst (-1), 1) := by decide +kernel
theorem dX6_sheet_12 : decode cX6_sheet 12 = .ok (.if_icmp .ne 16, 3) := by decide +kernel
theorem dX6_sheet_15 : decode cX6_sheet 15 = .ok (.aload_n 0, 1) := by decide +kernel
theorem dX6_sheet_16 : decode cX6_sheet 16 = .ok (.getfield 56, 3) := by decide +kernel
theorem dX6_sheet_19 : decode cX6_sheet 19 = .ok (.iload_n 1, 1) := by decide +kernel
theorem dX6_sheet_20 : decode cX6_sheet 20 = .ok (.aaload, 1) := by decide +kernel
theorem dX6_sheet_21 : decode cX6_sheet 21 = .ok (.iconst (-1), 1) := by decide +kernel
theorem dX6_sheet_22 : decode cX6_sheet 22 = .ok (.iconst 0, 1) := by decide +kernel
theorem dX6_sheet_23 : decode cX6_sheet 23 = .ok (.invokevirtual 237, 3) := by decide +kernel
theorem dX6_sheet_26 : decode cX6_sheet 26 = .ok (.iconst 1, 1) := by decide +kernel
theorem dX6_sheet_27 : decode cX6_sheet 27 = .ok (.ireturn, 1) := by decide +kernel
theorem dX6_sheet_28 : decode cX6_sheet 28 = .ok (.iload_n 2, 1) := by decide +kernel
theorem dX6_sheet_29 : decode cX6_sheet 29 = .ok (.invokestatic 245, 3) := by decide +kernel
theorem dX6_sheet_32 : decode cX6_sheet 32 = .ok (.ifCond .eq 9, 3) := by decide +kernel
theorem dX6_sheet_35 : decode cX6_sheet 35 = .ok (.iload_n 3, 1) := by decide +kernel
theorem dX6_sheet_36 : decode cX6_sheet 36 = .ok (.bipush 40, 2) := by decide +kernel
theorem dX6_sheet_38 : decode cX6_sheet 38 = .ok (.if_icmp .le 6, 3) := by decide +kernel
theorem dX6_sheet_41 : decode cX6_sheet 41 = .ok (.bipush (-2), 2) := by decide +kernel
theorem dX6_sheet_43 : decode cX6_sheet 43 = .ok (.ireturn, 1) := by decide +kernel
theorem dX6_sheet_44 : decode cX6_sheet 44 = .ok (.iload_n 3, 1) := by decide +kernel
theorem dX6_sheet_45 : decode cX6_sheet 45 = .ok (.ifCond .ge 6, 3) := by decide +kernel
theorem dX6_sheet_48 : decode cX6_sheet 48 = .ok (.bipush (-14), 2) := by decide +kernel
theorem dX6_sheet_50 : decode cX6_sheet 50 = .ok (.ireturn, 1) := by decide +kernel
theorem dX6_sheet_51 : decode cX6_sheet 51 = .ok (.aload_n 0, 1) := by decide +kernel
theorem dX6_sheet_52 : decode cX6_sheet 52 = .ok (.getfield 56, 3) := by decide +kernel
theorem dX6_sheet_55 : decode cX6_sheet 55 = .ok (.iload_n 1, 1) := by decide +kernel
theorem dX6_sheet_56 : decode cX6_sheet 56 = .ok (.aaload, 1) := by decide +kernel
theorem dX6_sheet_57 : decode cX6_sheet 57 = .ok (.iload_n 2, 1) := by decide +kernel
theorem dX6_sheet_58 : decode cX6_sheet 58 = .ok (.iload_n 3, 1) := by decide +kernel
theorem dX6_sheet_59 : decode cX6_sheet 59 = .ok (.invokevirtual 237, 3) := by decide +kernel
theorem dX6_sheet_62 : decode cX6_sheet 62 = .ok (.iconst 1, 1) := by decide +kernel
theorem dX6_sheet_63 : decode cX6_sheet 63 = .ok (.ireturn, 1) := by decide +kernel
def f_X6_sheet (l0 : Nat) (l1 : Int32) (l2 : Int32) (l3 : Int32) (h0 : Hp) : Option (Int32 × Hp) :=
  (ck h0 l0 6).bind fun _ => (f_X6_isSheet l1 h0).bind fun q1 => if q1.1 = 0 then (some ((-2 : Int32), q1.2)) else (if l2 = (-1 : Int32) then ((gR q1.2 l0 6 7).bind fun r11 => (qL q1.2 r11 l1).bind fun r12 => (f_X2_become r12 (-1 : Int32) (0 : Int32) q1.2).bind fun q13 => some ((1 : Int32), q13.2)) else ((f_X6_isSort l2 q1.2).bind fun q4 => if q4.1 = 0 then (some ((-2 : Int32), q4.2)) else (if l3 ≤ (40 : Int32) then (if 0 ≤ l3 then ((gR q4.2 l0 6 7).bind fun r8 => (qL q4.2 r8 l1).bind fun r9 => (f_X2_become r9 l2 l3 q4.2).bind fun q10 => some ((1 : Int32), q10.2)) else (some ((-14 : Int32), q4.2))) else (some ((-2 : Int32), q4.2)))))
set_option maxRecDepth 100000 in
set_option maxHeartbeats 4000000 in
theorem c_X6_sheet {l0 : Nat} {l1 : Int32} {l2 : Int32} {l3 : Int32} {h0 : Hp} {q : Int32 × Hp} (hf : f_X6_sheet l0 l1 l2 l3 h0 = some q) : Mt 2 yX6_sheet cX6_sheet 4 (some .int) [.ref l0, .int l1, .int l2, .int l3] h0 (some (.int q.1)) q.2 := by
  refine MtQ.of (by decide) (Nat.le_of_ble_eq_true rfl) (fun X adr hr hn => ?_)
  unfold f_X6_sheet at hf
  show AW X cX6_sheet 4 RX6 (rmd 2 0 0) (Qmet X 0 0 (Qe (some (.int q.1)) q.2 adr)) 0 0 adr h0 0 [(0, .ref l0), (1, .int l1), (2, .int l2), (3, .int l3)] []
  obtain ⟨u0, e0, hf⟩ := b_some hf
  refine aw_iload_n 1 dX6_sheet_0 rfl rfl ?_
  obtain ⟨q1, eq1, hf⟩ := b_some hf
  refine aw_cS (as := [.int l1]) dX6_sheet_1 moX6_isSheet soX6_isSheet mlX6_227 (rm_ok (by omega) (by decide)) ⟨Nat.le_refl _, Nat.le_refl _⟩ (Nat.le_of_ble_eq_true rfl) rfl (c_X6_isSheet eq1) ?_
  refine aw_if_ne (tgt := 10) dX6_sheet_4 (by decide) (fun c2 => ?_) (fun c2 => ?_)
  · have hf := i_neg c2 hf
    refine aw_iload_n 2 dX6_sheet_10 rfl rfl ?_
    refine aw_iconst (v := -1) dX6_sheet_11 (by decide) ?_
    refine aw_icmp_ne (tgt := 28) dX6_sheet_12 (by decide) (fun c3 => ?_) (fun c3 => ?_)
    · have hf := i_neg c3 hf
      refine aw_iload_n 2 dX6_sheet_28 rfl rfl ?_
      obtain ⟨q4, eq4, hf⟩ := b_some hf
      refine aw_cS (as := [.int l2]) dX6_sheet_29 moX6_isSort soX6_isSort mlX6_245 (rm_ok (by omega) (by decide)) ⟨Nat.le_refl _, Nat.le_refl _⟩ (Nat.le_of_ble_eq_true rfl) rfl (c_X6_isSort eq4) ?_
      refine aw_if_eq (tgt := 41) dX6_sheet_32 (by decide) (fun c5 => ?_) (fun c5 => ?_)
      · have hf := i_pos c5 hf
        refine aw_bipush (v := -2) dX6_sheet_41 (by decide) ?_
        have hq := Option.some.inj hf
        subst hq
        exact aw_iret hr dX6_sheet_43 ⟨rfl, rfl, rfl⟩
      · have hf := i_neg c5 hf
        refine aw_iload_n 3 dX6_sheet_35 rfl rfl ?_
        refine aw_bipush (v := 40) dX6_sheet_36 (by decide) ?_
        refine aw_icmp_le (tgt := 44) dX6_sheet_38 (by decide) (fun c6 => ?_) (fun c6 => ?_)
        · have hf := i_pos c6 hf
          refine aw_iload_n 3 dX6_sheet_44 rfl rfl ?_
          refine aw_if_ge (tgt := 51) dX6_sheet_45 (by decide) (fun c7 => ?_) (fun c7 => ?_)
          · have hf := i_pos c7 hf
            refine aw_aload_n 0 dX6_sheet_51 rfl rfl ?_
            obtain ⟨r8, er8, hf⟩ := b_some hf
            refine aw_getR dX6_sheet_52 gfX6_56 er8 ?_
            refine aw_iload_n 1 dX6_sheet_55 rfl rfl ?_
            obtain ⟨r9, er9, hf⟩ := b_some hf
            refine aw_aald dX6_sheet_56 er9 ?_
            refine aw_iload_n 2 dX6_sheet_57 rfl rfl ?_
            refine aw_iload_n 3 dX6_sheet_58 rfl rfl ?_
            obtain ⟨q10, eq10, hf⟩ := b_some hf
            refine aw_cV0 (as := [.int l2, .int l3]) dX6_sheet_59 moX2_become voX2_become mlX6_237 (k_X2_become eq10) rfl (rm_ok (by omega) (by decide)) ⟨Nat.le_refl _, Nat.le_refl _⟩ (Nat.le_of_ble_eq_true rfl) rfl (c_X2_become eq10) ?_
            refine aw_iconst (v := 1) dX6_sheet_62 (by decide) ?_
            have hq := Option.some.inj hf
            subst hq
            exact aw_iret hr dX6_sheet_63 ⟨rfl, rfl, rfl⟩
          · have hf := i_neg c7 hf
            refine aw_bipush (v := -14) dX6_sheet_48 (by decide) ?_
            have hq := Option.some.inj hf
            subst hq
            exact aw_iret hr dX6_sheet_50 ⟨rfl, rfl, rfl⟩
        · have hf := i_neg c6 hf
          refine aw_bipush (v := -2) dX6_sheet_41 (by decide) ?_
          have hq := Option.some.inj hf
          subst hq
          exact aw_iret hr dX6_sheet_43 ⟨rfl, rfl, rfl⟩
    · have hf := i_pos c3 hf
      refine aw_aload_n 0 dX6_sheet_15 rfl rfl ?_
      obtain ⟨r11, er11, hf⟩ := b_some hf
      refine aw_getR dX6_sheet_16 gfX6_56 er11 ?_
      refine aw_iload_n 1 dX6_sheet_19 rfl rfl ?_
      obtain ⟨r12, er12, hf⟩ := b_some hf
      refine aw_aald dX6_sheet_20 er12 ?_
      refine aw_iconst (v := -1) dX6_sheet_21 (by decide) ?_
      refine aw_iconst (v := 0) dX6_sheet_22 (by decide) ?_
      obtain ⟨q13, eq13, hf⟩ := b_some hf
      refine aw_cV0 (as := [.int (-1 : Int32), .int (0 : Int32)]) dX6_sheet_23 moX2_become voX2_become mlX6_237 (k_X2_become eq13) rfl (rm_ok (by omega) (by decide)) ⟨Nat.le_refl _, Nat.le_refl _⟩ (Nat.le_of_ble_eq_true rfl) rfl (c_X2_become eq13) ?_
      refine aw_iconst (v := 1) dX6_sheet_26 (by decide) ?_
      have hq := Option.some.inj hf
      subst hq
      exact aw_iret hr dX6_sheet_27 ⟨rfl, rfl, rfl⟩
  · have hf := i_pos c2 hf
    refine aw_bipush (v := -2) dX6_sheet_7 (by decide) ?_
    have hq := Option.some.inj hf
    subst hq
    exact aw_iret hr dX6_sheet_9 ⟨rfl, rfl, rfl⟩
theorem k_X6_sheet {l0 : Nat} {l1 : Int32} {l2 : Int32} {l3 : Int32} {h0 : Hp} {q : Int32 × Hp} (hf : f_X6_sheet l0 l1 l2 l3 h0 = some q) : ck h0 l0 6 = some () := by
  unfold f_X6_sheet at hf
  obtain ⟨u0, e0, hf⟩ := b_some hf
  exact e0
theorem dX6_since_0 : decode cX6_since 0 = .ok (.aload_n 0, 1) := by decide +kernel
theorem dX6_since_1 : decode cX6_since 1 = .ok (.getfield 19, 3) := by decide +kernel
theorem dX6_since_4 : decode cX6_since 4 = .ok (.iload_n 1, 1) := by decide +kernel
theorem dX6_since_5 : decode cX6_since 5 = .ok (.invokevirtual 102, 3) := by decide +kernel
theorem dX6_since_8 : decode cX6_since 8 = .ok (.ifCond .eq 10, 3) := by decide +kernel
theorem dX6_since_11 : decode cX6_since 11 = .ok (.iload_n 2, 1) := by decide +kernel
theorem dX6_since_12 : decode cX6_since 12 = .ok (.invokestatic 152, 3) := by decide +kernel
theorem dX6_since_15 : decode cX6_since 15 = .ok (.ifCond .ne 6, 3) := by decide +kernel
theorem dX6_since_18 : decode cX6_since 18 = .ok (.bipush (-2), 2) := by decide +kernel
theorem dX6_since_20 : decode cX6_since 20 = .ok (.ireturn, 1) := by decide +kernel
theorem dX6_since_21 : decode cX6_since 21 = .ok (.iconst 0, 1) := by decide +kernel
theorem dX6_since_22 : decode cX6_since 22 = .ok (.istore_n 3, 1) := by decide +kernel
theorem dX6_since_23 : decode cX6_since 23 = .ok (.iload_n 3, 1) := by decide +kernel
theorem dX6_since_24 : decode cX6_since 24 = .ok (.bipush 30, 2) := by decide +kernel
theorem dX6_since_26 : decode cX6_since 26 = .ok (.if_icmp .gt 79, 3) := by decide +kernel
theorem dX6_since_29 : decode cX6_since 29 = .ok (.iload_n 3, 1) := by decide +kernel
theorem dX6_since_30 : decode cX6_since 30 = .ok (.ifCond .le 17, 3) := by decide +kernel
theorem dX6_since_33 : decode cX6_since 33 = .ok (.aload_n 0, 1) := by decide +kernel
theorem dX6_since_34 : decode cX6_since 34 = .ok (.getfield 19, 3) := by decide +kernel
theorem dX6_since_37 : decode cX6_since 37 = .ok (.iload_n 3, 1) := by decide +kernel
theorem dX6_since_38 : decode cX6_since 38 = .ok (.invokevirtual 187, 3) := by decide +kernel
theorem dX6_since_41 : decode cX6_since 41 = .ok (.ifCond .ne 6, 3) := by decide +kernel
theorem dX6_since_44 : decode cX6_since 44 = .ok (.goto 55, 3) := by decide +kernel
theorem dX6_since_47 : decode cX6_since 47 = .ok (.aload_n 0, 1) := by decide +kernel
theorem dX6_since_48 : decode cX6_since 48 = .ok (.getfield 26, 3) := by decide +kernel
theorem dX6_since_51 : decode cX6_since 51 = .ok (.aload_n 0, 1) := by decide +kernel
theorem dX6_since_52 : decode cX6_since 52 = .ok (.getfield 19, 3) := by decide +kernel
theorem dX6_since_55 : decode cX6_since 55 = .ok (.invokevirtual 190, 3) := by decide +kernel
theorem dX6_since_58 : decode cX6_since 58 = .ok (.aload_n 0, 1) := by decide +kernel
theorem dX6_since_59 : decode cX6_since 59 = .ok (.getfield 26, 3) := by decide +kernel
theorem dX6_since_62 : decode cX6_since 62 = .ok (.iload_n 3, 1) := by decide +kernel
theorem dX6_since_63 : decode cX6_since 63 = .ok (.invokevirtual 194, 3) := by decide +kernel
theorem dX6_since_66 : decode cX6_since 66 = .ok (.iload_n 2, 1) := by decide +kernel
theorem dX6_since_67 : decode cX6_since 67 = .ok (.ifCond .ne 18, 3) := by decide +kernel
theorem dX6_since_70 : decode cX6_since 70 = .ok (.aload_n 0, 1) := by decide +kernel
theorem dX6_since_71 : decode cX6_since 71 = .ok (.aload_n 0, 1) := by decide +kernel
theorem dX6_since_72 : decode cX6_since 72 = .ok (.getfield 26, 3) := by decide +kernel
theorem dX6_since_75 : decode cX6_since 75 = .ok (.iload_n 1, 1) := by decide +kernel
theorem dX6_since_76 : decode cX6_since 76 = .ok (.invokevirtual 144, 3) := by decide +kernel
theorem dX6_since_79 : decode cX6_since 79 = .ok (.ifCond .ne 20, 3) := by decide +kernel
theorem dX6_since_82 : decode cX6_since 82 = .ok (.goto 15, 3) := by decide +kernel
theorem dX6_since_85 : decode cX6_since 85 = .ok (.aload_n 0, 1) := by decide +kernel
theorem dX6_since_86 : decode cX6_since 86 = .ok (.aload_n 0, 1) := by decide +kernel
theorem dX6_since_87 : decode cX6_since 87 = .ok (.getfield 26, 3) := by decide +kernel
theorem dX6_since_90 : decode cX6_since 90 = .ok (.iload_n 1, 1) := by decide +kernel
theorem dX6_since_91 : decode cX6_since 91 = .ok (.invokevirtual 197, 3) := by decide +kernel
theorem dX6_since_94 : decode cX6_since 94 = .ok (.ifCond .eq 5, 3) := by decide +kernel
theorem dX6_since_97 : decode cX6_since 97 = .ok (.iload_n 3, 1) := by decide +kernel
theorem dX6_since_98 : decode cX6_since 98 = .ok (.ireturn, 1) := by decide +kernel
theorem dX6_since_99 : decode cX6_since 99 = .ok (.iinc 3 1, 3) := by decide +kernel
theorem dX6_since_102 : decode cX6_since 102 = .ok (.goto (-79), 3) := by decide +kernel
theorem dX6_since_105 : decode cX6_since 105 = .ok (.iconst (-1), 1) := by decide +kernel
theorem dX6_since_106 : decode cX6_since 106 = .ok (.ireturn, 1) := by decide +kernel
def f_X6_since_47 (k23 : Nat × Int32 × Int32 × Int32 → Hp → Option (Int32 × Hp)) (l0 : Nat) (l1 : Int32) (l2 : Int32) (l3 : Int32) (h0 : Hp) : Option (Int32 × Hp) :=
  (gR h0 l0 6 3).bind fun r1 => (gR h0 l0 6 1).bind fun r2 => (f_X0_takeFrom r1 r2 h0).bind fun q3 => (gR q3.2 l0 6 3).bind fun r4 => (f_X0_forget r4 l3 q3.2).bind fun q5 => if l2 = 0 then ((gR q5.2 l0 6 3).bind fun r11 => (f_X6_canWin l0 r11 l1 q5.2).bind fun q12 => if q12.1 = 0 then (some (l3, q12.2)) else ((some (l3 + 1)).bind fun x14 => k23 (l0, l1, l2, x14) q12.2)) else ((gR q5.2 l0 6 3).bind fun r7 => (f_X6_isSure l0 r7 l1 q5.2).bind fun q8 => if q8.1 = 0 then ((some (l3 + 1)).bind fun x10 => k23 (l0, l1, l2, x10) q8.2) else (some (l3, q8.2)))
set_option maxRecDepth 100000 in
set_option maxHeartbeats 4000000 in
theorem c_X6_since_47 {X : Cx} {adr : Nat → Nat} {q : Int32 × Hp} (hr : (mth X).sig.returnType = (some .int)) {k23 : Nat × Int32 × Int32 × Int32 → Hp → Option (Int32 × Hp)} (hk23 : ∀ v h, k23 v h = some q → AW X cX6_since 4 RX6 (rmd 28 0 0) (Qmet X 0 0 (Qe (some (.int q.1)) q.2 adr)) 0 0 adr h 23 [(0, .ref v.1), (1, .int v.2.1), (2, .int v.2.2.1), (3, .int v.2.2.2)] []) {l0 : Nat} {l1 : Int32} {l2 : Int32} {l3 : Int32} {h0 : Hp} (hf : f_X6_since_47 k23 l0 l1 l2 l3 h0 = some q) : AW X cX6_since 4 RX6 (rmd 28 0 0) (Qmet X 0 0 (Qe (some (.int q.1)) q.2 adr)) 0 0 adr h0 47 [(0, .ref l0), (1, .int l1), (2, .int l2), (3, .int l3)] [] := by
  unfold f_X6_since_47 at hf
  refine aw_aload_n 0 dX6_since_47 rfl rfl ?_
  obtain ⟨r1, er1, hf⟩ := b_some hf
  refine aw_getR dX6_since_48 gfX6_26 er1 ?_
  refine aw_aload_n 0 dX6_since_51 rfl rfl ?_
  obtain ⟨r2, er2, hf⟩ := b_some hf
  refine aw_getR dX6_since_52 gfX6_19 er2 ?_
  obtain ⟨q3, eq3, hf⟩ := b_some hf
  refine aw_cV0 (as := [.ref r2]) dX6_since_55 moX0_takeFrom voX0_takeFrom mlX6_190 (k_X0_takeFrom eq3) rfl (rm_ok (by omega) (by decide)) ⟨Nat.le_refl _, Nat.le_refl _⟩ (Nat.le_of_ble_eq_true rfl) rfl (c_X0_takeFrom eq3) ?_
  refine aw_aload_n 0 dX6_since_58 rfl rfl ?_
  obtain ⟨r4, er4, hf⟩ := b_some hf
  refine aw_getR dX6_since_59 gfX6_26 er4 ?_
  refine aw_iload_n 3 dX6_since_62 rfl rfl ?_
  obtain ⟨q5, eq5, hf⟩ := b_some hf
  refine aw_cV0 (as := [.int l3]) dX6_since_63 moX0_forget voX0_forget mlX6_194 (k_X0_forget eq5) rfl (rm_ok (by omega) (by decide)) ⟨Nat.le_refl _, Nat.le_refl _⟩ (Nat.le_of_ble_eq_true rfl) rfl (c_X0_forget eq5) ?_
  refine aw_iload_n 2 dX6_since_66 rfl rfl ?_
  refine aw_if_ne (tgt := 85) dX6_since_67 (by decide) (fun c6 => ?_) (fun c6 => ?_)
  · have hf := i_neg c6 hf
    refine aw_aload_n 0 dX6_since_85 rfl rfl ?_
    refine aw_aload_n 0 dX6_since_86 rfl rfl ?_
    obtain ⟨r7, er7, hf⟩ := b_some hf
    refine aw_getR dX6_since_87 gfX6_26 er7 ?_
    refine aw_iload_n 1 dX6_since_90 rfl rfl ?_
    obtain ⟨q8, eq8, hf⟩ := b_some hf
    refine aw_cV (as := [.ref r7, .int l1]) dX6_since_91 moX6_isSure voX6_isSure mlX6_197 (k_X6_isSure eq8) rfl (rm_ok (by omega) (by decide)) ⟨Nat.le_refl _, Nat.le_refl _⟩ (Nat.le_of_ble_eq_true rfl) rfl (c_X6_isSure eq8) ?_
    refine aw_if_eq (tgt := 99) dX6_since_94 (by decide) (fun c9 => ?_) (fun c9 => ?_)
    · have hf := i_pos c9 hf
      obtain ⟨x10, ex10, hf⟩ := b_some hf
      refine aw_iinc (v := x10) (L' := [(3, .int x10), (0, .ref l0), (1, .int l1), (2, .int l2)]) 3 dX6_since_99 rfl (Option.some.inj ex10) (by decide) rfl ?_
      refine aw_goto (tgt := 23) dX6_since_102 (by decide) ?_
      exact aw_sub [1, 2, 3, 0] rfl (hk23 _ _ hf)
    · have hf := i_neg c9 hf
      refine aw_iload_n 3 dX6_since_97 rfl rfl ?_
      have hq := Option.some.inj hf
      subst hq
      exact aw_iret hr dX6_since_98 ⟨rfl, rfl, rfl⟩
  · have hf := i_pos c6 hf
    refine aw_aload_n 0 dX6_since_70 rfl rfl ?_
    refine aw_aload_n 0 dX6_since_71 rfl rfl ?_
    obtain ⟨r11, er11, hf⟩ := b_some hf
    refine aw_getR dX6_since_72 gfX6_26 er11 ?_
    refine aw_iload_n 1 dX6_since_75 rfl rfl ?_
    obtain ⟨q12, eq12, hf⟩ := b_some hf
    refine aw_cV (as := [.ref r11, .int l1]) dX6_since_76 moX6_canWin voX6_canWin mlX6_144 (k_X6_canWin eq12) rfl (rm_ok (by omega) (by decide)) ⟨Nat.le_refl _, Nat.le_refl _⟩ (Nat.le_of_ble_eq_true rfl) rfl (c_X6_canWin eq12) ?_
    refine aw_if_ne (tgt := 99) dX6_since_79 (by decide) (fun c13 => ?_) (fun c13 => ?_)
    · have hf := i_neg c13 hf
      obtain ⟨x14, ex14, hf⟩ := b_some hf
      refine aw_iinc (v := x14) (L' := [(3, .int x14), (0, .ref l0), (1, .int l1), (2, .int l2)]) 3 dX6_since_99 rfl (Option.some.inj ex14) (by decide) rfl ?_
      refine aw_goto (tgt := 23) dX6_since_102 (by decide) ?_
      exact aw_sub [1, 2, 3, 0] rfl (hk23 _ _ hf)
    · have hf := i_pos c13 hf
      refine aw_goto (tgt := 97) dX6_since_82 (by decide) ?_
      refine aw_iload_n 3 dX6_since_97 rfl rfl ?_
      have hq := Option.some.inj hf
      subst hq
      exact aw_iret hr dX6_since_98 ⟨rfl, rfl, rfl⟩
def f_X6_since_23 (k23 : Nat × Int32 × Int32 × Int32 → Hp → Option (Int32 × Hp)) (v : Nat × Int32 × Int32 × Int32) (h0 : Hp) : Option (Int32 × Hp) :=
  match v with
  | (l0, l1, l2, l3) => if (30 : Int32) < l3 then (some ((-1 : Int32), h0)) else (if l3 ≤ 0 then (f_X6_since_47 k23 l0 l1 l2 l3 h0) else ((gR h0 l0 6 1).bind fun r3 => (f_X0_wasPlayedOn r3 l3 h0).bind fun q4 => if q4.1 = 0 then ((some (l3 + 1)).bind fun x6 => k23 (l0, l1, l2, x6) q4.2) else (f_X6_since_47 k23 l0 l1 l2 l3 q4.2)))
set_option maxRecDepth 100000 in
set_option maxHeartbeats 4000000 in
theorem c_X6_since_23 {X : Cx} {adr : Nat → Nat} {q : Int32 × Hp} (hr : (mth X).sig.returnType = (some .int)) (n : Nat) : ∀ v h0, lp (f_X6_since_23) n v h0 = some q → AW X cX6_since 4 RX6 (rmd 28 0 0) (Qmet X 0 0 (Qe (some (.int q.1)) q.2 adr)) 0 0 adr h0 23 [(0, .ref v.1), (1, .int v.2.1), (2, .int v.2.2.1), (3, .int v.2.2.2)] [] := by
  refine aw_lp (fun k23 hk23 v h0 hf => ?_) n
  obtain ⟨l0, l1, l2, l3⟩ := v
  unfold f_X6_since_23 at hf
  dsimp only at hf
  show AW X cX6_since 4 RX6 (rmd 28 0 0) (Qmet X 0 0 (Qe (some (.int q.1)) q.2 adr)) 0 0 adr h0 23 [(0, .ref l0), (1, .int l1), (2, .int l2), (3, .int l3)] []
  refine aw_iload_n 3 dX6_since_23 rfl rfl ?_
  refine aw_bipush (v := 30) dX6_since_24 (by decide) ?_
  refine aw_icmp_gt (tgt := 105) dX6_since_26 (by decide) (fun c1 => ?_) (fun c1 => ?_)
  · have hf := i_pos c1 hf
    refine aw_iconst (v := -1) dX6_since_105 (by decide) ?_
    have hq := Option.some.inj hf
    subst hq
    exact aw_iret hr dX6_since_106 ⟨rfl, rfl, rfl⟩
  · have hf := i_neg c1 hf
    refine aw_iload_n 3 dX6_since_29 rfl rfl ?_
    refine aw_if_le (tgt := 47) dX6_since_30 (by decide) (fun c2 => ?_) (fun c2 => ?_)
    · have hf := i_pos c2 hf
      exact aw_sub [0, 1, 2, 3] rfl (c_X6_since_47 hr hk23 hf)
    · have hf := i_neg c2 hf
      refine aw_aload_n 0 dX6_since_33 rfl rfl ?_
      obtain ⟨r3, er3, hf⟩ := b_some hf
      refine aw_getR dX6_since_34 gfX6_19 er3 ?_
      refine aw_iload_n 3 dX6_since_37 rfl rfl ?_
      obtain ⟨q4, eq4, hf⟩ := b_some hf
      refine aw_cV (as := [.int l3]) dX6_since_38 moX0_wasPlayedOn voX0_wasPlayedOn mlX6_187 (k_X0_wasPlayedOn eq4) rfl (rm_ok (by omega) (by decide)) ⟨Nat.le_refl _, Nat.le_refl _⟩ (Nat.le_of_ble_eq_true rfl) rfl (c_X0_wasPlayedOn eq4) ?_
      refine aw_if_ne (tgt := 47) dX6_since_41 (by decide) (fun c5 => ?_) (fun c5 => ?_)
      · have hf := i_neg c5 hf
        exact aw_sub [0, 1, 2, 3] rfl (c_X6_since_47 hr hk23 hf)
      · have hf := i_pos c5 hf
        refine aw_goto (tgt := 99) dX6_since_44 (by decide) ?_
        obtain ⟨x6, ex6, hf⟩ := b_some hf
        refine aw_iinc (v := x6) (L' := [(3, .int x6), (0, .ref l0), (1, .int l1), (2, .int l2)]) 3 dX6_since_99 rfl (Option.some.inj ex6) (by decide) rfl ?_
        refine aw_goto (tgt := 23) dX6_since_102 (by decide) ?_
        exact aw_sub [1, 2, 3, 0] rfl (hk23 _ _ hf)
def f_X6_since (l0 : Nat) (l1 : Int32) (l2 : Int32) (h0 : Hp) : Option (Int32 × Hp) :=
  (ck h0 l0 6).bind fun _ => (gR h0 l0 6 1).bind fun r1 => (f_X0_hasTeam r1 l1 h0).bind fun q2 => if q2.1 = 0 then (some ((-2 : Int32), q2.2)) else ((f_X6_isPart l2 q2.2).bind fun q4 => if q4.1 = 0 then (some ((-2 : Int32), q4.2)) else (lp (f_X6_since_23) 600 (l0, l1, l2, (0 : Int32)) q4.2))
set_option maxRecDepth 100000 in
set_option maxHeartbeats 4000000 in
theorem c_X6_since {l0 : Nat} {l1 : Int32} {l2 : Int32} {h0 : Hp} {q : Int32 × Hp} (hf : f_X6_since l0 l1 l2 h0 = some q) : Mt 28 yX6_since cX6_since 4 (some .int) [.ref l0, .int l1, .int l2] h0 (some (.int q.1)) q.2 := by
  refine MtQ.of (by decide) (Nat.le_of_ble_eq_true rfl) (fun X adr hr hn => ?_)
  unfold f_X6_since at hf
  show AW X cX6_since 4 RX6 (rmd 28 0 0) (Qmet X 0 0 (Qe (some (.int q.1)) q.2 adr)) 0 0 adr h0 0 [(0, .ref l0), (1, .int l1), (2, .int l2)] []
  obtain ⟨u0, e0, hf⟩ := b_some hf
  refine aw_aload_n 0 dX6_since_0 rfl rfl ?_
  obtain ⟨r1, er1, hf⟩ := b_some hf
  refine aw_getR dX6_since_1 gfX6_19 er1 ?_
  refine aw_iload_n 1 dX6_since_4 rfl rfl ?_
  obtain ⟨q2, eq2, hf⟩ := b_some hf
  refine aw_cV (as := [.int l1]) dX6_since_5 moX0_hasTeam voX0_hasTeam mlX6_102 (k_X0_hasTeam eq2) rfl (rm_ok (by omega) (by decide)) ⟨Nat.le_refl _, Nat.le_refl _⟩ (Nat.le_of_ble_eq_true rfl) rfl (c_X0_hasTeam eq2) ?_
  refine aw_if_eq (tgt := 18) dX6_since_8 (by decide) (fun c3 => ?_) (fun c3 => ?_)
  · have hf := i_pos c3 hf
    refine aw_bipush (v := -2) dX6_since_18 (by decide) ?_
    have hq := Option.some.inj hf
    subst hq
    exact aw_iret hr dX6_since_20 ⟨rfl, rfl, rfl⟩
  · have hf := i_neg c3 hf
    refine aw_iload_n 2 dX6_since_11 rfl rfl ?_
    obtain ⟨q4, eq4, hf⟩ := b_some hf
    refine aw_cS (as := [.int l2]) dX6_since_12 moX6_isPart soX6_isPart mlX6_152 (rm_ok (by omega) (by decide)) ⟨Nat.le_refl _, Nat.le_refl _⟩ (Nat.le_of_ble_eq_true rfl) rfl (c_X6_isPart eq4) ?_
    refine aw_if_ne (tgt := 21) dX6_since_15 (by decide) (fun c5 => ?_) (fun c5 => ?_)
    · have hf := i_neg c5 hf
      refine aw_iconst (v := 0) dX6_since_21 (by decide) ?_
      refine aw_istore_n (L' := [(3, .int (0 : Int32)), (0, .ref l0), (1, .int l1), (2, .int l2)]) dX6_since_22 rfl (by decide) rfl ?_
      exact aw_sub [1, 2, 3, 0] rfl (c_X6_since_23 hr 600 _ _ hf)
    · have hf := i_pos c5 hf
      refine aw_bipush (v := -2) dX6_since_18 (by decide) ?_
      have hq := Option.some.inj hf
      subst hq
      exact aw_iret hr dX6_since_20 ⟨rfl, rfl, rfl⟩
theorem k_X6_since {l0 : Nat} {l1 : Int32} {l2 : Int32} {h0 : Hp} {q : Int32 × Hp} (hf : f_X6_since l0 l1 l2 h0 = some q) : ck h0 l0 6 = some () := by
  unfold f_X6_since at hf
  obtain ⟨u0, e0, hf⟩ := b_some hf
  exact e0
theorem dX6_system_0 : decode cX6_system 0 = .ok (.iload_n 1, 1) := by decide +kernel
theorem dX6_system_1 : decode cX6_system 1 = .ok (.invokestatic 87, 3) := by decide +kernel
theorem dX6_system_4 : decode cX6_system 4 = .ok (.ifCond .ne 6, 3) := by decide +kernel
theorem dX6_system_7 : decode cX6_system 7 = .ok (.bipush (-2), 2) := by decide +kernel
theorem dX6_system_9 : decode cX6_system 9 = .ok (.ireturn, 1) := by decide +kernel
theorem dX6_system_10 : decode cX6_system 10 = .ok (.aload_n 0, 1) := by decide +kernel
theorem dX6_system_11 : decode cX6_system 11 = .ok (.getfield 19, 3) := by decide +kernel
theorem dX6_system_14 : decode cX6_system 14 = .ok (.getfield 90, 3) := by decide +kernel
theorem dX6_system_17 : decode cX6_system 17 = .ok (.istore_n 2, 1) := by decide +kernel
theorem dX6_system_18 : decode cX6_system 18 = .ok (.aload_n 0, 1) := by decide +kernel
theorem dX6_system_19 : decode cX6_system 19 = .ok (.getfield 19, 3) := by decide +kernel
theorem dX6_system_22 : decode cX6_system 22 = .ok (.iload_n 1, 1) := by decide +kernel
theorem dX6_system_23 : decode cX6_system 23 = .ok (.putfield 90, 3) := by decide +kernel
theorem dX6_system_26 : decode cX6_system 26 = .ok (.iload_n 2, 1) := by decide +kernel
theorem dX6_system_27 : decode cX6_system 27 = .ok (.ireturn, 1) := by decide +kernel
def f_X6_system (l0 : Nat) (l1 : Int32) (h0 : Hp) : Option (Int32 × Hp) :=
  (ck h0 l0 6).bind fun _ => (f_X6_isSystem l1 h0).bind fun q1 => if q1.1 = 0 then (some ((-2 : Int32), q1.2)) else ((gR q1.2 l0 6 1).bind fun r3 => (gI q1.2 r3 0 2).bind fun x4 => (gR q1.2 l0 6 1).bind fun r5 => (pI q1.2 r5 0 2 l1).bind fun h6 => some (x4, h6))
set_option maxRecDepth 100000 in
set_option maxHeartbeats 4000000 in
theorem c_X6_system {l0 : Nat} {l1 : Int32} {h0 : Hp} {q : Int32 × Hp} (hf : f_X6_system l0 l1 h0 = some q) : Mt 2 yX6_system cX6_system 3 (some .int) [.ref l0, .int l1] h0 (some (.int q.1)) q.2 := by
  refine MtQ.of (by decide) (Nat.le_of_ble_eq_true rfl) (fun X adr hr hn => ?_)
  unfold f_X6_system at hf
  show AW X cX6_system 3 RX6 (rmd 2 0 0) (Qmet X 0 0 (Qe (some (.int q.1)) q.2 adr)) 0 0 adr h0 0 [(0, .ref l0), (1, .int l1)] []
  obtain ⟨u0, e0, hf⟩ := b_some hf
  refine aw_iload_n 1 dX6_system_0 rfl rfl ?_
  obtain ⟨q1, eq1, hf⟩ := b_some hf
  refine aw_cS (as := [.int l1]) dX6_system_1 moX6_isSystem soX6_isSystem mlX6_87 (rm_ok (by omega) (by decide)) ⟨Nat.le_refl _, Nat.le_refl _⟩ (Nat.le_of_ble_eq_true rfl) rfl (c_X6_isSystem eq1) ?_
  refine aw_if_ne (tgt := 10) dX6_system_4 (by decide) (fun c2 => ?_) (fun c2 => ?_)
  · have hf := i_neg c2 hf
    refine aw_aload_n 0 dX6_system_10 rfl rfl ?_
    obtain ⟨r3, er3, hf⟩ := b_some hf
    refine aw_getR dX6_system_11 gfX6_19 er3 ?_
    obtain ⟨x4, ex4, hf⟩ := b_some hf
    refine aw_getI dX6_system_14 gfX6_90 ex4 ?_
    refine aw_istore_n (L' := [(2, .int x4), (0, .ref l0), (1, .int l1)]) dX6_system_17 rfl (by decide) rfl ?_
    refine aw_aload_n 1 dX6_system_18 rfl rfl ?_
    obtain ⟨r5, er5, hf⟩ := b_some hf
    refine aw_getR dX6_system_19 gfX6_19 er5 ?_
    refine aw_iload_n 2 dX6_system_22 rfl rfl ?_
    obtain ⟨h6, eh6, hf⟩ := b_some hf
    refine aw_putI dX6_system_23 pfX6_90 eh6 ?_
    refine aw_iload_n 0 dX6_system_26 rfl rfl ?_
    have hq := Option.some.inj hf
    subst hq
    exact aw_iret hr dX6_system_27 ⟨rfl, rfl, rfl⟩
  · have hf := i_pos c2 hf
    refine aw_bipush (v := -2) dX6_system_7 (by decide) ?_
    have hq := Option.some.inj hf
    subst hq
    exact aw_iret hr dX6_system_9 ⟨rfl, rfl, rfl⟩
theorem k_X6_system {l0 : Nat} {l1 : Int32} {h0 : Hp} {q : Int32 × Hp} (hf : f_X6_system l0 l1 h0 = some q) : ck h0 l0 6 = some () := by
  unfold f_X6_system at hf
  obtain ⟨u0, e0, hf⟩ := b_some hf
  exact e0
theorem dX6_tables_0 : decode cX6_tables 0 = .ok (.aload_n 0, 1) := by decide +kernel
theorem dX6_tables_1 : decode cX6_tables 1 = .ok (.getfield 19, 3) := by decide +kernel
theorem dX6_tables_4 : decode cX6_tables 4 = .ok (.invokevirtual 175, 3) := by decide +kernel
theorem dX6_tables_7 : decode cX6_tables 7 = .ok (.invokestatic 182, 3) := by decide +kernel
theorem dX6_tables_10 : decode cX6_tables 10 = .ok (.iconst 4, 1) := by decide +kernel
theorem dX6_tables_11 : decode cX6_tables 11 = .ok (.if_icmp .le 6, 3) := by decide +kernel
theorem dX6_tables_14 : decode cX6_tables 14 = .ok (.bipush (-6), 2) := by decide +kernel
theorem dX6_tables_16 : decode cX6_tables 16 = .ok (.ireturn, 1) := by decide +kernel
theorem dX6_tables_17 : decode cX6_tables 17 = .ok (.aload_n 0, 1) := by decide +kernel
theorem dX6_tables_18 : decode cX6_tables 18 = .ok (.getfield 46, 3) := by decide +kernel
theorem dX6_tables_21 : decode cX6_tables 21 = .ok (.aload_n 0, 1) := by decide +kernel
theorem dX6_tables_22 : decode cX6_tables 22 = .ok (.getfield 19, 3) := by decide +kernel
theorem dX6_tables_25 : decode cX6_tables 25 = .ok (.invokevirtual 206, 3) := by decide +kernel
theorem dX6_tables_28 : decode cX6_tables 28 = .ok (.aload_n 0, 1) := by decide +kernel
theorem dX6_tables_29 : decode cX6_tables 29 = .ok (.getfield 46, 3) := by decide +kernel
theorem dX6_tables_32 : decode cX6_tables 32 = .ok (.iconst 0, 1) := by decide +kernel
theorem dX6_tables_33 : decode cX6_tables 33 = .ok (.aload_n 0, 1) := by decide +kernel
theorem dX6_tables_34 : decode cX6_tables 34 = .ok (.getfield 19, 3) := by decide +kernel
theorem dX6_tables_37 : decode cX6_tables 37 = .ok (.aconst_null, 1) := by decide +kernel
theorem dX6_tables_38 : decode cX6_tables 38 = .ok (.invokevirtual 208, 3) := by decide +kernel
theorem dX6_tables_41 : decode cX6_tables 41 = .ok (.ireturn, 1) := by decide +kernel
def f_X6_tables (l0 : Nat) (h0 : Hp) : Option (Int32 × Hp) :=
  (ck h0 l0 6).bind fun _ => (gR h0 l0 6 1).bind fun r1 => (f_X0_left r1 h0).bind fun q2 => (f_J6_bitCount_0f7a4 q2.1 q2.2).bind fun q3 => if q3.1 ≤ (4 : Int32) then ((gR q3.2 l0 6 6).bind fun r5 => (gR q3.2 l0 6 1).bind fun r6 => (f_X5_open r5 r6 q3.2).bind fun q7 => (gR q7.2 l0 6 6).bind fun r8 => (gR q7.2 l0 6 1).bind fun r9 => (f_X5_fromN 12 r8 (0 : Int32) r9 q7.2).bind fun q10 => some (q10.1, q10.2)) else (some ((-6 : Int32), q3.2))
set_option maxRecDepth 100000 in
set_option maxHeartbeats 4000000 in
theorem c_X6_tables {l0 : Nat} {h0 : Hp} {q : Int32 × Hp} (hf : f_X6_tables l0 h0 = some q) : Mt 14 yX6_tables cX6_tables 1 (some .int) [.ref l0] h0 (some (.int q.1)) q.2 := by
  refine MtQ.of (by decide) (Nat.le_of_ble_eq_true rfl) (fun X adr hr hn => ?_)
  unfold f_X6_tables at hf
  show AW X cX6_tables 1 RX6 (rmd 14 0 0) (Qmet X 0 0 (Qe (some (.int q.1)) q.2 adr)) 0 0 adr h0 0 [(0, .ref l0)] []
  obtain ⟨u0, e0, hf⟩ := b_some hf
  refine aw_aload_n 0 dX6_tables_0 rfl rfl ?_
  obtain ⟨r1, er1, hf⟩ := b_some hf
  refine aw_getR dX6_tables_1 gfX6_19 er1 ?_
  obtain ⟨q2, eq2, hf⟩ := b_some hf
  refine aw_cV (as := []) dX6_tables_4 moX0_left voX0_left mlX6_175 (k_X0_left eq2) rfl (rm_ok (by omega) (by decide)) ⟨Nat.le_refl _, Nat.le_refl _⟩ (Nat.le_of_ble_eq_true rfl) rfl (c_X0_left eq2) ?_
  obtain ⟨q3, eq3, hf⟩ := b_some hf
  refine aw_cS (as := [.int q2.1]) dX6_tables_7 moJ6_bitCount_0f7a4 soJ6_bitCount_0f7a4 mlX6_182 (rm_ok (by omega) (by decide)) ⟨Nat.le_refl _, Nat.le_refl _⟩ (Nat.le_of_ble_eq_true rfl) rfl (c_J6_bitCount_0f7a4 eq3) ?_
  refine aw_iconst (v := 4) dX6_tables_10 (by decide) ?_
  refine aw_icmp_le (tgt := 17) dX6_tables_11 (by decide) (fun c4 => ?_) (fun c4 => ?_)
  · have hf := i_pos c4 hf
    refine aw_aload_n 0 dX6_tables_17 rfl rfl ?_
    obtain ⟨r5, er5, hf⟩ := b_some hf
    refine aw_getR dX6_tables_18 gfX6_46 er5 ?_
    refine aw_aload_n 0 dX6_tables_21 rfl rfl ?_
    obtain ⟨r6, er6, hf⟩ := b_some hf
    refine aw_getR dX6_tables_22 gfX6_19 er6 ?_
    obtain ⟨q7, eq7, hf⟩ := b_some hf
    refine aw_cV0 (as := [.ref r6]) dX6_tables_25 moX5_open voX5_open mlX6_206 (k_X5_open eq7) rfl (rm_ok (by omega) (by decide)) ⟨Nat.le_refl _, Nat.le_refl _⟩ (Nat.le_of_ble_eq_true rfl) rfl (c_X5_open eq7) ?_
    refine aw_aload_n 0 dX6_tables_28 rfl rfl ?_
    obtain ⟨r8, er8, hf⟩ := b_some hf
    refine aw_getR dX6_tables_29 gfX6_46 er8 ?_
    refine aw_iconst (v := 0) dX6_tables_32 (by decide) ?_
    refine aw_aload_n 0 dX6_tables_33 rfl rfl ?_
    obtain ⟨r9, er9, hf⟩ := b_some hf
    refine aw_getR dX6_tables_34 gfX6_19 er9 ?_
    refine aw_null dX6_tables_37 ?_
    obtain ⟨q10, eq10, hf⟩ := b_some hf
    refine aw_cN (as := [.int (0 : Int32), .ref r9, .null]) dX6_tables_38 moX5_from voX5_from mnX6_208 (k_X5_fromN eq10) rfl (rm_ok (by omega) (by decide)) ⟨Nat.le_refl _, Nat.le_refl _⟩ (Nat.le_of_ble_eq_true rfl) rfl (c_X5_fromN 12 eq10) ?_
    have hq := Option.some.inj hf
    subst hq
    exact aw_iret hr dX6_tables_41 ⟨rfl, rfl, rfl⟩
  · have hf := i_neg c4 hf
    refine aw_bipush (v := -6) dX6_tables_14 (by decide) ?_
    have hq := Option.some.inj hf
    subst hq
    exact aw_iret hr dX6_tables_16 ⟨rfl, rfl, rfl⟩
theorem k_X6_tables {l0 : Nat} {h0 : Hp} {q : Int32 × Hp} (hf : f_X6_tables l0 h0 = some q) : ck h0 l0 6 = some () := by
  unfold f_X6_tables at hf
  obtain ⟨u0, e0, hf⟩ := b_some hf
  exact e0
theorem dX6_taken_0 : decode cX6_taken 0 = .ok (.iload_n 1, 1) := by decide +kernel
theorem dX6_taken_1 : decode cX6_taken 1 = .ok (.invokestatic 87, 3) := by decide +kernel
theorem dX6_taken_4 : decode cX6_taken 4 = .ok (.ifCond .ne 6, 3) := by decide +kernel
theorem dX6_taken_7 : decode cX6_taken 7 = .ok (.bipush (-2), 2) := by decide +kernel
theorem dX6_taken_9 : decode cX6_taken 9 = .ok (.ireturn, 1) := by decide +kernel
theorem dX6_taken_10 : decode cX6_taken 10 = .ok (.aload_n 0, 1) := by decide +kernel
theorem dX6_taken_11 : decode cX6_taken 11 = .ok (.getfield 19, 3) := by decide +kernel
theorem dX6_taken_14 : decode cX6_taken 14 = .ok (.getfield 90, 3) := by decide +kernel
theorem dX6_taken_17 : decode cX6_taken 17 = .ok (.iload_n 1, 1) := by decide +kernel
theorem dX6_taken_18 : decode cX6_taken 18 = .ok (.if_icmp .lt 13, 3) := by decide +kernel
theorem dX6_taken_21 : decode cX6_taken 21 = .ok (.aload_n 0, 1) := by decide +kernel
theorem dX6_taken_22 : decode cX6_taken 22 = .ok (.getfield 19, 3) := by decide +kernel
theorem dX6_taken_25 : decode cX6_taken 25 = .ok (.invokevirtual 141, 3) := by decide +kernel
theorem dX6_taken_28 : decode cX6_taken 28 = .ok (.goto 5, 3) := by decide +kernel
theorem dX6_taken_31 : decode cX6_taken 31 = .ok (.bipush (-13), 2) := by decide +kernel
theorem dX6_taken_33 : decode cX6_taken 33 = .ok (.ireturn, 1) := by decide +kernel
def f_X6_taken (l0 : Nat) (l1 : Int32) (h0 : Hp) : Option (Int32 × Hp) :=
  (ck h0 l0 6).bind fun _ => (f_X6_isSystem l1 h0).bind fun q1 => if q1.1 = 0 then (some ((-2 : Int32), q1.2)) else ((gR q1.2 l0 6 1).bind fun r3 => (gI q1.2 r3 0 2).bind fun x4 => if x4 < l1 then (some ((-13 : Int32), q1.2)) else ((gR q1.2 l0 6 1).bind fun r6 => (f_X0_winBrings r6 q1.2).bind fun q7 => some (q7.1, q7.2)))
set_option maxRecDepth 100000 in
set_option maxHeartbeats 4000000 in
theorem c_X6_taken {l0 : Nat} {l1 : Int32} {h0 : Hp} {q : Int32 × Hp} (hf : f_X6_taken l0 l1 h0 = some q) : Mt 2 yX6_taken cX6_taken 2 (some .int) [.ref l0, .int l1] h0 (some (.int q.1)) q.2 := by
  refine MtQ.of (by decide) (Nat.le_of_ble_eq_true rfl) (fun X adr hr hn => ?_)
  unfold f_X6_taken at hf
  show AW X cX6_taken 2 RX6 (rmd 2 0 0) (Qmet X 0 0 (Qe (some (.int q.1)) q.2 adr)) 0 0 adr h0 0 [(0, .ref l0), (1, .int l1)] []
  obtain ⟨u0, e0, hf⟩ := b_some hf
  refine aw_iload_n 1 dX6_taken_0 rfl rfl ?_
  obtain ⟨q1, eq1, hf⟩ := b_some hf
  refine aw_cS (as := [.int l1]) dX6_taken_1 moX6_isSystem soX6_isSystem mlX6_87 (rm_ok (by omega) (by decide)) ⟨Nat.le_refl _, Nat.le_refl _⟩ (Nat.le_of_ble_eq_true rfl) rfl (c_X6_isSystem eq1) ?_
  refine aw_if_ne (tgt := 10) dX6_taken_4 (by decide) (fun c2 => ?_) (fun c2 => ?_)
  · have hf := i_neg c2 hf
    refine aw_aload_n 0 dX6_taken_10 rfl rfl ?_
    obtain ⟨r3, er3, hf⟩ := b_some hf
    refine aw_getR dX6_taken_11 gfX6_19 er3 ?_
    obtain ⟨x4, ex4, hf⟩ := b_some hf
    refine aw_getI dX6_taken_14 gfX6_90 ex4 ?_
    refine aw_iload_n 1 dX6_taken_17 rfl rfl ?_
    refine aw_icmp_lt (tgt := 31) dX6_taken_18 (by decide) (fun c5 => ?_) (fun c5 => ?_)
    · have hf := i_pos c5 hf
      refine aw_bipush (v := -13) dX6_taken_31 (by decide) ?_
      have hq := Option.some.inj hf
      subst hq
      exact aw_iret hr dX6_taken_33 ⟨rfl, rfl, rfl⟩
    · have hf := i_neg c5 hf
      refine aw_aload_n 0 dX6_taken_21 rfl rfl ?_
      obtain ⟨r6, er6, hf⟩ := b_some hf
      refine aw_getR dX6_taken_22 gfX6_19 er6 ?_
      obtain ⟨q7, eq7, hf⟩ := b_some hf
      refine aw_cV (as := []) dX6_taken_25 moX0_winBrings voX0_winBrings mlX6_141 (k_X0_winBrings eq7) rfl (rm_ok (by omega) (by decide)) ⟨Nat.le_refl _, Nat.le_refl _⟩ (Nat.le_of_ble_eq_true rfl) rfl (c_X0_winBrings eq7) ?_
      refine aw_goto (tgt := 33) dX6_taken_28 (by decide) ?_
      have hq := Option.some.inj hf
      subst hq
      exact aw_iret hr dX6_taken_33 ⟨rfl, rfl, rfl⟩
  · have hf := i_pos c2 hf
    refine aw_bipush (v := -2) dX6_taken_7 (by decide) ?_
    have hq := Option.some.inj hf
    subst hq
    exact aw_iret hr dX6_taken_9 ⟨rfl, rfl, rfl⟩
theorem k_X6_taken {l0 : Nat} {l1 : Int32} {h0 : Hp} {q : Int32 × Hp} (hf : f_X6_taken l0 l1 h0 = some q) : ck h0 l0 6 = some () := by
  unfold f_X6_taken at hf
  obtain ⟨u0, e0, hf⟩ := b_some hf
  exact e0
theorem dX6_tells_0 : decode cX6_tells 0 = .ok (.iload_n 1, 1) := by decide +kernel
theorem dX6_tells_1 : decode cX6_tells 1 = .ok (.invokestatic 227, 3) := by decide +kernel
theorem dX6_tells_4 : decode cX6_tells 4 = .ok (.ifCond .eq 10, 3) := by decide +kernel
theorem dX6_tells_7 : decode cX6_tells 7 = .ok (.iload_n 2, 1) := by decide +kernel
theorem dX6_tells_8 : decode cX6_tells 8 = .ok (.invokestatic 152, 3) := by decide +kernel
theorem dX6_tells_11 : decode cX6_tells 11 = .ok (.ifCond .ne 6, 3) := by decide +kernel
theorem dX6_tells_14 : decode cX6_tells 14 = .ok (.bipush (-2), 2) := by decide +kernel
theorem dX6_tells_16 : decode cX6_tells 16 = .ok (.ireturn, 1) := by decide +kernel
theorem dX6_tells_17 : decode cX6_tells 17 = .ok (.aload_n 0, 1) := by decide +kernel
theorem dX6_tells_18 : decode cX6_tells 18 = .ok (.getfield 56, 3) := by decide +kernel
theorem dX6_tells_21 : decode cX6_tells 21 = .ok (.iload_n 1, 1) := by decide +kernel
theorem dX6_tells_22 : decode cX6_tells 22 = .ok (.aaload, 1) := by decide +kernel
theorem dX6_tells_23 : decode cX6_tells 23 = .ok (.astore_n 3, 1) := by decide +kernel
theorem dX6_tells_24 : decode cX6_tells 24 = .ok (.aload_n 3, 1) := by decide +kernel
theorem dX6_tells_25 : decode cX6_tells 25 = .ok (.invokevirtual 230, 3) := by decide +kernel
theorem dX6_tells_28 : decode cX6_tells 28 = .ok (.ifCond .eq 6, 3) := by decide +kernel
theorem dX6_tells_31 : decode cX6_tells 31 = .ok (.bipush (-11), 2) := by decide +kernel
theorem dX6_tells_33 : decode cX6_tells 33 = .ok (.ireturn, 1) := by decide +kernel
theorem dX6_tells_34 : decode cX6_tells 34 = .ok (.aload_n 3, 1) := by decide +kernel
theorem dX6_tells_35 : decode cX6_tells 35 = .ok (.getfield 233, 3) := by decide +kernel
theorem dX6_tells_38 : decode cX6_tells 38 = .ok (.aload_n 0, 1) := by decide +kernel
theorem dX6_tells_39 : decode cX6_tells 39 = .ok (.getfield 19, 3) := by decide +kernel
theorem dX6_tells_42 : decode cX6_tells 42 = .ok (.getfield 215, 3) := by decide +kernel
theorem dX6_tells_45 : decode cX6_tells 45 = .ok (.if_icmp .le 6, 3) := by decide +kernel
theorem dX6_tells_48 : decode cX6_tells 48 = .ok (.bipush (-2), 2) := by decide +kernel
theorem dX6_tells_50 : decode cX6_tells 50 = .ok (.ireturn, 1) := by decide +kernel
theorem dX6_tells_51 : decode cX6_tells 51 = .ok (.iload_n 2, 1) := by decide +kernel
theorem dX6_tells_52 : decode cX6_tells 52 = .ok (.iconst 1, 1) := by decide +kernel
theorem dX6_tells_53 : decode cX6_tells 53 = .ok (.if_icmp .ne 15, 3) := by decide +kernel
theorem dX6_tells_56 : decode cX6_tells 56 = .ok (.aload_n 3, 1) := by decide +kernel
theorem dX6_tells_57 : decode cX6_tells 57 = .ok (.getfield 234, 3) := by decide +kernel
theorem dX6_tells_60 : decode cX6_tells 60 = .ok (.aload_n 3, 1) := by decide +kernel
theorem dX6_tells_61 : decode cX6_tells 61 = .ok (.getfield 233, 3) := by decide +kernel
theorem dX6_tells_64 : decode cX6_tells 64 = .ok (.invokestatic 216, 3) := by decide +kernel
theorem dX6_tells_67 : decode cX6_tells 67 = .ok (.ireturn, 1) := by decide +kernel
theorem dX6_tells_68 : decode cX6_tells 68 = .ok (.aload_n 0, 1) := by decide +kernel
theorem dX6_tells_69 : decode cX6_tells 69 = .ok (.getfield 19, 3) := by decide +kernel
theorem dX6_tells_72 : decode cX6_tells 72 = .ok (.invokevirtual 175, 3) := by decide +kernel
theorem dX6_tells_75 : decode cX6_tells 75 = .ok (.invokestatic 182, 3) := by decide +kernel
theorem dX6_tells_78 : decode cX6_tells 78 = .ok (.bipush 6, 2) := by decide +kernel
theorem dX6_tells_80 : decode cX6_tells 80 = .ok (.if_icmp .le 6, 3) := by decide +kernel
theorem dX6_tells_83 : decode cX6_tells 83 = .ok (.bipush (-6), 2) := by decide +kernel
theorem dX6_tells_85 : decode cX6_tells 85 = .ok (.ireturn, 1) := by decide +kernel
theorem dX6_tells_86 : decode cX6_tells 86 = .ok (.aload_n 0, 1) := by decide +kernel
theorem dX6_tells_87 : decode cX6_tells 87 = .ok (.getfield 46, 3) := by decide +kernel
theorem dX6_tells_90 : decode cX6_tells 90 = .ok (.aload_n 0, 1) := by decide +kernel
theorem dX6_tells_91 : decode cX6_tells 91 = .ok (.getfield 19, 3) := by decide +kernel
theorem dX6_tells_94 : decode cX6_tells 94 = .ok (.invokevirtual 206, 3) := by decide +kernel
theorem dX6_tells_97 : decode cX6_tells 97 = .ok (.aload_n 0, 1) := by decide +kernel
theorem dX6_tells_98 : decode cX6_tells 98 = .ok (.getfield 46, 3) := by decide +kernel
theorem dX6_tells_101 : decode cX6_tells 101 = .ok (.iconst 0, 1) := by decide +kernel
theorem dX6_tells_102 : decode cX6_tells 102 = .ok (.aload_n 0, 1) := by decide +kernel
theorem dX6_tells_103 : decode cX6_tells 103 = .ok (.getfield 19, 3) := by decide +kernel
theorem dX6_tells_106 : decode cX6_tells 106 = .ok (.aload_n 3, 1) := by decide +kernel
theorem dX6_tells_107 : decode cX6_tells 107 = .ok (.invokevirtual 208, 3) := by decide +kernel
theorem dX6_tells_110 : decode cX6_tells 110 = .ok (.ireturn, 1) := by decide +kernel
def f_X6_tells (l0 : Nat) (l1 : Int32) (l2 : Int32) (h0 : Hp) : Option (Int32 × Hp) :=
  (ck h0 l0 6).bind fun _ => (f_X6_isSheet l1 h0).bind fun q1 => if q1.1 = 0 then (some ((-2 : Int32), q1.2)) else ((f_X6_isPart l2 q1.2).bind fun q3 => if q3.1 = 0 then (some ((-2 : Int32), q3.2)) else ((gR q3.2 l0 6 7).bind fun r5 => (qL q3.2 r5 l1).bind fun r6 => (f_X2_isMissing r6 q3.2).bind fun q7 => if q7.1 = 0 then ((gI q7.2 r6 2 2).bind fun x9 => (gR q7.2 l0 6 1).bind fun r10 => (gI q7.2 r10 0 0).bind fun x11 => if x9 ≤ x11 then (if l2 = (1 : Int32) then ((gR q7.2 r6 2 0).bind fun r24 => (gI q7.2 r6 2 2).bind fun x25 => (f_X6_firstOf r24 x25 q7.2).bind fun q26 => some (q26.1, q26.2)) else ((gR q7.2 l0 6 1).bind fun r14 => (f_X0_left r14 q7.2).bind fun q15 => (f_J6_bitCount_0f7a4 q15.1 q15.2).bind fun q16 => if q16.1 ≤ (6 : Int32) then ((gR q16.2 l0 6 6).bind fun r18 => (gR q16.2 l0 6 1).bind fun r19 => (f_X5_open r18 r19 q16.2).bind fun q20 => (gR q20.2 l0 6 6).bind fun r21 => (gR q20.2 l0 6 1).bind fun r22 => (f_X5_fromS 12 r21 (0 : Int32) r22 r6 q20.2).bind fun q23 => some (q23.1, q23.2)) else (some ((-6 : Int32), q16.2)))) else (some ((-2 : Int32), q7.2))) else (some ((-11 : Int32), q7.2))))
set_option maxRecDepth 100000 in
set_option maxHeartbeats 4000000 in
theorem c_X6_tells {l0 : Nat} {l1 : Int32} {l2 : Int32} {h0 : Hp} {q : Int32 × Hp} (hf : f_X6_tells l0 l1 l2 h0 = some q) : Mt 14 yX6_tells cX6_tells 4 (some .int) [.ref l0, .int l1, .int l2] h0 (some (.int q.1)) q.2 := by
  refine MtQ.of (by decide) (Nat.le_of_ble_eq_true rfl) (fun X adr hr hn => ?_)
  unfold f_X6_tells at hf
  show AW X cX6_tells 4 RX6 (rmd 14 0 0) (Qmet X 0 0 (Qe (some (.int q.1)) q.2 adr)) 0 0 adr h0 0 [(0, .ref l0), (1, .int l1), (2, .int l2)] []
  obtain ⟨u0, e0, hf⟩ := b_some hf
  refine aw_iload_n 1 dX6_tells_0 rfl rfl ?_
  obtain ⟨q1, eq1, hf⟩ := b_some hf
  refine aw_cS (as := [.int l1]) dX6_tells_1 moX6_isSheet soX6_isSheet mlX6_227 (rm_ok (by omega) (by decide)) ⟨Nat.le_refl _, Nat.le_refl _⟩ (Nat.le_of_ble_eq_true rfl) rfl (c_X6_isSheet eq1) ?_
  refine aw_if_eq (tgt := 14) dX6_tells_4 (by decide) (fun c2 => ?_) (fun c2 => ?_)
  · have hf := i_pos c2 hf
    refine aw_bipush (v := -2) dX6_tells_14 (by decide) ?_
    have hq := Option.some.inj hf
    subst hq
    exact aw_iret hr dX6_tells_16 ⟨rfl, rfl, rfl⟩
  · have hf := i_neg c2 hf
    refine aw_iload_n 2 dX6_tells_7 rfl rfl ?_
    obtain ⟨q3, eq3, hf⟩ := b_some hf
    refine aw_cS (as := [.int l2]) dX6_tells_8 moX6_isPart soX6_isPart mlX6_152 (rm_ok (by omega) (by decide)) ⟨Nat.le_refl _, Nat.le_refl _⟩ (Nat.le_of_ble_eq_true rfl) rfl (c_X6_isPart eq3) ?_
    refine aw_if_ne (tgt := 17) dX6_tells_11 (by decide) (fun c4 => ?_) (fun c4 => ?_)
    · have hf := i_neg c4 hf
      refine aw_aload_n 0 dX6_tells_17 rfl rfl ?_
      obtain ⟨r5, er5, hf⟩ := b_some hf
      refine aw_getR dX6_tells_18 gfX6_56 er5 ?_
      refine aw_iload_n 1 dX6_tells_21 rfl rfl ?_
      obtain ⟨r6, er6, hf⟩ := b_some hf
      refine aw_aald dX6_tells_22 er6 ?_
      refine aw_astore_n (L' := [(3, .ref r6), (0, .ref l0), (1, .int l1), (2, .int l2)]) dX6_tells_23 rfl (by decide) rfl ?_
      refine aw_aload_n 0 dX6_tells_24 rfl rfl ?_
      obtain ⟨q7, eq7, hf⟩ := b_some hf
      refine aw_cV (as := []) dX6_tells_25 moX2_isMissing voX2_isMissing mlX6_230 (k_X2_isMissing eq7) rfl (rm_ok (by omega) (by decide)) ⟨Nat.le_refl _, Nat.le_refl _⟩ (Nat.le_of_ble_eq_true rfl) rfl (c_X2_isMissing eq7) ?_
      refine aw_if_eq (tgt := 34) dX6_tells_28 (by decide) (fun c8 => ?_) (fun c8 => ?_)
      · have hf := i_pos c8 hf
        refine aw_aload_n 0 dX6_tells_34 rfl rfl ?_
        obtain ⟨x9, ex9, hf⟩ := b_some hf
        refine aw_getI dX6_tells_35 gfX6_233 ex9 ?_
        refine aw_aload_n 1 dX6_tells_38 rfl rfl ?_
        obtain ⟨r10, er10, hf⟩ := b_some hf
        refine aw_getR dX6_tells_39 gfX6_19 er10 ?_
        obtain ⟨x11, ex11, hf⟩ := b_some hf
        refine aw_getI dX6_tells_42 gfX6_215 ex11 ?_
        refine aw_icmp_le (tgt := 51) dX6_tells_45 (by decide) (fun c12 => ?_) (fun c12 => ?_)
        · have hf := i_pos c12 hf
          refine aw_iload_n 3 dX6_tells_51 rfl rfl ?_
          refine aw_iconst (v := 1) dX6_tells_52 (by decide) ?_
          refine aw_icmp_ne (tgt := 68) dX6_tells_53 (by decide) (fun c13 => ?_) (fun c13 => ?_)
          · have hf := i_neg c13 hf
            refine aw_aload_n 1 dX6_tells_68 rfl rfl ?_
            obtain ⟨r14, er14, hf⟩ := b_some hf
            refine aw_getR dX6_tells_69 gfX6_19 er14 ?_
            obtain ⟨q15, eq15, hf⟩ := b_some hf
            refine aw_cV (as := []) dX6_tells_72 moX0_left voX0_left mlX6_175 (k_X0_left eq15) rfl (rm_ok (by omega) (by decide)) ⟨Nat.le_refl _, Nat.le_refl _⟩ (Nat.le_of_ble_eq_true rfl) rfl (c_X0_left eq15) ?_
            obtain ⟨q16, eq16, hf⟩ := b_some hf
            refine aw_cS (as := [.int q15.1]) dX6_tells_75 moJ6_bitCount_0f7a4 soJ6_bitCount_0f7a4 mlX6_182 (rm_ok (by omega) (by decide)) ⟨Nat.le_refl _, Nat.le_refl _⟩ (Nat.le_of_ble_eq_true rfl) rfl (c_J6_bitCount_0f7a4 eq16) ?_
            refine aw_bipush (v := 6) dX6_tells_78 (by decide) ?_
            refine aw_icmp_le (tgt := 86) dX6_tells_80 (by decide) (fun c17 => ?_) (fun c17 => ?_)
            · have hf := i_pos c17 hf
              refine aw_aload_n 1 dX6_tells_86 rfl rfl ?_
              obtain ⟨r18, er18, hf⟩ := b_some hf
              refine aw_getR dX6_tells_87 gfX6_46 er18 ?_
              refine aw_aload_n 1 dX6_tells_90 rfl rfl ?_
              obtain ⟨r19, er19, hf⟩ := b_some hf
              refine aw_getR dX6_tells_91 gfX6_19 er19 ?_
              obtain ⟨q20, eq20, hf⟩ := b_some hf
              refine aw_cV0 (as := [.ref r19]) dX6_tells_94 moX5_open voX5_open mlX6_206 (k_X5_open eq20) rfl (rm_ok (by omega) (by decide)) ⟨Nat.le_refl _, Nat.le_refl _⟩ (Nat.le_of_ble_eq_true rfl) rfl (c_X5_open eq20) ?_
              refine aw_aload_n 1 dX6_tells_97 rfl rfl ?_
              obtain ⟨r21, er21, hf⟩ := b_some hf
              refine aw_getR dX6_tells_98 gfX6_46 er21 ?_
              refine aw_iconst (v := 0) dX6_tells_101 (by decide) ?_
              refine aw_aload_n 1 dX6_tells_102 rfl rfl ?_
              obtain ⟨r22, er22, hf⟩ := b_some hf
              refine aw_getR dX6_tells_103 gfX6_19 er22 ?_
              refine aw_aload_n 0 dX6_tells_106 rfl rfl ?_
              obtain ⟨q23, eq23, hf⟩ := b_some hf
              refine aw_cN (as := [.int (0 : Int32), .ref r22, .ref r6]) dX6_tells_107 moX5_from voX5_from mnX6_208 (k_X5_fromS eq23) rfl (rm_ok (by omega) (by decide)) ⟨Nat.le_refl _, Nat.le_refl _⟩ (Nat.le_of_ble_eq_true rfl) rfl (c_X5_fromS 12 eq23) ?_
              have hq := Option.some.inj hf
              subst hq
              exact aw_iret hr dX6_tells_110 ⟨rfl, rfl, rfl⟩
            · have hf := i_neg c17 hf
              refine aw_bipush (v := -6) dX6_tells_83 (by decide) ?_
              have hq := Option.some.inj hf
              subst hq
              exact aw_iret hr dX6_tells_85 ⟨rfl, rfl, rfl⟩
          · have hf := i_pos c13 hf
            refine aw_aload_n 0 dX6_tells_56 rfl rfl ?_
            obtain ⟨r24, er24, hf⟩ := b_some hf
            refine aw_getR dX6_tells_57 gfX6_234 er24 ?_
            refine aw_aload_n 0 dX6_tells_60 rfl rfl ?_
            obtain ⟨x25, ex25, hf⟩ := b_some hf
            refine aw_getI dX6_tells_61 gfX6_233 ex25 ?_
            obtain ⟨q26, eq26, hf⟩ := b_some hf
            refine aw_cS (as := [.ref r24, .int x25]) dX6_tells_64 moX6_firstOf soX6_firstOf mlX6_216 (rm_ok (by omega) (by decide)) ⟨Nat.le_refl _, Nat.le_refl _⟩ (Nat.le_of_ble_eq_true rfl) rfl (c_X6_firstOf eq26) ?_
            have hq := Option.some.inj hf
            subst hq
            exact aw_iret hr dX6_tells_67 ⟨rfl, rfl, rfl⟩
        · have hf := i_neg c12 hf
          refine aw_bipush (v := -2) dX6_tells_48 (by decide) ?_
          have hq := Option.some.inj hf
          subst hq
          exact aw_iret hr dX6_tells_50 ⟨rfl, rfl, rfl⟩
      · have hf := i_neg c8 hf
        refine aw_bipush (v := -11) dX6_tells_31 (by decide) ?_
        have hq := Option.some.inj hf
        subst hq
        exact aw_iret hr dX6_tells_33 ⟨rfl, rfl, rfl⟩
    · have hf := i_pos c4 hf
      refine aw_bipush (v := -2) dX6_tells_14 (by decide) ?_
      have hq := Option.some.inj hf
      subst hq
      exact aw_iret hr dX6_tells_16 ⟨rfl, rfl, rfl⟩
theorem k_X6_tells {l0 : Nat} {l1 : Int32} {l2 : Int32} {h0 : Hp} {q : Int32 × Hp} (hf : f_X6_tells l0 l1 l2 h0 = some q) : ck h0 l0 6 = some () := by
  unfold f_X6_tells at hf
  obtain ⟨u0, e0, hf⟩ := b_some hf
  exact e0
theorem dX6_text_0 : decode cX6_text 0 = .ok (.aload_n 0, 1) := by decide +kernel
theorem dX6_text_1 : decode cX6_text 1 = .ok (.invokevirtual 73, 3) := by decide +kernel
theorem dX6_text_4 : decode cX6_text 4 = .ok (.istore_n 1, 1) := by decide +kernel
theorem dX6_text_5 : decode cX6_text 5 = .ok (.aload_n 0, 1) := by decide +kernel
theorem dX6_text_6 : decode cX6_text 6 = .ok (.getfield 10, 3) := by decide +kernel
theorem dX6_text_9 : decode cX6_text 9 = .ok (.invokevirtual 77, 3) := by decide +kernel
theorem dX6_text_12 : decode cX6_text 12 = .ok (.iload_n 1, 1) := by decide +kernel
theorem dX6_text_13 : decode cX6_text 13 = .ok (.ireturn, 1) := by decide +kernel
def f_X6_text (l0 : Nat) (h0 : Hp) : Option (Int32 × Hp) :=
  (ck h0 l0 6).bind fun _ => (f_X6_doText l0 h0).bind fun q1 => (gR q1.2 l0 6 0).bind fun r2 => (f_X4_clear r2 q1.2).bind fun q3 => some (q1.1, q3.2)
set_option maxRecDepth 100000 in
set_option maxHeartbeats 4000000 in
theorem c_X6_text {l0 : Nat} {h0 : Hp} {q : Int32 × Hp} (hf : f_X6_text l0 h0 = some q) : Mt 10 yX6_text cX6_text 2 (some .int) [.ref l0] h0 (some (.int q.1)) q.2 := by
  refine MtQ.of (by decide) (Nat.le_of_ble_eq_true rfl) (fun X adr hr hn => ?_)
  unfold f_X6_text at hf
  show AW X cX6_text 2 RX6 (rmd 10 0 0) (Qmet X 0 0 (Qe (some (.int q.1)) q.2 adr)) 0 0 adr h0 0 [(0, .ref l0)] []
  obtain ⟨u0, e0, hf⟩ := b_some hf
  refine aw_aload_n 0 dX6_text_0 rfl rfl ?_
  obtain ⟨q1, eq1, hf⟩ := b_some hf
  refine aw_cV (as := []) dX6_text_1 moX6_doText voX6_doText mlX6_73 (k_X6_doText eq1) rfl (rm_ok (by omega) (by decide)) ⟨Nat.le_refl _, Nat.le_refl _⟩ (Nat.le_of_ble_eq_true rfl) rfl (c_X6_doText eq1) ?_
  refine aw_istore_n (L' := [(1, .int q1.1), (0, .ref l0)]) dX6_text_4 rfl (by decide) rfl ?_
  refine aw_aload_n 1 dX6_text_5 rfl rfl ?_
  obtain ⟨r2, er2, hf⟩ := b_some hf
  refine aw_getR dX6_text_6 gfX6_10 er2 ?_
  obtain ⟨q3, eq3, hf⟩ := b_some hf
  refine aw_cV0 (as := []) dX6_text_9 moX4_clear voX4_clear mlX6_77 (k_X4_clear eq3) rfl (rm_ok (by omega) (by decide)) ⟨Nat.le_refl _, Nat.le_refl _⟩ (Nat.le_of_ble_eq_true rfl) rfl (c_X4_clear eq3) ?_
  refine aw_iload_n 0 dX6_text_12 rfl rfl ?_
  have hq := Option.some.inj hf
  subst hq
  exact aw_iret hr dX6_text_13 ⟨rfl, rfl, rfl⟩
theorem k_X6_text {l0 : Nat} {h0 : Hp} {q : Int32 × Hp} (hf : f_X6_text l0 h0 = some q) : ck h0 l0 6 = some () := by
  unfold f_X6_text at hf
  obtain ⟨u0, e0, hf⟩ := b_some hf
  exact e0
theorem dX6_told_0 : decode cX6_told 0 = .ok (.aload_n 0, 1) := by decide +kernel
theorem dX6_told_1 : decode cX6_told 1 = .ok (.getfield 19, 3) := by decide +kernel
theorem dX6_told_4 : decode cX6_told 4 = .ok (.iload_n 1, 1) := by decide +kernel
theorem dX6_told_5 : decode cX6_told 5 = .ok (.invokevirtual 102, 3) := by decide +kernel
theorem dX6_told_8 : decode cX6_told 8 = .ok (.ifCond .ne 6, 3) := by decide +kernel
theorem dX6_told_11 : decode cX6_told 11 = .ok (.bipush (-2), 2) := by decide +kernel
theorem dX6_told_13 : decode cX6_told 13 = .ok (.ireturn, 1) := by decide +kernel
theorem dX6_told_14 : decode cX6_told 14 = .ok (.iload_n 2, 1) := by decide +kernel
theorem dX6_told_15 : decode cX6_told 15 = .ok (.bipush 10, 2) := by decide +kernel
theorem dX6_told_17 : decode cX6_told 17 = .ok (.if_icmp .lt 22, 3) := by decide +kernel
theorem dX6_told_20 : decode cX6_told 20 = .ok (.iload_n 2, 1) := by decide +kernel
theorem dX6_told_21 : decode cX6_told 21 = .ok (.bipush 16, 2) := by decide +kernel
theorem dX6_told_23 : decode cX6_told 23 = .ok (.if_icmp .ge 16, 3) := by decide +kernel
theorem dX6_told_26 : decode cX6_told 26 = .ok (.aload_n 0, 1) := by decide +kernel
theorem dX6_told_27 : decode cX6_told 27 = .ok (.getfield 19, 3) := by decide +kernel
theorem dX6_told_30 : decode cX6_told 30 = .ok (.iload_n 1, 1) := by decide +kernel
theorem dX6_told_31 : decode cX6_told 31 = .ok (.iload_n 2, 1) := by decide +kernel
theorem dX6_told_32 : decode cX6_told 32 = .ok (.bipush 10, 2) := by decide +kernel
theorem dX6_told_34 : decode cX6_told 34 = .ok (.isub, 1) := by decide +kernel
theorem dX6_told_35 : decode cX6_told 35 = .ok (.invokevirtual 105, 3) := by decide +kernel
theorem dX6_told_38 : decode cX6_told 38 = .ok (.ireturn, 1) := by decide +kernel
theorem dX6_told_39 : decode cX6_told 39 = .ok (.iload_n 2, 1) := by decide +kernel
theorem dX6_told_40 : decode cX6_told 40 = .ok (.tableswitch 85 0 4 #[36, 46, 56, 66, 75], 36) := by decide +kernel
theorem dX6_told_76 : decode cX6_told 76 = .ok (.aload_n 0, 1) := by decide +kernel
theorem dX6_told_77 : decode cX6_told 77 = .ok (.getfield 19, 3) := by decide +kernel
theorem dX6_told_80 : decode cX6_told 80 = .ok (.getfield 109, 3) := by decide +kernel
theorem dX6_told_83 : decode cX6_told 83 = .ok (.iload_n 1, 1) := by decide +kernel
theorem dX6_told_84 : decode cX6_told 84 = .ok (.iaload, 1) := by decide +kernel
theorem dX6_told_85 : decode cX6_told 85 = .ok (.ireturn, 1) := by decide +kernel
theorem dX6_told_86 : decode cX6_told 86 = .ok (.aload_n 0, 1) := by decide +kernel
theorem dX6_told_87 : decode cX6_told 87 = .ok (.aload_n 0, 1) := by decide +kernel
theorem dX6_told_88 : decode cX6_told 88 = .ok (.getfield 19, 3) := by decide +kernel
theorem dX6_told_91 : decode cX6_told 91 = .ok (.iload_n 1, 1) := by decide +kernel
theorem dX6_told_92 : decode cX6_told 92 = .ok (.invokevirtual 112, 3) := by decide +kernel
theorem dX6_told_95 : decode cX6_told 95 = .ok (.ireturn, 1) := by decide +kernel
theorem dX6_told_96 : decode cX6_told 96 = .ok (.aload_n 0, 1) := by decide +kernel
theorem dX6_told_97 : decode cX6_told 97 = .ok (.aload_n 0, 1) := by decide +kernel
theorem dX6_told_98 : decode cX6_told 98 = .ok (.getfield 19, 3) := by decide +kernel
theorem dX6_told_101 : decode cX6_told 101 = .ok (.iload_n 1, 1) := by decide +kernel
theorem dX6_told_102 : decode cX6_told 102 = .ok (.invokevirtual 116, 3) := by decide +kernel
theorem dX6_told_105 : decode cX6_told 105 = .ok (.ireturn, 1) := by decide +kernel
theorem dX6_told_106 : decode cX6_told 106 = .ok (.aload_n 0, 1) := by decide +kernel
theorem dX6_told_107 : decode cX6_told 107 = .ok (.getfield 19, 3) := by decide +kernel
theorem dX6_told_110 : decode cX6_told 110 = .ok (.iload_n 1, 1) := by decide +kernel
theorem dX6_told_111 : decode cX6_told 111 = .ok (.invokevirtual 119, 3) := by decide +kernel
theorem dX6_told_114 : decode cX6_told 114 = .ok (.ireturn, 1) := by decide +kernel
theorem dX6_told_115 : decode cX6_told 115 = .ok (.aload_n 0, 1) := by decide +kernel
theorem dX6_told_116 : decode cX6_told 116 = .ok (.getfield 19, 3) := by decide +kernel
theorem dX6_told_119 : decode cX6_told 119 = .ok (.getfield 123, 3) := by decide +kernel
theorem dX6_told_122 : decode cX6_told 122 = .ok (.iload_n 1, 1) := by decide +kernel
theorem dX6_told_123 : decode cX6_told 123 = .ok (.iaload, 1) := by decide +kernel
theorem dX6_told_124 : decode cX6_told 124 = .ok (.ireturn, 1) := by decide +kernel
theorem dX6_told_125 : decode cX6_told 125 = .ok (.bipush (-2), 2) := by decide +kernel
theorem dX6_told_127 : decode cX6_told 127 = .ok (.ireturn, 1) := by decide +kernel
def f_X6_told_39 (l0 : Nat) (l1 : Int32) (l2 : Int32) (h0 : Hp) : Option (Int32 × Hp) :=
  if l2 = 0 then ((gR h0 l0 6 1).bind fun r2 => (gR h0 r2 0 3).bind fun r3 => (aL h0 r3 l1).bind fun x4 => some (x4, h0)) else if l2 = 1 then ((gR h0 l0 6 1).bind fun r6 => (f_X6_pointsOf l0 r6 l1 h0).bind fun q7 => some (q7.1, q7.2)) else if l2 = 2 then ((gR h0 l0 6 1).bind fun r9 => (f_X6_reachOf l0 r9 l1 h0).bind fun q10 => some (q10.1, q10.2)) else if l2 = 3 then ((gR h0 l0 6 1).bind fun r12 => (f_X0_leftOf r12 l1 h0).bind fun q13 => some (q13.1, q13.2)) else if l2 = 4 then ((gR h0 l0 6 1).bind fun r15 => (gR h0 r15 0 4).bind fun r16 => (aL h0 r16 l1).bind fun x17 => some (x17, h0)) else (some ((-2 : Int32), h0))
set_option maxRecDepth 100000 in
set_option maxHeartbeats 4000000 in
theorem c_X6_told_39 {X : Cx} {adr : Nat → Nat} {q : Int32 × Hp} (hr : (mth X).sig.returnType = (some .int)) {l0 : Nat} {l1 : Int32} {l2 : Int32} {h0 : Hp} (hf : f_X6_told_39 l0 l1 l2 h0 = some q) : AW X cX6_told 3 RX6 (rmd 5 0 0) (Qmet X 0 0 (Qe (some (.int q.1)) q.2 adr)) 0 0 adr h0 39 [(0, .ref l0), (1, .int l1), (2, .int l2)] [] := by
  unfold f_X6_told_39 at hf
  refine aw_iload_n 2 dX6_told_39 rfl rfl ?_
  by_cases c1 : l2 = 0
  · have hf := i_pos c1 hf
    refine aw_tabIn (tgt := 76) dX6_told_40 (by rw [c1]; decide) (by rw [c1]; decide) (by rw [c1]; rfl) (by decide) ?_
    refine aw_aload_n 0 dX6_told_76 rfl rfl ?_
    obtain ⟨r2, er2, hf⟩ := b_some hf
    refine aw_getR dX6_told_77 gfX6_19 er2 ?_
    obtain ⟨r3, er3, hf⟩ := b_some hf
    refine aw_getR dX6_told_80 gfX6_109 er3 ?_
    refine aw_iload_n 1 dX6_told_83 rfl rfl ?_
    obtain ⟨x4, ex4, hf⟩ := b_some hf
    refine aw_iald dX6_told_84 ex4 ?_
    have hq := Option.some.inj hf
    subst hq
    exact aw_iret hr dX6_told_85 ⟨rfl, rfl, rfl⟩
  have hf := i_neg c1 hf
  by_cases c5 : l2 = 1
  · have hf := i_pos c5 hf
    refine aw_tabIn (tgt := 86) dX6_told_40 (by rw [c5]; decide) (by rw [c5]; decide) (by rw [c5]; rfl) (by decide) ?_
    refine aw_aload_n 0 dX6_told_86 rfl rfl ?_
    refine aw_aload_n 0 dX6_told_87 rfl rfl ?_
    obtain ⟨r6, er6, hf⟩ := b_some hf
    refine aw_getR dX6_told_88 gfX6_19 er6 ?_
    refine aw_iload_n 1 dX6_told_91 rfl rfl ?_
    obtain ⟨q7, eq7, hf⟩ := b_some hf
    refine aw_cV (as := [.ref r6, .int l1]) dX6_told_92 moX6_pointsOf voX6_pointsOf mlX6_112 (k_X6_pointsOf eq7) rfl (rm_ok (by omega) (by decide)) ⟨Nat.le_refl _, Nat.le_refl _⟩ (Nat.le_of_ble_eq_true rfl) rfl (c_X6_pointsOf eq7) ?_
    have hq := Option.some.inj hf
    subst hq
    exact aw_iret hr dX6_told_95 ⟨rfl, rfl, rfl⟩
  have hf := i_neg c5 hf
  by_cases c8 : l2 = 2
  · have hf := i_pos c8 hf
    refine aw_tabIn (tgt := 96) dX6_told_40 (by rw [c8]; decide) (by rw [c8]; decide) (by rw [c8]; rfl) (by decide) ?_
    refine aw_aload_n 0 dX6_told_96 rfl rfl ?_
    refine aw_aload_n 0 dX6_told_97 rfl rfl ?_
    obtain ⟨r9, er9, hf⟩ := b_some hf
    refine aw_getR dX6_told_98 gfX6_19 er9 ?_
    refine aw_iload_n 1 dX6_told_101 rfl rfl ?_
    obtain ⟨q10, eq10, hf⟩ := b_some hf
    refine aw_cV (as := [.ref r9, .int l1]) dX6_told_102 moX6_reachOf voX6_reachOf mlX6_116 (k_X6_reachOf eq10) rfl (rm_ok (by omega) (by decide)) ⟨Nat.le_refl _, Nat.le_refl _⟩ (Nat.le_of_ble_eq_true rfl) rfl (c_X6_reachOf eq10) ?_
    have hq := Option.some.inj hf
    subst hq
    exact aw_iret hr dX6_told_105 ⟨rfl, rfl, rfl⟩
  have hf := i_neg c8 hf
  by_cases c11 : l2 = 3
  · have hf := i_pos c11 hf
    refine aw_tabIn (tgt := 106) dX6_told_40 (by rw [c11]; decide) (by rw [c11]; decide) (by rw [c11]; rfl) (by decide) ?_
    refine aw_aload_n 0 dX6_told_106 rfl rfl ?_
    obtain ⟨r12, er12, hf⟩ := b_some hf
    refine aw_getR dX6_told_107 gfX6_19 er12 ?_
    refine aw_iload_n 1 dX6_told_110 rfl rfl ?_
    obtain ⟨q13, eq13, hf⟩ := b_some hf
    refine aw_cV (as := [.int l1]) dX6_told_111 moX0_leftOf voX0_leftOf mlX6_119 (k_X0_leftOf eq13) rfl (rm_ok (by omega) (by decide)) ⟨Nat.le_refl _, Nat.le_refl _⟩ (Nat.le_of_ble_eq_true rfl) rfl (c_X0_leftOf eq13) ?_
    have hq := Option.some.inj hf
    subst hq
    exact aw_iret hr dX6_told_114 ⟨rfl, rfl, rfl⟩
  have hf := i_neg c11 hf
  by_cases c14 : l2 = 4
  · have hf := i_pos c14 hf
    refine aw_tabIn (tgt := 115) dX6_told_40 (by rw [c14]; decide) (by rw [c14]; decide) (by rw [c14]; rfl) (by decide) ?_
    refine aw_aload_n 0 dX6_told_115 rfl rfl ?_
    obtain ⟨r15, er15, hf⟩ := b_some hf
    refine aw_getR dX6_told_116 gfX6_19 er15 ?_
    obtain ⟨r16, er16, hf⟩ := b_some hf
    refine aw_getR dX6_told_119 gfX6_123 er16 ?_
    refine aw_iload_n 1 dX6_told_122 rfl rfl ?_
    obtain ⟨x17, ex17, hf⟩ := b_some hf
    refine aw_iald dX6_told_123 ex17 ?_
    have hq := Option.some.inj hf
    subst hq
    exact aw_iret hr dX6_told_124 ⟨rfl, rfl, rfl⟩
  have hf := i_neg c14 hf
  refine aw_tabOut (tgt := 125) dX6_told_40 (tab_out (N := 5) (by decide) (by decide) (fun j hj => ?_)) (by decide) ?_
  · match j, hj with
    | 0, _ => exact c1
    | 1, _ => exact c5
    | 2, _ => exact c8
    | 3, _ => exact c11
    | 4, _ => exact c14
  refine aw_bipush (v := -2) dX6_told_125 (by decide) ?_
  have hq := Option.some.inj hf
  subst hq
  exact aw_iret hr dX6_told_127 ⟨rfl, rfl, rfl⟩
def f_X6_told (l0 : Nat) (l1 : Int32) (l2 : Int32) (h0 : Hp) : Option (Int32 × Hp) :=
  (ck h0 l0 6).bind fun _ => (gR h0 l0 6 1).bind fun r1 => (f_X0_hasTeam r1 l1 h0).bind fun q2 => if q2.1 = 0 then (some ((-2 : Int32), q2.2)) else (if l2 < (10 : Int32) then (f_X6_told_39 l0 l1 l2 q2.2) else (if (16 : Int32) ≤ l2 then (f_X6_told_39 l0 l1 l2 q2.2) else ((gR q2.2 l0 6 1).bind fun r6 => (f_X0_letter r6 l1 (l2 - (10 : Int32)) q2.2).bind fun q7 => some (q7.1, q7.2))))
set_option maxRecDepth 100000 in
set_option maxHeartbeats 4000000 in
theorem c_X6_told {l0 : Nat} {l1 : Int32} {l2 : Int32} {h0 : Hp} {q : Int32 × Hp} (hf : f_X6_told l0 l1 l2 h0 = some q) : Mt 5 yX6_told cX6_told 3 (some .int) [.ref l0, .int l1, .int l2] h0 (some (.int q.1)) q.2 := by
  refine MtQ.of (by decide) (Nat.le_of_ble_eq_true rfl) (fun X adr hr hn => ?_)
  unfold f_X6_told at hf
  show AW X cX6_told 3 RX6 (rmd 5 0 0) (Qmet X 0 0 (Qe (some (.int q.1)) q.2 adr)) 0 0 adr h0 0 [(0, .ref l0), (1, .int l1), (2, .int l2)] []
  obtain ⟨u0, e0, hf⟩ := b_some hf
  refine aw_aload_n 0 dX6_told_0 rfl rfl ?_
  obtain ⟨r1, er1, hf⟩ := b_some hf
  refine aw_getR dX6_told_1 gfX6_19 er1 ?_
  refine aw_iload_n 1 dX6_told_4 rfl rfl ?_
  obtain ⟨q2, eq2, hf⟩ := b_some hf
  refine aw_cV (as := [.int l1]) dX6_told_5 moX0_hasTeam voX0_hasTeam mlX6_102 (k_X0_hasTeam eq2) rfl (rm_ok (by omega) (by decide)) ⟨Nat.le_refl _, Nat.le_refl _⟩ (Nat.le_of_ble_eq_true rfl) rfl (c_X0_hasTeam eq2) ?_
  refine aw_if_ne (tgt := 14) dX6_told_8 (by decide) (fun c3 => ?_) (fun c3 => ?_)
  · have hf := i_neg c3 hf
    refine aw_iload_n 2 dX6_told_14 rfl rfl ?_
    refine aw_bipush (v := 10) dX6_told_15 (by decide) ?_
    refine aw_icmp_lt (tgt := 39) dX6_told_17 (by decide) (fun c4 => ?_) (fun c4 => ?_)
    · have hf := i_pos c4 hf
      exact aw_sub [0, 1, 2] rfl (c_X6_told_39 hr hf)
    · have hf := i_neg c4 hf
      refine aw_iload_n 2 dX6_told_20 rfl rfl ?_
      refine aw_bipush (v := 16) dX6_told_21 (by decide) ?_
      refine aw_icmp_ge (tgt := 39) dX6_told_23 (by decide) (fun c5 => ?_) (fun c5 => ?_)
      · have hf := i_pos c5 hf
        exact aw_sub [0, 1, 2] rfl (c_X6_told_39 hr hf)
      · have hf := i_neg c5 hf
        refine aw_aload_n 0 dX6_told_26 rfl rfl ?_
        obtain ⟨r6, er6, hf⟩ := b_some hf
        refine aw_getR dX6_told_27 gfX6_19 er6 ?_
        refine aw_iload_n 1 dX6_told_30 rfl rfl ?_
        refine aw_iload_n 2 dX6_told_31 rfl rfl ?_
        refine aw_bipush (v := 10) dX6_told_32 (by decide) ?_
        refine aw_isub dX6_told_34 ?_
        obtain ⟨q7, eq7, hf⟩ := b_some hf
        refine aw_cV (as := [.int l1, .int (l2 - (10 : Int32))]) dX6_told_35 moX0_letter voX0_letter mlX6_105 (k_X0_letter eq7) rfl (rm_ok (by omega) (by decide)) ⟨Nat.le_refl _, Nat.le_refl _⟩ (Nat.le_of_ble_eq_true rfl) rfl (c_X0_letter eq7) ?_
        have hq := Option.some.inj hf
        subst hq
        exact aw_iret hr dX6_told_38 ⟨rfl, rfl, rfl⟩
  · have hf := i_pos c3 hf
    refine aw_bipush (v := -2) dX6_told_11 (by decide) ?_
    have hq := Option.some.inj hf
    subst hq
    exact aw_iret hr dX6_told_13 ⟨rfl, rfl, rfl⟩
theorem k_X6_told {l0 : Nat} {l1 : Int32} {l2 : Int32} {h0 : Hp} {q : Int32 × Hp} (hf : f_X6_told l0 l1 l2 h0 = some q) : ck h0 l0 6 = some () := by
  unfold f_X6_told at hf
  obtain ⟨u0, e0, hf⟩ := b_some hf
  exact e0
theorem dX6_unplay_0 : decode cX6_unplay 0 = .ok (.aload_n 0, 1) := by decide +kernel
theorem dX6_unplay_1 : decode cX6_unplay 1 = .ok (.getfield 19, 3) := by decide +kernel
theorem dX6_unplay_4 : decode cX6_unplay 4 = .ok (.iload_n 1, 1) := by decide +kernel
theorem dX6_unplay_5 : decode cX6_unplay 5 = .ok (.invokevirtual 93, 3) := by decide +kernel
theorem dX6_unplay_8 : decode cX6_unplay 8 = .ok (.ifCond .ne 6, 3) := by decide +kernel
theorem dX6_unplay_11 : decode cX6_unplay 11 = .ok (.bipush (-2), 2) := by decide +kernel
theorem dX6_unplay_13 : decode cX6_unplay 13 = .ok (.ireturn, 1) := by decide +kernel
theorem dX6_unplay_14 : decode cX6_unplay 14 = .ok (.aload_n 0, 1) := by decide +kernel
theorem dX6_unplay_15 : decode cX6_unplay 15 = .ok (.getfield 19, 3) := by decide +kernel
theorem dX6_unplay_18 : decode cX6_unplay 18 = .ok (.iload_n 1, 1) := by decide +kernel
theorem dX6_unplay_19 : decode cX6_unplay 19 = .ok (.invokevirtual 96, 3) := by decide +kernel
theorem dX6_unplay_22 : decode cX6_unplay 22 = .ok (.ifCond .eq 6, 3) := by decide +kernel
theorem dX6_unplay_25 : decode cX6_unplay 25 = .ok (.bipush (-3), 2) := by decide +kernel
theorem dX6_unplay_27 : decode cX6_unplay 27 = .ok (.ireturn, 1) := by decide +kernel
theorem dX6_unplay_28 : decode cX6_unplay 28 = .ok (.aload_n 0, 1) := by decide +kernel
theorem dX6_unplay_29 : decode cX6_unplay 29 = .ok (.getfield 19, 3) := by decide +kernel
theorem dX6_unplay_32 : decode cX6_unplay 32 = .ok (.getfield 99, 3) := by decide +kernel
theorem dX6_unplay_35 : decode cX6_unplay 35 = .ok (.iload_n 1, 1) := by decide +kernel
theorem dX6_unplay_36 : decode cX6_unplay 36 = .ok (.iaload, 1) := by decide +kernel
theorem dX6_unplay_37 : decode cX6_unplay 37 = .ok (.istore_n 2, 1) := by decide +kernel
theorem dX6_unplay_38 : decode cX6_unplay 38 = .ok (.aload_n 0, 1) := by decide +kernel
theorem dX6_unplay_39 : decode cX6_unplay 39 = .ok (.getfield 19, 3) := by decide +kernel
theorem dX6_unplay_42 : decode cX6_unplay 42 = .ok (.getfield 99, 3) := by decide +kernel
theorem dX6_unplay_45 : decode cX6_unplay 45 = .ok (.iload_n 1, 1) := by decide +kernel
theorem dX6_unplay_46 : decode cX6_unplay 46 = .ok (.iconst (-1), 1) := by decide +kernel
theorem dX6_unplay_47 : decode cX6_unplay 47 = .ok (.iastore, 1) := by decide +kernel
theorem dX6_unplay_48 : decode cX6_unplay 48 = .ok (.iload_n 2, 1) := by decide +kernel
theorem dX6_unplay_49 : decode cX6_unplay 49 = .ok (.ireturn, 1) := by decide +kernel
def f_X6_unplay (l0 : Nat) (l1 : Int32) (h0 : Hp) : Option (Int32 × Hp) :=
  (ck h0 l0 6).bind fun _ => (gR h0 l0 6 1).bind fun r1 => (f_X0_hasGame r1 l1 h0).bind fun q2 => if q2.1 = 0 then (some ((-2 : Int32), q2.2)) else ((gR q2.2 l0 6 1).bind fun r4 => (f_X0_isLeft r4 l1 q2.2).bind fun q5 => if q5.1 = 0 then ((gR q5.2 l0 6 1).bind fun r7 => (gR q5.2 r7 0 9).bind fun r8 => (aL q5.2 r8 l1).bind fun x9 => (gR q5.2 l0 6 1).bind fun r10 => (gR q5.2 r10 0 9).bind fun r11 => (aS q5.2 r11 l1 (-1 : Int32)).bind fun h12 => some (x9, h12)) else (some ((-3 : Int32), q5.2)))
set_option maxRecDepth 100000 in
set_option maxHeartbeats 4000000 in
theorem c_X6_unplay {l0 : Nat} {l1 : Int32} {h0 : Hp} {q : Int32 × Hp} (hf : f_X6_unplay l0 l1 h0 = some q) : Mt 2 yX6_unplay cX6_unplay 3 (some .int) [.ref l0, .int l1] h0 (some (.int q.1)) q.2 := by
  refine MtQ.of (by decide) (Nat.le_of_ble_eq_true rfl) (fun X adr hr hn => ?_)
  unfold f_X6_unplay at hf
  show AW X cX6_unplay 3 RX6 (rmd 2 0 0) (Qmet X 0 0 (Qe (some (.int q.1)) q.2 adr)) 0 0 adr h0 0 [(0, .ref l0), (1, .int l1)] []
  obtain ⟨u0, e0, hf⟩ := b_some hf
  refine aw_aload_n 0 dX6_unplay_0 rfl rfl ?_
  obtain ⟨r1, er1, hf⟩ := b_some hf
  refine aw_getR dX6_unplay_1 gfX6_19 er1 ?_
  refine aw_iload_n 1 dX6_unplay_4 rfl rfl ?_
  obtain ⟨q2, eq2, hf⟩ := b_some hf
  refine aw_cV (as := [.int l1]) dX6_unplay_5 moX0_hasGame voX0_hasGame mlX6_93 (k_X0_hasGame eq2) rfl (rm_ok (by omega) (by decide)) ⟨Nat.le_refl _, Nat.le_refl _⟩ (Nat.le_of_ble_eq_true rfl) rfl (c_X0_hasGame eq2) ?_
  refine aw_if_ne (tgt := 14) dX6_unplay_8 (by decide) (fun c3 => ?_) (fun c3 => ?_)
  · have hf := i_neg c3 hf
    refine aw_aload_n 0 dX6_unplay_14 rfl rfl ?_
    obtain ⟨r4, er4, hf⟩ := b_some hf
    refine aw_getR dX6_unplay_15 gfX6_19 er4 ?_
    refine aw_iload_n 1 dX6_unplay_18 rfl rfl ?_
    obtain ⟨q5, eq5, hf⟩ := b_some hf
    refine aw_cV (as := [.int l1]) dX6_unplay_19 moX0_isLeft voX0_isLeft mlX6_96 (k_X0_isLeft eq5) rfl (rm_ok (by omega) (by decide)) ⟨Nat.le_refl _, Nat.le_refl _⟩ (Nat.le_of_ble_eq_true rfl) rfl (c_X0_isLeft eq5) ?_
    refine aw_if_eq (tgt := 28) dX6_unplay_22 (by decide) (fun c6 => ?_) (fun c6 => ?_)
    · have hf := i_pos c6 hf
      refine aw_aload_n 0 dX6_unplay_28 rfl rfl ?_
      obtain ⟨r7, er7, hf⟩ := b_some hf
      refine aw_getR dX6_unplay_29 gfX6_19 er7 ?_
      obtain ⟨r8, er8, hf⟩ := b_some hf
      refine aw_getR dX6_unplay_32 gfX6_99 er8 ?_
      refine aw_iload_n 1 dX6_unplay_35 rfl rfl ?_
      obtain ⟨x9, ex9, hf⟩ := b_some hf
      refine aw_iald dX6_unplay_36 ex9 ?_
      refine aw_istore_n (L' := [(2, .int x9), (0, .ref l0), (1, .int l1)]) dX6_unplay_37 rfl (by decide) rfl ?_
      refine aw_aload_n 1 dX6_unplay_38 rfl rfl ?_
      obtain ⟨r10, er10, hf⟩ := b_some hf
      refine aw_getR dX6_unplay_39 gfX6_19 er10 ?_
      obtain ⟨r11, er11, hf⟩ := b_some hf
      refine aw_getR dX6_unplay_42 gfX6_99 er11 ?_
      refine aw_iload_n 2 dX6_unplay_45 rfl rfl ?_
      refine aw_iconst (v := -1) dX6_unplay_46 (by decide) ?_
      obtain ⟨h12, eh12, hf⟩ := b_some hf
      refine aw_iast dX6_unplay_47 eh12 ?_
      refine aw_iload_n 0 dX6_unplay_48 rfl rfl ?_
      have hq := Option.some.inj hf
      subst hq
      exact aw_iret hr dX6_unplay_49 ⟨rfl, rfl, rfl⟩
    · have hf := i_neg c6 hf
      refine aw_bipush (v := -3) dX6_unplay_25 (by decide) ?_
      have hq := Option.some.inj hf
      subst hq
      exact aw_iret hr dX6_unplay_27 ⟨rfl, rfl, rfl⟩
  · have hf := i_pos c3 hf
    refine aw_bipush (v := -2) dX6_unplay_11 (by decide) ?_
    have hq := Option.some.inj hf
    subst hq
    exact aw_iret hr dX6_unplay_13 ⟨rfl, rfl, rfl⟩
theorem k_X6_unplay {l0 : Nat} {l1 : Int32} {h0 : Hp} {q : Int32 × Hp} (hf : f_X6_unplay l0 l1 h0 = some q) : ck h0 l0 6 = some () := by
  unfold f_X6_unplay at hf
  obtain ⟨u0, e0, hf⟩ := b_some hf
  exact e0
theorem dX6_without_0 : decode cX6_without 0 = .ok (.aload_n 0, 1) := by decide +kernel
theorem dX6_without_1 : decode cX6_without 1 = .ok (.getfield 19, 3) := by decide +kernel
theorem dX6_without_4 : decode cX6_without 4 = .ok (.iload_n 1, 1) := by decide +kernel
theorem dX6_without_5 : decode cX6_without 5 = .ok (.invokevirtual 93, 3) := by decide +kernel
theorem dX6_without_8 : decode cX6_without 8 = .ok (.ifCond .ne 6, 3) := by decide +kernel
theorem dX6_without_11 : decode cX6_without 11 = .ok (.bipush (-2), 2) := by decide +kernel
theorem dX6_without_13 : decode cX6_without 13 = .ok (.ireturn, 1) := by decide +kernel
theorem dX6_without_14 : decode cX6_without 14 = .ok (.aload_n 0, 1) := by decide +kernel
theorem dX6_without_15 : decode cX6_without 15 = .ok (.getfield 26, 3) := by decide +kernel
theorem dX6_without_18 : decode cX6_without 18 = .ok (.aload_n 0, 1) := by decide +kernel
theorem dX6_without_19 : decode cX6_without 19 = .ok (.getfield 19, 3) := by decide +kernel
theorem dX6_without_22 : decode cX6_without 22 = .ok (.invokevirtual 190, 3) := by decide +kernel
theorem dX6_without_25 : decode cX6_without 25 = .ok (.aload_n 0, 1) := by decide +kernel
theorem dX6_without_26 : decode cX6_without 26 = .ok (.getfield 26, 3) := by decide +kernel
theorem dX6_without_29 : decode cX6_without 29 = .ok (.iload_n 1, 1) := by decide +kernel
theorem dX6_without_30 : decode cX6_without 30 = .ok (.invokevirtual 203, 3) := by decide +kernel
theorem dX6_without_33 : decode cX6_without 33 = .ok (.aload_n 0, 1) := by decide +kernel
theorem dX6_without_34 : decode cX6_without 34 = .ok (.aload_n 0, 1) := by decide +kernel
theorem dX6_without_35 : decode cX6_without 35 = .ok (.getfield 26, 3) := by decide +kernel
theorem dX6_without_38 : decode cX6_without 38 = .ok (.invokevirtual 148, 3) := by decide +kernel
theorem dX6_without_41 : decode cX6_without 41 = .ok (.ireturn, 1) := by decide +kernel
def f_X6_without (l0 : Nat) (l1 : Int32) (h0 : Hp) : Option (Int32 × Hp) :=
  (ck h0 l0 6).bind fun _ => (gR h0 l0 6 1).bind fun r1 => (f_X0_hasGame r1 l1 h0).bind fun q2 => if q2.1 = 0 then (some ((-2 : Int32), q2.2)) else ((gR q2.2 l0 6 3).bind fun r4 => (gR q2.2 l0 6 1).bind fun r5 => (f_X0_takeFrom r4 r5 q2.2).bind fun q6 => (gR q6.2 l0 6 3).bind fun r7 => (f_X0_drop r7 l1 q6.2).bind fun q8 => (gR q8.2 l0 6 3).bind fun r9 => (f_X6_whoCanWin l0 r9 q8.2).bind fun q10 => some (q10.1, q10.2))
set_option maxRecDepth 100000 in
set_option maxHeartbeats 4000000 in
theorem c_X6_without {l0 : Nat} {l1 : Int32} {h0 : Hp} {q : Int32 × Hp} (hf : f_X6_without l0 l1 h0 = some q) : Mt 29 yX6_without cX6_without 2 (some .int) [.ref l0, .int l1] h0 (some (.int q.1)) q.2 := by
  refine MtQ.of (by decide) (Nat.le_of_ble_eq_true rfl) (fun X adr hr hn => ?_)
  unfold f_X6_without at hf
  show AW X cX6_without 2 RX6 (rmd 29 0 0) (Qmet X 0 0 (Qe (some (.int q.1)) q.2 adr)) 0 0 adr h0 0 [(0, .ref l0), (1, .int l1)] []
  obtain ⟨u0, e0, hf⟩ := b_some hf
  refine aw_aload_n 0 dX6_without_0 rfl rfl ?_
  obtain ⟨r1, er1, hf⟩ := b_some hf
  refine aw_getR dX6_without_1 gfX6_19 er1 ?_
  refine aw_iload_n 1 dX6_without_4 rfl rfl ?_
  obtain ⟨q2, eq2, hf⟩ := b_some hf
  refine aw_cV (as := [.int l1]) dX6_without_5 moX0_hasGame voX0_hasGame mlX6_93 (k_X0_hasGame eq2) rfl (rm_ok (by omega) (by decide)) ⟨Nat.le_refl _, Nat.le_refl _⟩ (Nat.le_of_ble_eq_true rfl) rfl (c_X0_hasGame eq2) ?_
  refine aw_if_ne (tgt := 14) dX6_without_8 (by decide) (fun c3 => ?_) (fun c3 => ?_)
  · have hf := i_neg c3 hf
    refine aw_aload_n 0 dX6_without_14 rfl rfl ?_
    obtain ⟨r4, er4, hf⟩ := b_some hf
    refine aw_getR dX6_without_15 gfX6_26 er4 ?_
    refine aw_aload_n 0 dX6_without_18 rfl rfl ?_
    obtain ⟨r5, er5, hf⟩ := b_some hf
    refine aw_getR dX6_without_19 gfX6_19 er5 ?_
    obtain ⟨q6, eq6, hf⟩ := b_some hf
    refine aw_cV0 (as := [.ref r5]) dX6_without_22 moX0_takeFrom voX0_takeFrom mlX6_190 (k_X0_takeFrom eq6) rfl (rm_ok (by omega) (by decide)) ⟨Nat.le_refl _, Nat.le_refl _⟩ (Nat.le_of_ble_eq_true rfl) rfl (c_X0_takeFrom eq6) ?_
    refine aw_aload_n 0 dX6_without_25 rfl rfl ?_
    obtain ⟨r7, er7, hf⟩ := b_some hf
    refine aw_getR dX6_without_26 gfX6_26 er7 ?_
    refine aw_iload_n 1 dX6_without_29 rfl rfl ?_
    obtain ⟨q8, eq8, hf⟩ := b_some hf
    refine aw_cV0 (as := [.int l1]) dX6_without_30 moX0_drop voX0_drop mlX6_203 (k_X0_drop eq8) rfl (rm_ok (by omega) (by decide)) ⟨Nat.le_refl _, Nat.le_refl _⟩ (Nat.le_of_ble_eq_true rfl) rfl (c_X0_drop eq8) ?_
    refine aw_aload_n 0 dX6_without_33 rfl rfl ?_
    refine aw_aload_n 0 dX6_without_34 rfl rfl ?_
    obtain ⟨r9, er9, hf⟩ := b_some hf
    refine aw_getR dX6_without_35 gfX6_26 er9 ?_
    obtain ⟨q10, eq10, hf⟩ := b_some hf
    refine aw_cV (as := [.ref r9]) dX6_without_38 moX6_whoCanWin voX6_whoCanWin mlX6_148 (k_X6_whoCanWin eq10) rfl (rm_ok (by omega) (by decide)) ⟨Nat.le_refl _, Nat.le_refl _⟩ (Nat.le_of_ble_eq_true rfl) rfl (c_X6_whoCanWin eq10) ?_
    have hq := Option.some.inj hf
    subst hq
    exact aw_iret hr dX6_without_41 ⟨rfl, rfl, rfl⟩
  · have hf := i_pos c3 hf
    refine aw_bipush (v := -2) dX6_without_11 (by decide) ?_
    have hq := Option.some.inj hf
    subst hq
    exact aw_iret hr dX6_without_13 ⟨rfl, rfl, rfl⟩
theorem k_X6_without {l0 : Nat} {l1 : Int32} {h0 : Hp} {q : Int32 × Hp} (hf : f_X6_without l0 l1 h0 = some q) : ck h0 l0 6 = some () := by
  unfold f_X6_without at hf
  obtain ⟨u0, e0, hf⟩ := b_some hf
  exact e0
theorem dX7_has_0 : decode cX7_has 0 = .ok (.iload_n 0, 1) := by decide +kernel
theorem dX7_has_1 : decode cX7_has 1 = .ok (.iload_n 1, 1) := by decide +kernel
theorem dX7_has_2 : decode cX7_has 2 = .ok (.ishr, 1) := by decide +kernel
theorem dX7_has_3 : decode cX7_has 3 = .ok (.iconst 1, 1) := by decide +kernel
theorem dX7_has_4 : decode cX7_has 4 = .ok (.iand, 1) := by decide +kernel
theorem dX7_has_5 : decode cX7_has 5 = .ok (.iconst 1, 1) := by decide +kernel
theorem dX7_has_6 : decode cX7_has 6 = .ok (.if_icmp .ne 7, 3) := by decide +kernel
theorem dX7_has_9 : decode cX7_has 9 = .ok (.iconst 1, 1) := by decide +kernel
theorem dX7_has_10 : decode cX7_has 10 = .ok (.goto 4, 3) := by decide +kernel
theorem dX7_has_13 : decode cX7_has 13 = .ok (.iconst 0, 1) := by decide +kernel
theorem dX7_has_14 : decode cX7_has 14 = .ok (.ireturn, 1) := by decide +kernel
def f_X7_has (l0 : Int32) (l1 : Int32) (h0 : Hp) : Option (Int32 × Hp) :=
  if ((l0 >>> (l1 &&& 31)) &&& (1 : Int32)) = (1 : Int32) then (some ((1 : Int32), h0)) else (some ((0 : Int32), h0))
set_option maxRecDepth 100000 in
set_option maxHeartbeats 4000000 in
theorem c_X7_has {l0 : Int32} {l1 : Int32} {h0 : Hp} {q : Int32 × Hp} (hf : f_X7_has l0 l1 h0 = some q) : Mt 1 yX7_has cX7_has 2 (some .boolean) [.int l0, .int l1] h0 (some (.int q.1)) q.2 := by
  refine MtQ.of (by decide) (Nat.le_of_ble_eq_true rfl) (fun X adr hr hn => ?_)
  unfold f_X7_has at hf
  show AW X cX7_has 2 RX7 (rmd 1 0 0) (Qmet X 0 0 (Qe (some (.int q.1)) q.2 adr)) 0 0 adr h0 0 [(0, .int l0), (1, .int l1)] []
  refine aw_iload_n 0 dX7_has_0 rfl rfl ?_
  refine aw_iload_n 1 dX7_has_1 rfl rfl ?_
  refine aw_ishr dX7_has_2 ?_
  refine aw_iconst (v := 1) dX7_has_3 (by decide) ?_
  refine aw_iand dX7_has_4 ?_
  refine aw_iconst (v := 1) dX7_has_5 (by decide) ?_
  refine aw_icmp_ne (tgt := 13) dX7_has_6 (by decide) (fun c1 => ?_) (fun c1 => ?_)
  · have hf := i_neg c1 hf
    refine aw_iconst (v := 0) dX7_has_13 (by decide) ?_
    have hq := Option.some.inj hf
    subst hq
    exact aw_zret hr (by decide) dX7_has_14 ⟨rfl, rfl, rfl⟩
  · have hf := i_pos c1 hf
    refine aw_iconst (v := 1) dX7_has_9 (by decide) ?_
    refine aw_goto (tgt := 14) dX7_has_10 (by decide) ?_
    have hq := Option.some.inj hf
    subst hq
    exact aw_zret hr (by decide) dX7_has_14 ⟨rfl, rfl, rfl⟩
theorem dX7_ones_0 : decode cX7_ones 0 = .ok (.iconst 0, 1) := by decide +kernel
theorem dX7_ones_1 : decode cX7_ones 1 = .ok (.istore_n 1, 1) := by decide +kernel
theorem dX7_ones_2 : decode cX7_ones 2 = .ok (.iconst 0, 1) := by decide +kernel
theorem dX7_ones_3 : decode cX7_ones 3 = .ok (.istore_n 2, 1) := by decide +kernel
theorem dX7_ones_4 : decode cX7_ones 4 = .ok (.iload_n 2, 1) := by decide +kernel
theorem dX7_ones_5 : decode cX7_ones 5 = .ok (.bipush 9, 2) := by decide +kernel
theorem dX7_ones_7 : decode cX7_ones 7 = .ok (.if_icmp .ge 17, 3) := by decide +kernel
theorem dX7_ones_10 : decode cX7_ones 10 = .ok (.iload_n 1, 1) := by decide +kernel
theorem dX7_ones_11 : decode cX7_ones 11 = .ok (.iload_n 0, 1) := by decide +kernel
theorem dX7_ones_12 : decode cX7_ones 12 = .ok (.iload_n 2, 1) := by decide +kernel
theorem dX7_ones_13 : decode cX7_ones 13 = .ok (.ishr, 1) := by decide +kernel
theorem dX7_ones_14 : decode cX7_ones 14 = .ok (.iconst 1, 1) := by decide +kernel
theorem dX7_ones_15 : decode cX7_ones 15 = .ok (.iand, 1) := by decide +kernel
theorem dX7_ones_16 : decode cX7_ones 16 = .ok (.iadd, 1) := by decide +kernel
theorem dX7_ones_17 : decode cX7_ones 17 = .ok (.istore_n 1, 1) := by decide +kernel
theorem dX7_ones_18 : decode cX7_ones 18 = .ok (.iinc 2 1, 3) := by decide +kernel
theorem dX7_ones_21 : decode cX7_ones 21 = .ok (.goto (-17), 3) := by decide +kernel
theorem dX7_ones_24 : decode cX7_ones 24 = .ok (.iload_n 1, 1) := by decide +kernel
theorem dX7_ones_25 : decode cX7_ones 25 = .ok (.ireturn, 1) := by decide +kernel
def f_X7_ones_4 (k4 : Int32 × Int32 × Int32 → Hp → Option (Int32 × Hp)) (v : Int32 × Int32 × Int32) (h0 : Hp) : Option (Int32 × Hp) :=
  match v with
  | (l0, l1, l2) => if (9 : Int32) ≤ l2 then (some (l1, h0)) else ((some (l1 + ((l0 >>> (l2 &&& 31)) &&& (1 : Int32)))).bind fun x2 => (some (l2 + 1)).bind fun x3 => k4 (l0, x2, x3) h0)
set_option maxRecDepth 100000 in
set_option maxHeartbeats 4000000 in
theorem c_X7_ones_4 {X : Cx} {adr : Nat → Nat} {q : Int32 × Hp} (hr : (mth X).sig.returnType = (some .int)) (n : Nat) : ∀ v h0, lp (f_X7_ones_4) n v h0 = some q → AW X cX7_ones 3 RX7 (rmd 1 0 0) (Qmet X 0 0 (Qe (some (.int q.1)) q.2 adr)) 0 0 adr h0 4 [(0, .int v.1), (1, .int v.2.1), (2, .int v.2.2)] [] := by
  refine aw_lp (fun k4 hk4 v h0 hf => ?_) n
  obtain ⟨l0, l1, l2⟩ := v
  unfold f_X7_ones_4 at hf
  dsimp only at hf
  show AW X cX7_ones 3 RX7 (rmd 1 0 0) (Qmet X 0 0 (Qe (some (.int q.1)) q.2 adr)) 0 0 adr h0 4 [(0, .int l0), (1, .int l1), (2, .int l2)] []
  refine aw_iload_n 2 dX7_ones_4 rfl rfl ?_
  refine aw_bipush (v := 9) dX7_ones_5 (by decide) ?_
  refine aw_icmp_ge (tgt := 24) dX7_ones_7 (by decide) (fun c1 => ?_) (fun c1 => ?_)
  · have hf := i_pos c1 hf
    refine aw_iload_n 1 dX7_ones_24 rfl rfl ?_
    have hq := Option.some.inj hf
    subst hq
    exact aw_iret hr dX7_ones_25 ⟨rfl, rfl, rfl⟩
  · have hf := i_neg c1 hf
    refine aw_iload_n 1 dX7_ones_10 rfl rfl ?_
    refine aw_iload_n 0 dX7_ones_11 rfl rfl ?_
    refine aw_iload_n 2 dX7_ones_12 rfl rfl ?_
    refine aw_ishr dX7_ones_13 ?_
    refine aw_iconst (v := 1) dX7_ones_14 (by decide) ?_
    refine aw_iand dX7_ones_15 ?_
    refine aw_iadd dX7_ones_16 ?_
    obtain ⟨x2, ex2, hf⟩ := b_some hf
    refine aw_nm ex2 ?_
    refine aw_istore_n (L' := [(1, .int x2), (0, .int l0), (2, .int l2)]) dX7_ones_17 rfl (by decide) rfl ?_
    obtain ⟨x3, ex3, hf⟩ := b_some hf
    refine aw_iinc (v := x3) (L' := [(2, .int x3), (1, .int x2), (0, .int l0)]) 2 dX7_ones_18 rfl (Option.some.inj ex3) (by decide) rfl ?_
    refine aw_goto (tgt := 4) dX7_ones_21 (by decide) ?_
    exact aw_sub [2, 1, 0] rfl (hk4 _ _ hf)
def f_X7_ones (l0 : Int32) (h0 : Hp) : Option (Int32 × Hp) :=
  lp (f_X7_ones_4) 600 (l0, (0 : Int32), (0 : Int32)) h0
set_option maxRecDepth 100000 in
set_option maxHeartbeats 4000000 in
theorem c_X7_ones {l0 : Int32} {h0 : Hp} {q : Int32 × Hp} (hf : f_X7_ones l0 h0 = some q) : Mt 1 yX7_ones cX7_ones 3 (some .int) [.int l0] h0 (some (.int q.1)) q.2 := by
  refine MtQ.of (by decide) (Nat.le_of_ble_eq_true rfl) (fun X adr hr hn => ?_)
  unfold f_X7_ones at hf
  show AW X cX7_ones 3 RX7 (rmd 1 0 0) (Qmet X 0 0 (Qe (some (.int q.1)) q.2 adr)) 0 0 adr h0 0 [(0, .int l0)] []
  refine aw_iconst (v := 0) dX7_ones_0 (by decide) ?_
  refine aw_istore_n (L' := [(1, .int (0 : Int32)), (0, .int l0)]) dX7_ones_1 rfl (by decide) rfl ?_
  refine aw_iconst (v := 0) dX7_ones_2 (by decide) ?_
  refine aw_istore_n (L' := [(2, .int (0 : Int32)), (1, .int (0 : Int32)), (0, .int l0)]) dX7_ones_3 rfl (by decide) rfl ?_
  exact aw_sub [2, 1, 0] rfl (c_X7_ones_4 hr 600 _ _ hf)
theorem dX7_isOf_0 : decode cX7_isOf 0 = .ok (.aload_n 0, 1) := by decide +kernel
theorem dX7_isOf_1 : decode cX7_isOf 1 = .ok (.getfield 9, 3) := by decide +kernel
theorem dX7_isOf_4 : decode cX7_isOf 4 = .ok (.bipush 51, 2) := by decide +kernel
theorem dX7_isOf_6 : decode cX7_isOf 6 = .ok (.iload_n 1, 1) := by decide +kernel
theorem dX7_isOf_7 : decode cX7_isOf 7 = .ok (.iadd, 1) := by decide +kernel
theorem dX7_isOf_8 : decode cX7_isOf 8 = .ok (.iaload, 1) := by decide +kernel
theorem dX7_isOf_9 : decode cX7_isOf 9 = .ok (.iload_n 2, 1) := by decide +kernel
theorem dX7_isOf_10 : decode cX7_isOf 10 = .ok (.if_icmp .eq 16, 3) := by decide +kernel
theorem dX7_isOf_13 : decode cX7_isOf 13 = .ok (.aload_n 0, 1) := by decide +kernel
theorem dX7_isOf_14 : decode cX7_isOf 14 = .ok (.getfield 9, 3) := by decide +kernel
theorem dX7_isOf_17 : decode cX7_isOf 17 = .ok (.bipush 60, 2) := by decide +kernel
theorem dX7_isOf_19 : decode cX7_isOf 19 = .ok (.iload_n 1, 1) := by decide +kernel
theorem dX7_isOf_20 : decode cX7_isOf 20 = .ok (.iadd, 1) := by decide +kernel
theorem dX7_isOf_21 : decode cX7_isOf 21 = .ok (.iaload, 1) := by decide +kernel
theorem dX7_isOf_22 : decode cX7_isOf 22 = .ok (.iload_n 2, 1) := by decide +kernel
theorem dX7_isOf_23 : decode cX7_isOf 23 = .ok (.if_icmp .ne 7, 3) := by decide +kernel
theorem dX7_isOf_26 : decode cX7_isOf 26 = .ok (.iconst 1, 1) := by decide +kernel
theorem dX7_isOf_27 : decode cX7_isOf 27 = .ok (.goto 4, 3) := by decide +kernel
theorem dX7_isOf_30 : decode cX7_isOf 30 = .ok (.iconst 0, 1) := by decide +kernel
theorem dX7_isOf_31 : decode cX7_isOf 31 = .ok (.ireturn, 1) := by decide +kernel
def f_X7_isOf (l0 : Nat) (l1 : Int32) (l2 : Int32) (h0 : Hp) : Option (Int32 × Hp) :=
  (ck h0 l0 7).bind fun _ => (gR h0 l0 7 0).bind fun r1 => (aL h0 r1 ((51 : Int32) + l1)).bind fun x2 => if x2 = l2 then (some ((1 : Int32), h0)) else ((gR h0 l0 7 0).bind fun r4 => (aL h0 r4 ((60 : Int32) + l1)).bind fun x5 => if x5 = l2 then (some ((1 : Int32), h0)) else (some ((0 : Int32), h0)))
set_option maxRecDepth 100000 in
set_option maxHeartbeats 4000000 in
theorem c_X7_isOf {l0 : Nat} {l1 : Int32} {l2 : Int32} {h0 : Hp} {q : Int32 × Hp} (hf : f_X7_isOf l0 l1 l2 h0 = some q) : Mt 1 yX7_isOf cX7_isOf 3 (some .boolean) [.ref l0, .int l1, .int l2] h0 (some (.int q.1)) q.2 := by
  refine MtQ.of (by decide) (Nat.le_of_ble_eq_true rfl) (fun X adr hr hn => ?_)
  unfold f_X7_isOf at hf
  show AW X cX7_isOf 3 RX7 (rmd 1 0 0) (Qmet X 0 0 (Qe (some (.int q.1)) q.2 adr)) 0 0 adr h0 0 [(0, .ref l0), (1, .int l1), (2, .int l2)] []
  obtain ⟨u0, e0, hf⟩ := b_some hf
  refine aw_aload_n 0 dX7_isOf_0 rfl rfl ?_
  obtain ⟨r1, er1, hf⟩ := b_some hf
  refine aw_getR dX7_isOf_1 gfX7_9 er1 ?_
  refine aw_bipush (v := 51) dX7_isOf_4 (by decide) ?_
  refine aw_iload_n 1 dX7_isOf_6 rfl rfl ?_
  refine aw_iadd dX7_isOf_7 ?_
  obtain ⟨x2, ex2, hf⟩ := b_some hf
  refine aw_iald dX7_isOf_8 ex2 ?_
  refine aw_iload_n 2 dX7_isOf_9 rfl rfl ?_
  refine aw_icmp_eq (tgt := 26) dX7_isOf_10 (by decide) (fun c3 => ?_) (fun c3 => ?_)
  · have hf := i_pos c3 hf
    refine aw_iconst (v := 1) dX7_isOf_26 (by decide) ?_
    refine aw_goto (tgt := 31) dX7_isOf_27 (by decide) ?_
    have hq := Option.some.inj hf
    subst hq
    exact aw_zret hr (by decide) dX7_isOf_31 ⟨rfl, rfl, rfl⟩
  · have hf := i_neg c3 hf
    refine aw_aload_n 0 dX7_isOf_13 rfl rfl ?_
    obtain ⟨r4, er4, hf⟩ := b_some hf
    refine aw_getR dX7_isOf_14 gfX7_9 er4 ?_
    refine aw_bipush (v := 60) dX7_isOf_17 (by decide) ?_
    refine aw_iload_n 1 dX7_isOf_19 rfl rfl ?_
    refine aw_iadd dX7_isOf_20 ?_
    obtain ⟨x5, ex5, hf⟩ := b_some hf
    refine aw_iald dX7_isOf_21 ex5 ?_
    refine aw_iload_n 2 dX7_isOf_22 rfl rfl ?_
    refine aw_icmp_ne (tgt := 30) dX7_isOf_23 (by decide) (fun c6 => ?_) (fun c6 => ?_)
    · have hf := i_neg c6 hf
      refine aw_iconst (v := 0) dX7_isOf_30 (by decide) ?_
      have hq := Option.some.inj hf
      subst hq
      exact aw_zret hr (by decide) dX7_isOf_31 ⟨rfl, rfl, rfl⟩
    · have hf := i_pos c6 hf
      refine aw_iconst (v := 1) dX7_isOf_26 (by decide) ?_
      refine aw_goto (tgt := 31) dX7_isOf_27 (by decide) ?_
      have hq := Option.some.inj hf
      subst hq
      exact aw_zret hr (by decide) dX7_isOf_31 ⟨rfl, rfl, rfl⟩
theorem k_X7_isOf {l0 : Nat} {l1 : Int32} {l2 : Int32} {h0 : Hp} {q : Int32 × Hp} (hf : f_X7_isOf l0 l1 l2 h0 = some q) : ck h0 l0 7 = some () := by
  unfold f_X7_isOf at hf
  obtain ⟨u0, e0, hf⟩ := b_some hf
  exact e0
theorem dX7_ownLeft_0 : decode cX7_ownLeft 0 = .ok (.iconst 0, 1) := by decide +kernel
theorem dX7_ownLeft_1 : decode cX7_ownLeft 1 = .ok (.istore_n 2, 1) := by decide +kernel
theorem dX7_ownLeft_2 : decode cX7_ownLeft 2 = .ok (.iconst 0, 1) := by decide +kernel
theorem dX7_ownLeft_3 : decode cX7_ownLeft 3 = .ok (.istore_n 3, 1) := by decide +kernel
theorem dX7_ownLeft_4 : decode cX7_ownLeft 4 = .ok (.iload_n 3, 1) := by decide +kernel
theorem dX7_ownLeft_5 : decode cX7_ownLeft 5 = .ok (.aload_n 0, 1) := by decide +kernel
theorem dX7_ownLeft_6 : decode cX7_ownLeft 6 = .ok (.getfield 9, 3) := by decide +kernel
theorem dX7_ownLeft_9 : decode cX7_ownLeft 9 = .ok (.iconst 1, 1) := by decide +kernel
theorem dX7_ownLeft_10 : decode cX7_ownLeft 10 = .ok (.iaload, 1) := by decide +kernel
theorem dX7_ownLeft_11 : decode cX7_ownLeft 11 = .ok (.if_icmp .ge 38, 3) := by decide +kernel
theorem dX7_ownLeft_14 : decode cX7_ownLeft 14 = .ok (.iload_n 2, 1) := by decide +kernel
theorem dX7_ownLeft_15 : decode cX7_ownLeft 15 = .ok (.aload_n 0, 1) := by decide +kernel
theorem dX7_ownLeft_16 : decode cX7_ownLeft 16 = .ok (.getfield 16, 3) := by decide +kernel
theorem dX7_ownLeft_19 : decode cX7_ownLeft 19 = .ok (.iload_n 3, 1) := by decide +kernel
theorem dX7_ownLeft_20 : decode cX7_ownLeft 20 = .ok (.iaload, 1) := by decide +kernel
theorem dX7_ownLeft_21 : decode cX7_ownLeft 21 = .ok (.iconst (-1), 1) := by decide +kernel
theorem dX7_ownLeft_22 : decode cX7_ownLeft 22 = .ok (.if_icmp .ne 18, 3) := by decide +kernel
theorem dX7_ownLeft_25 : decode cX7_ownLeft 25 = .ok (.aload_n 0, 1) := by decide +kernel
theorem dX7_ownLeft_26 : decode cX7_ownLeft 26 = .ok (.iload_n 3, 1) := by decide +kernel
theorem dX7_ownLeft_27 : decode cX7_ownLeft 27 = .ok (.iload_n 1, 1) := by decide +kernel
theorem dX7_ownLeft_28 : decode cX7_ownLeft 28 = .ok (.invokevirtual 64, 3) := by decide +kernel
theorem dX7_ownLeft_31 : decode cX7_ownLeft 31 = .ok (.ifCond .eq 9, 3) := by decide +kernel
theorem dX7_ownLeft_34 : decode cX7_ownLeft 34 = .ok (.iconst 1, 1) := by decide +kernel
theorem dX7_ownLeft_35 : decode cX7_ownLeft 35 = .ok (.iload_n 3, 1) := by decide +kernel
theorem dX7_ownLeft_36 : decode cX7_ownLeft 36 = .ok (.ishl, 1) := by decide +kernel
theorem dX7_ownLeft_37 : decode cX7_ownLeft 37 = .ok (.goto 4, 3) := by decide +kernel
theorem dX7_ownLeft_40 : decode cX7_ownLeft 40 = .ok (.iconst 0, 1) := by decide +kernel
theorem dX7_ownLeft_41 : decode cX7_ownLeft 41 = .ok (.ior, 1) := by decide +kernel
theorem dX7_ownLeft_42 : decode cX7_ownLeft 42 = .ok (.istore_n 2, 1) := by decide +kernel
theorem dX7_ownLeft_43 : decode cX7_ownLeft 43 = .ok (.iinc 3 1, 3) := by decide +kernel
theorem dX7_ownLeft_46 : decode cX7_ownLeft 46 = .ok (.goto (-42), 3) := by decide +kernel
theorem dX7_ownLeft_49 : decode cX7_ownLeft 49 = .ok (.iload_n 2, 1) := by decide +kernel
theorem dX7_ownLeft_50 : decode cX7_ownLeft 50 = .ok (.ireturn, 1) := by decide +kernel
def f_X7_ownLeft_40 (k4 : Nat × Int32 × Int32 × Int32 → Hp → Option (Int32 × Hp)) (l0 : Nat) (l1 : Int32) (l3 : Int32) (s0 : Int32) (h0 : Hp) : Option (Int32 × Hp) :=
  (some (s0 ||| (0 : Int32))).bind fun x1 => (some (l3 + 1)).bind fun x2 => k4 (l0, l1, x1, x2) h0
set_option maxRecDepth 100000 in
set_option maxHeartbeats 4000000 in
theorem c_X7_ownLeft_40 {X : Cx} {adr : Nat → Nat} {q : Int32 × Hp} (hr : (mth X).sig.returnType = (some .int)) {k4 : Nat × Int32 × Int32 × Int32 → Hp → Option (Int32 × Hp)} (hk4 : ∀ v h, k4 v h = some q → AW X cX7_ownLeft 4 RX7 (rmd 2 0 0) (Qmet X 0 0 (Qe (some (.int q.1)) q.2 adr)) 0 0 adr h 4 [(0, .ref v.1), (1, .int v.2.1), (2, .int v.2.2.1), (3, .int v.2.2.2)] []) {l0 : Nat} {l1 : Int32} {l3 : Int32} {s0 : Int32} {h0 : Hp} (hf : f_X7_ownLeft_40 k4 l0 l1 l3 s0 h0 = some q) : AW X cX7_ownLeft 4 RX7 (rmd 2 0 0) (Qmet X 0 0 (Qe (some (.int q.1)) q.2 adr)) 0 0 adr h0 40 [(0, .ref l0), (1, .int l1), (3, .int l3)] [.int s0] := by
  unfold f_X7_ownLeft_40 at hf
  refine aw_iconst (v := 0) dX7_ownLeft_40 (by decide) ?_
  refine aw_ior dX7_ownLeft_41 ?_
  obtain ⟨x1, ex1, hf⟩ := b_some hf
  refine aw_nm ex1 ?_
  refine aw_istore_n (L' := [(2, .int x1), (0, .ref l0), (1, .int l1), (3, .int l3)]) dX7_ownLeft_42 rfl (by decide) rfl ?_
  obtain ⟨x2, ex2, hf⟩ := b_some hf
  refine aw_iinc (v := x2) (L' := [(3, .int x2), (2, .int x1), (0, .ref l0), (1, .int l1)]) 3 dX7_ownLeft_43 rfl (Option.some.inj ex2) (by decide) rfl ?_
  refine aw_goto (tgt := 4) dX7_ownLeft_46 (by decide) ?_
  exact aw_sub [2, 3, 1, 0] rfl (hk4 _ _ hf)
def f_X7_ownLeft_4 (k4 : Nat × Int32 × Int32 × Int32 → Hp → Option (Int32 × Hp)) (v : Nat × Int32 × Int32 × Int32) (h0 : Hp) : Option (Int32 × Hp) :=
  match v with
  | (l0, l1, l2, l3) => (gR h0 l0 7 0).bind fun r1 => (aL h0 r1 (1 : Int32)).bind fun x2 => if x2 ≤ l3 then (some (l2, h0)) else ((gR h0 l0 7 3).bind fun r4 => (aL h0 r4 l3).bind fun x5 => if x5 = (-1 : Int32) then ((f_X7_isOf l0 l3 l1 h0).bind fun q7 => if q7.1 = 0 then (f_X7_ownLeft_40 k4 l0 l1 l3 l2 q7.2) else ((some (l2 ||| ((1 : Int32) <<< (l3 &&& 31)))).bind fun x9 => (some (l3 + 1)).bind fun x10 => k4 (l0, l1, x9, x10) q7.2)) else (f_X7_ownLeft_40 k4 l0 l1 l3 l2 h0))
set_option maxRecDepth 100000 in
set_option maxHeartbeats 4000000 in
theorem c_X7_ownLeft_4 {X : Cx} {adr : Nat → Nat} {q : Int32 × Hp} (hr : (mth X).sig.returnType = (some .int)) (n : Nat) : ∀ v h0, lp (f_X7_ownLeft_4) n v h0 = some q → AW X cX7_ownLeft 4 RX7 (rmd 2 0 0) (Qmet X 0 0 (Qe (some (.int q.1)) q.2 adr)) 0 0 adr h0 4 [(0, .ref v.1), (1, .int v.2.1), (2, .int v.2.2.1), (3, .int v.2.2.2)] [] := by
  refine aw_lp (fun k4 hk4 v h0 hf => ?_) n
  obtain ⟨l0, l1, l2, l3⟩ := v
  unfold f_X7_ownLeft_4 at hf
  dsimp only at hf
  show AW X cX7_ownLeft 4 RX7 (rmd 2 0 0) (Qmet X 0 0 (Qe (some (.int q.1)) q.2 adr)) 0 0 adr h0 4 [(0, .ref l0), (1, .int l1), (2, .int l2), (3, .int l3)] []
  refine aw_iload_n 3 dX7_ownLeft_4 rfl rfl ?_
  refine aw_aload_n 0 dX7_ownLeft_5 rfl rfl ?_
  obtain ⟨r1, er1, hf⟩ := b_some hf
  refine aw_getR dX7_ownLeft_6 gfX7_9 er1 ?_
  refine aw_iconst (v := 1) dX7_ownLeft_9 (by decide) ?_
  obtain ⟨x2, ex2, hf⟩ := b_some hf
  refine aw_iald dX7_ownLeft_10 ex2 ?_
  refine aw_icmp_ge (tgt := 49) dX7_ownLeft_11 (by decide) (fun c3 => ?_) (fun c3 => ?_)
  · have hf := i_pos c3 hf
    refine aw_iload_n 2 dX7_ownLeft_49 rfl rfl ?_
    have hq := Option.some.inj hf
    subst hq
    exact aw_iret hr dX7_ownLeft_50 ⟨rfl, rfl, rfl⟩
  · have hf := i_neg c3 hf
    refine aw_iload_n 2 dX7_ownLeft_14 rfl rfl ?_
    refine aw_aload_n 0 dX7_ownLeft_15 rfl rfl ?_
    obtain ⟨r4, er4, hf⟩ := b_some hf
    refine aw_getR dX7_ownLeft_16 gfX7_16 er4 ?_
    refine aw_iload_n 3 dX7_ownLeft_19 rfl rfl ?_
    obtain ⟨x5, ex5, hf⟩ := b_some hf
    refine aw_iald dX7_ownLeft_20 ex5 ?_
    refine aw_iconst (v := -1) dX7_ownLeft_21 (by decide) ?_
    refine aw_icmp_ne (tgt := 40) dX7_ownLeft_22 (by decide) (fun c6 => ?_) (fun c6 => ?_)
    · have hf := i_neg c6 hf
      exact aw_sub [0, 1, 3] rfl (c_X7_ownLeft_40 hr hk4 hf)
    · have hf := i_pos c6 hf
      refine aw_aload_n 0 dX7_ownLeft_25 rfl rfl ?_
      refine aw_iload_n 3 dX7_ownLeft_26 rfl rfl ?_
      refine aw_iload_n 1 dX7_ownLeft_27 rfl rfl ?_
      obtain ⟨q7, eq7, hf⟩ := b_some hf
      refine aw_cV (as := [.int l3, .int l1]) dX7_ownLeft_28 moX7_isOf voX7_isOf mlX7_64 (k_X7_isOf eq7) rfl (rm_ok (by omega) (by decide)) ⟨Nat.le_refl _, Nat.le_refl _⟩ (Nat.le_of_ble_eq_true rfl) rfl (c_X7_isOf eq7) ?_
      refine aw_if_eq (tgt := 40) dX7_ownLeft_31 (by decide) (fun c8 => ?_) (fun c8 => ?_)
      · have hf := i_pos c8 hf
        exact aw_sub [0, 1, 3] rfl (c_X7_ownLeft_40 hr hk4 hf)
      · have hf := i_neg c8 hf
        refine aw_iconst (v := 1) dX7_ownLeft_34 (by decide) ?_
        refine aw_iload_n 3 dX7_ownLeft_35 rfl rfl ?_
        refine aw_ishl dX7_ownLeft_36 ?_
        refine aw_goto (tgt := 41) dX7_ownLeft_37 (by decide) ?_
        refine aw_ior dX7_ownLeft_41 ?_
        obtain ⟨x9, ex9, hf⟩ := b_some hf
        refine aw_nm ex9 ?_
        refine aw_istore_n (L' := [(2, .int x9), (0, .ref l0), (1, .int l1), (3, .int l3)]) dX7_ownLeft_42 rfl (by decide) rfl ?_
        obtain ⟨x10, ex10, hf⟩ := b_some hf
        refine aw_iinc (v := x10) (L' := [(3, .int x10), (2, .int x9), (0, .ref l0), (1, .int l1)]) 3 dX7_ownLeft_43 rfl (Option.some.inj ex10) (by decide) rfl ?_
        refine aw_goto (tgt := 4) dX7_ownLeft_46 (by decide) ?_
        exact aw_sub [2, 3, 1, 0] rfl (hk4 _ _ hf)
def f_X7_ownLeft (l0 : Nat) (l1 : Int32) (h0 : Hp) : Option (Int32 × Hp) :=
  (ck h0 l0 7).bind fun _ => lp (f_X7_ownLeft_4) 600 (l0, l1, (0 : Int32), (0 : Int32)) h0
set_option maxRecDepth 100000 in
set_option maxHeartbeats 4000000 in
theorem c_X7_ownLeft {l0 : Nat} {l1 : Int32} {h0 : Hp} {q : Int32 × Hp} (hf : f_X7_ownLeft l0 l1 h0 = some q) : Mt 2 yX7_ownLeft cX7_ownLeft 4 (some .int) [.ref l0, .int l1] h0 (some (.int q.1)) q.2 := by
  refine MtQ.of (by decide) (Nat.le_of_ble_eq_true rfl) (fun X adr hr hn => ?_)
  unfold f_X7_ownLeft at hf
  show AW X cX7_ownLeft 4 RX7 (rmd 2 0 0) (Qmet X 0 0 (Qe (some (.int q.1)) q.2 adr)) 0 0 adr h0 0 [(0, .ref l0), (1, .int l1)] []
  obtain ⟨u0, e0, hf⟩ := b_some hf
  refine aw_iconst (v := 0) dX7_ownLeft_0 (by decide) ?_
  refine aw_istore_n (L' := [(2, .int (0 : Int32)), (0, .ref l0), (1, .int l1)]) dX7_ownLeft_1 rfl (by decide) rfl ?_
  refine aw_iconst (v := 0) dX7_ownLeft_2 (by decide) ?_
  refine aw_istore_n (L' := [(3, .int (0 : Int32)), (2, .int (0 : Int32)), (0, .ref l0), (1, .int l1)]) dX7_ownLeft_3 rfl (by decide) rfl ?_
  exact aw_sub [2, 3, 1, 0] rfl (c_X7_ownLeft_4 hr 600 _ _ hf)
theorem k_X7_ownLeft {l0 : Nat} {l1 : Int32} {h0 : Hp} {q : Int32 × Hp} (hf : f_X7_ownLeft l0 l1 h0 = some q) : ck h0 l0 7 = some () := by
  unfold f_X7_ownLeft at hf
  obtain ⟨u0, e0, hf⟩ := b_some hf
  exact e0
theorem dX7_wonBrings_0 : decode cX7_wonBrings 0 = .ok (.aload_n 0, 1) := by decide +kernel
theorem dX7_wonBrings_1 : decode cX7_wonBrings 1 = .ok (.getfield 9, 3) := by decide +kernel
theorem dX7_wonBrings_4 : decode cX7_wonBrings 4 = .ok (.iconst 2, 1) := by decide +kernel
theorem dX7_wonBrings_5 : decode cX7_wonBrings 5 = .ok (.iaload, 1) := by decide +kernel
theorem dX7_wonBrings_6 : decode cX7_wonBrings 6 = .ok (.iconst 1, 1) := by decide +kernel
theorem dX7_wonBrings_7 : decode cX7_wonBrings 7 = .ok (.iadd, 1) := by decide +kernel
theorem dX7_wonBrings_8 : decode cX7_wonBrings 8 = .ok (.ireturn, 1) := by decide +kernel
def f_X7_wonBrings (l0 : Nat) (h0 : Hp) : Option (Int32 × Hp) :=
  (ck h0 l0 7).bind fun _ => (gR h0 l0 7 0).bind fun r1 => (aL h0 r1 (2 : Int32)).bind fun x2 => some ((x2 + (1 : Int32)), h0)
set_option maxRecDepth 100000 in
set_option maxHeartbeats 4000000 in
theorem c_X7_wonBrings {l0 : Nat} {h0 : Hp} {q : Int32 × Hp} (hf : f_X7_wonBrings l0 h0 = some q) : Mt 1 yX7_wonBrings cX7_wonBrings 1 (some .int) [.ref l0] h0 (some (.int q.1)) q.2 := by
  refine MtQ.of (by decide) (Nat.le_of_ble_eq_true rfl) (fun X adr hr hn => ?_)
  unfold f_X7_wonBrings at hf
  show AW X cX7_wonBrings 1 RX7 (rmd 1 0 0) (Qmet X 0 0 (Qe (some (.int q.1)) q.2 adr)) 0 0 adr h0 0 [(0, .ref l0)] []
  obtain ⟨u0, e0, hf⟩ := b_some hf
  refine aw_aload_n 0 dX7_wonBrings_0 rfl rfl ?_
  obtain ⟨r1, er1, hf⟩ := b_some hf
  refine aw_getR dX7_wonBrings_1 gfX7_9 er1 ?_
  refine aw_iconst (v := 2) dX7_wonBrings_4 (by decide) ?_
  obtain ⟨x2, ex2, hf⟩ := b_some hf
  refine aw_iald dX7_wonBrings_5 ex2 ?_
  refine aw_iconst (v := 1) dX7_wonBrings_6 (by decide) ?_
  refine aw_iadd dX7_wonBrings_7 ?_
  have hq := Option.some.inj hf
  subst hq
  exact aw_iret hr dX7_wonBrings_8 ⟨rfl, rfl, rfl⟩
theorem k_X7_wonBrings {l0 : Nat} {h0 : Hp} {q : Int32 × Hp} (hf : f_X7_wonBrings l0 h0 = some q) : ck h0 l0 7 = some () := by
  unfold f_X7_wonBrings at hf
  obtain ⟨u0, e0, hf⟩ := b_some hf
  exact e0
theorem dX7_reach_0 : decode cX7_reach 0 = .ok (.aload_n 0, 1) := by decide +kernel
theorem dX7_reach_1 : decode cX7_reach 1 = .ok (.getfield 19, 3) := by decide +kernel
theorem dX7_reach_4 : decode cX7_reach 4 = .ok (.iload_n 1, 1) := by decide +kernel
theorem dX7_reach_5 : decode cX7_reach 5 = .ok (.iaload, 1) := by decide +kernel
theorem dX7_reach_6 : decode cX7_reach 6 = .ok (.aload_n 0, 1) := by decide +kernel
theorem dX7_reach_7 : decode cX7_reach 7 = .ok (.invokevirtual 47, 3) := by decide +kernel
theorem dX7_reach_10 : decode cX7_reach 10 = .ok (.aload_n 0, 1) := by decide +kernel
theorem dX7_reach_11 : decode cX7_reach 11 = .ok (.iload_n 1, 1) := by decide +kernel
theorem dX7_reach_12 : decode cX7_reach 12 = .ok (.invokevirtual 68, 3) := by decide +kernel
theorem dX7_reach_15 : decode cX7_reach 15 = .ok (.invokestatic 72, 3) := by decide +kernel
theorem dX7_reach_18 : decode cX7_reach 18 = .ok (.imul, 1) := by decide +kernel
theorem dX7_reach_19 : decode cX7_reach 19 = .ok (.iadd, 1) := by decide +kernel
theorem dX7_reach_20 : decode cX7_reach 20 = .ok (.ireturn, 1) := by decide +kernel
def f_X7_reach (l0 : Nat) (l1 : Int32) (h0 : Hp) : Option (Int32 × Hp) :=
  (ck h0 l0 7).bind fun _ => (gR h0 l0 7 4).bind fun r1 => (aL h0 r1 l1).bind fun x2 => (f_X7_wonBrings l0 h0).bind fun q3 => (f_X7_ownLeft l0 l1 q3.2).bind fun q4 => (f_X7_ones q4.1 q4.2).bind fun q5 => some ((x2 + (q3.1 * q5.1)), q5.2)
set_option maxRecDepth 100000 in
set_option maxHeartbeats 4000000 in
theorem c_X7_reach {l0 : Nat} {l1 : Int32} {h0 : Hp} {q : Int32 × Hp} (hf : f_X7_reach l0 l1 h0 = some q) : Mt 3 yX7_reach cX7_reach 2 (some .int) [.ref l0, .int l1] h0 (some (.int q.1)) q.2 := by
  refine MtQ.of (by decide) (Nat.le_of_ble_eq_true rfl) (fun X adr hr hn => ?_)
  unfold f_X7_reach at hf
  show AW X cX7_reach 2 RX7 (rmd 3 0 0) (Qmet X 0 0 (Qe (some (.int q.1)) q.2 adr)) 0 0 adr h0 0 [(0, .ref l0), (1, .int l1)] []
  obtain ⟨u0, e0, hf⟩ := b_some hf
  refine aw_aload_n 0 dX7_reach_0 rfl rfl ?_
  obtain ⟨r1, er1, hf⟩ := b_some hf
  refine aw_getR dX7_reach_1 gfX7_19 er1 ?_
  refine aw_iload_n 1 dX7_reach_4 rfl rfl ?_
  obtain ⟨x2, ex2, hf⟩ := b_some hf
  refine aw_iald dX7_reach_5 ex2 ?_
  refine aw_aload_n 0 dX7_reach_6 rfl rfl ?_
  obtain ⟨q3, eq3, hf⟩ := b_some hf
  refine aw_cV (as := []) dX7_reach_7 moX7_wonBrings voX7_wonBrings mlX7_47 (k_X7_wonBrings eq3) rfl (rm_ok (by omega) (by decide)) ⟨Nat.le_refl _, Nat.le_refl _⟩ (Nat.le_of_ble_eq_true rfl) rfl (c_X7_wonBrings eq3) ?_
  refine aw_aload_n 0 dX7_reach_10 rfl rfl ?_
  refine aw_iload_n 1 dX7_reach_11 rfl rfl ?_
  obtain ⟨q4, eq4, hf⟩ := b_some hf
  refine aw_cV (as := [.int l1]) dX7_reach_12 moX7_ownLeft voX7_ownLeft mlX7_68 (k_X7_ownLeft eq4) rfl (rm_ok (by omega) (by decide)) ⟨Nat.le_refl _, Nat.le_refl _⟩ (Nat.le_of_ble_eq_true rfl) rfl (c_X7_ownLeft eq4) ?_
  obtain ⟨q5, eq5, hf⟩ := b_some hf
  refine aw_cS (as := [.int q4.1]) dX7_reach_15 moX7_ones soX7_ones mlX7_72 (rm_ok (by omega) (by decide)) ⟨Nat.le_refl _, Nat.le_refl _⟩ (Nat.le_of_ble_eq_true rfl) rfl (c_X7_ones eq5) ?_
  refine aw_imul dX7_reach_18 ?_
  refine aw_iadd dX7_reach_19 ?_
  have hq := Option.some.inj hf
  subst hq
  exact aw_iret hr dX7_reach_20 ⟨rfl, rfl, rfl⟩
theorem k_X7_reach {l0 : Nat} {l1 : Int32} {h0 : Hp} {q : Int32 × Hp} (hf : f_X7_reach l0 l1 h0 = some q) : ck h0 l0 7 = some () := by
  unfold f_X7_reach at hf
  obtain ⟨u0, e0, hf⟩ := b_some hf
  exact e0
theorem dX7_aboveOf_0 : decode cX7_aboveOf 0 = .ok (.aload_n 0, 1) := by decide +kernel
theorem dX7_aboveOf_1 : decode cX7_aboveOf 1 = .ok (.iload_n 2, 1) := by decide +kernel
theorem dX7_aboveOf_2 : decode cX7_aboveOf 2 = .ok (.invokevirtual 108, 3) := by decide +kernel
theorem dX7_aboveOf_5 : decode cX7_aboveOf 5 = .ok (.ineg, 1) := by decide +kernel
theorem dX7_aboveOf_6 : decode cX7_aboveOf 6 = .ok (.iload_n 1, 1) := by decide +kernel
theorem dX7_aboveOf_7 : decode cX7_aboveOf 7 = .ok (.invokestatic 72, 3) := by decide +kernel
theorem dX7_aboveOf_10 : decode cX7_aboveOf 10 = .ok (.imul, 1) := by decide +kernel
theorem dX7_aboveOf_11 : decode cX7_aboveOf 11 = .ok (.istore_n 3, 1) := by decide +kernel
theorem dX7_aboveOf_12 : decode cX7_aboveOf 12 = .ok (.iconst 0, 1) := by decide +kernel
theorem dX7_aboveOf_13 : decode cX7_aboveOf 13 = .ok (.istore 4, 2) := by decide +kernel
theorem dX7_aboveOf_15 : decode cX7_aboveOf 15 = .ok (.iload 4, 2) := by decide +kernel
theorem dX7_aboveOf_17 : decode cX7_aboveOf 17 = .ok (.aload_n 0, 1) := by decide +kernel
theorem dX7_aboveOf_18 : decode cX7_aboveOf 18 = .ok (.getfield 9, 3) := by decide +kernel
theorem dX7_aboveOf_21 : decode cX7_aboveOf 21 = .ok (.iconst 0, 1) := by decide +kernel
theorem dX7_aboveOf_22 : decode cX7_aboveOf 22 = .ok (.iaload, 1) := by decide +kernel
theorem dX7_aboveOf_23 : decode cX7_aboveOf 23 = .ok (.if_icmp .ge 32, 3) := by decide +kernel
theorem dX7_aboveOf_26 : decode cX7_aboveOf 26 = .ok (.iload_n 3, 1) := by decide +kernel
theorem dX7_aboveOf_27 : decode cX7_aboveOf 27 = .ok (.iload_n 1, 1) := by decide +kernel
theorem dX7_aboveOf_28 : decode cX7_aboveOf 28 = .ok (.iload 4, 2) := by decide +kernel
theorem dX7_aboveOf_30 : decode cX7_aboveOf 30 = .ok (.invokestatic 92, 3) := by decide +kernel
theorem dX7_aboveOf_33 : decode cX7_aboveOf 33 = .ok (.ifCond .eq 13, 3) := by decide +kernel
theorem dX7_aboveOf_36 : decode cX7_aboveOf 36 = .ok (.aload_n 0, 1) := by decide +kernel
theorem dX7_aboveOf_37 : decode cX7_aboveOf 37 = .ok (.getfield 19, 3) := by decide +kernel
theorem dX7_aboveOf_40 : decode cX7_aboveOf 40 = .ok (.iload 4, 2) := by decide +kernel
theorem dX7_aboveOf_42 : decode cX7_aboveOf 42 = .ok (.iaload, 1) := by decide +kernel
theorem dX7_aboveOf_43 : decode cX7_aboveOf 43 = .ok (.goto 4, 3) := by decide +kernel
theorem dX7_aboveOf_46 : decode cX7_aboveOf 46 = .ok (.iconst 0, 1) := by decide +kernel
theorem dX7_aboveOf_47 : decode cX7_aboveOf 47 = .ok (.iadd, 1) := by decide +kernel
theorem dX7_aboveOf_48 : decode cX7_aboveOf 48 = .ok (.istore_n 3, 1) := by decide +kernel
theorem dX7_aboveOf_49 : decode cX7_aboveOf 49 = .ok (.iinc 4 1, 3) := by decide +kernel
theorem dX7_aboveOf_52 : decode cX7_aboveOf 52 = .ok (.goto (-37), 3) := by decide +kernel
theorem dX7_aboveOf_55 : decode cX7_aboveOf 55 = .ok (.aload_n 0, 1) := by decide +kernel
theorem dX7_aboveOf_56 : decode cX7_aboveOf 56 = .ok (.getfield 9, 3) := by decide +kernel
theorem dX7_aboveOf_59 : decode cX7_aboveOf 59 = .ok (.iconst 2, 1) := by decide +kernel
theorem dX7_aboveOf_60 : decode cX7_aboveOf 60 = .ok (.iaload, 1) := by decide +kernel
theorem dX7_aboveOf_61 : decode cX7_aboveOf 61 = .ok (.ifCond .ne 7, 3) := by decide +kernel
theorem dX7_aboveOf_64 : decode cX7_aboveOf 64 = .ok (.iconst 1, 1) := by decide +kernel
theorem dX7_aboveOf_65 : decode cX7_aboveOf 65 = .ok (.goto 4, 3) := by decide +kernel
theorem dX7_aboveOf_68 : decode cX7_aboveOf 68 = .ok (.iconst 2, 1) := by decide +kernel
theorem dX7_aboveOf_69 : decode cX7_aboveOf 69 = .ok (.istore 4, 2) := by decide +kernel
theorem dX7_aboveOf_71 : decode cX7_aboveOf 71 = .ok (.iconst 0, 1) := by decide +kernel
theorem dX7_aboveOf_72 : decode cX7_aboveOf 72 = .ok (.istore 5, 2) := by decide +kernel
theorem dX7_aboveOf_74 : decode cX7_aboveOf 74 = .ok (.iload 5, 2) := by decide +kernel
theorem dX7_aboveOf_76 : decode cX7_aboveOf 76 = .ok (.aload_n 0, 1) := by decide +kernel
theorem dX7_aboveOf_77 : decode cX7_aboveOf 77 = .ok (.getfield 9, 3) := by decide +kernel
theorem dX7_aboveOf_80 : decode cX7_aboveOf 80 = .ok (.iconst 1, 1) := by decide +kernel
theorem dX7_aboveOf_81 : decode cX7_aboveOf 81 = .ok (.iaload, 1) := by decide +kernel
theorem dX7_aboveOf_82 : decode cX7_aboveOf 82 = .ok (.if_icmp .ge 63, 3) := by decide +kernel
theorem dX7_aboveOf_85 : decode cX7_aboveOf 85 = .ok (.iload_n 3, 1) := by decide +kernel
theorem dX7_aboveOf_86 : decode cX7_aboveOf 86 = .ok (.aload_n 0, 1) := by decide +kernel
theorem dX7_aboveOf_87 : decode cX7_aboveOf 87 = .ok (.getfield 16, 3) := by decide +kernel
theorem dX7_aboveOf_90 : decode cX7_aboveOf 90 = .ok (.iload 5, 2) := by decide +kernel
theorem dX7_aboveOf_92 : decode cX7_aboveOf 92 = .ok (.iaload, 1) := by decide +kernel
theorem dX7_aboveOf_93 : decode cX7_aboveOf 93 = .ok (.iconst (-1), 1) := by decide +kernel
theorem dX7_aboveOf_94 : decode cX7_aboveOf 94 = .ok (.if_icmp .ne 42, 3) := by decide +kernel
theorem dX7_aboveOf_97 : decode cX7_aboveOf 97 = .ok (.iload_n 1, 1) := by decide +kernel
theorem dX7_aboveOf_98 : decode cX7_aboveOf 98 = .ok (.aload_n 0, 1) := by decide +kernel
theorem dX7_aboveOf_99 : decode cX7_aboveOf 99 = .ok (.getfield 9, 3) := by decide +kernel
theorem dX7_aboveOf_102 : decode cX7_aboveOf 102 = .ok (.bipush 51, 2) := by decide +kernel
theorem dX7_aboveOf_104 : decode cX7_aboveOf 104 = .ok (.iload 5, 2) := by decide +kernel
theorem dX7_aboveOf_106 : decode cX7_aboveOf 106 = .ok (.iadd, 1) := by decide +kernel
theorem dX7_aboveOf_107 : decode cX7_aboveOf 107 = .ok (.iaload, 1) := by decide +kernel
theorem dX7_aboveOf_108 : decode cX7_aboveOf 108 = .ok (.invokestatic 92, 3) := by decide +kernel
theorem dX7_aboveOf_111 : decode cX7_aboveOf 111 = .ok (.ifCond .eq 25, 3) := by decide +kernel
theorem dX7_aboveOf_114 : decode cX7_aboveOf 114 = .ok (.iload_n 1, 1) := by decide +kernel
theorem dX7_aboveOf_115 : decode cX7_aboveOf 115 = .ok (.aload_n 0, 1) := by decide +kernel
theorem dX7_aboveOf_116 : decode cX7_aboveOf 116 = .ok (.getfield 9, 3) := by decide +kernel
theorem dX7_aboveOf_119 : decode cX7_aboveOf 119 = .ok (.bipush 60, 2) := by decide +kernel
theorem dX7_aboveOf_121 : decode cX7_aboveOf 121 = .ok (.iload 5, 2) := by decide +kernel
theorem dX7_aboveOf_123 : decode cX7_aboveOf 123 = .ok (.iadd, 1) := by decide +kernel
theorem dX7_aboveOf_124 : decode cX7_aboveOf 124 = .ok (.iaload, 1) := by decide +kernel
theorem dX7_aboveOf_125 : decode cX7_aboveOf 125 = .ok (.invokestatic 92, 3) := by decide +kernel
theorem dX7_aboveOf_128 : decode cX7_aboveOf 128 = .ok (.ifCond .eq 8, 3) := by decide +kernel
theorem dX7_aboveOf_131 : decode cX7_aboveOf 131 = .ok (.iload 4, 2) := by decide +kernel
theorem dX7_aboveOf_133 : decode cX7_aboveOf 133 = .ok (.goto 4, 3) := by decide +kernel
theorem dX7_aboveOf_136 : decode cX7_aboveOf 136 = .ok (.iconst 0, 1) := by decide +kernel
theorem dX7_aboveOf_137 : decode cX7_aboveOf 137 = .ok (.iadd, 1) := by decide +kernel
theorem dX7_aboveOf_138 : decode cX7_aboveOf 138 = .ok (.istore_n 3, 1) := by decide +kernel
theorem dX7_aboveOf_139 : decode cX7_aboveOf 139 = .ok (.iinc 5 1, 3) := by decide +kernel
theorem dX7_aboveOf_142 : decode cX7_aboveOf 142 = .ok (.goto (-68), 3) := by decide +kernel
theorem dX7_aboveOf_145 : decode cX7_aboveOf 145 = .ok (.iload_n 3, 1) := by decide +kernel
theorem dX7_aboveOf_146 : decode cX7_aboveOf 146 = .ok (.ireturn, 1) := by decide +kernel
def f_X7_aboveOf_136 (k74 : Nat × Int32 × Int32 × Int32 × Int32 → Hp → Option (Int32 × Hp)) (l0 : Nat) (l1 : Int32) (l4 : Int32) (l5 : Int32) (s0 : Int32) (h0 : Hp) : Option (Int32 × Hp) :=
  (some (s0 + (0 : Int32))).bind fun x1 => (some (l5 + 1)).bind fun x2 => k74 (l0, l1, x1, l4, x2) h0
set_option maxRecDepth 100000 in
set_option maxHeartbeats 4000000 in
theorem c_X7_aboveOf_136 {X : Cx} {adr : Nat → Nat} {q : Int32 × Hp} (hr : (mth X).sig.returnType = (some .int)) {k74 : Nat × Int32 × Int32 × Int32 × Int32 → Hp → Option (Int32 × Hp)} (hk74 : ∀ v h, k74 v h = some q → AW X cX7_aboveOf 6 RX7 (rmd 4 0 0) (Qmet X 0 0 (Qe (some (.int q.1)) q.2 adr)) 0 0 adr h 74 [(0, .ref v.1), (1, .int v.2.1), (3, .int v.2.2.1), (4, .int v.2.2.2.1), (5, .int v.2.2.2.2)] []) {l0 : Nat} {l1 : Int32} {l4 : Int32} {l5 : Int32} {s0 : Int32} {h0 : Hp} (hf : f_X7_aboveOf_136 k74 l0 l1 l4 l5 s0 h0 = some q) : AW X cX7_aboveOf 6 RX7 (rmd 4 0 0) (Qmet X 0 0 (Qe (some (.int q.1)) q.2 adr)) 0 0 adr h0 136 [(0, .ref l0), (1, .int l1), (4, .int l4), (5, .int l5)] [.int s0] := by
  unfold f_X7_aboveOf_136 at hf
  refine aw_iconst (v := 0) dX7_aboveOf_136 (by decide) ?_
  refine aw_iadd dX7_aboveOf_137 ?_
  obtain ⟨x1, ex1, hf⟩ := b_some hf
  refine aw_nm ex1 ?_
  refine aw_istore_n (L' := [(3, .int x1), (0, .ref l0), (1, .int l1), (4, .int l4), (5, .int l5)]) dX7_aboveOf_138 rfl (by decide) rfl ?_
  obtain ⟨x2, ex2, hf⟩ := b_some hf
  refine aw_iinc (v := x2) (L' := [(5, .int x2), (3, .int x1), (0, .ref l0), (1, .int l1), (4, .int l4)]) 4 dX7_aboveOf_139 rfl (Option.some.inj ex2) (by decide) rfl ?_
  refine aw_goto (tgt := 74) dX7_aboveOf_142 (by decide) ?_
  exact aw_sub [2, 3, 1, 4, 0] rfl (hk74 _ _ hf)
def f_X7_aboveOf_74 (k74 : Nat × Int32 × Int32 × Int32 × Int32 → Hp → Option (Int32 × Hp)) (v : Nat × Int32 × Int32 × Int32 × Int32) (h0 : Hp) : Option (Int32 × Hp) :=
  match v with
  | (l0, l1, l3, l4, l5) => (gR h0 l0 7 0).bind fun r1 => (aL h0 r1 (1 : Int32)).bind fun x2 => if x2 ≤ l5 then (some (l3, h0)) else ((gR h0 l0 7 3).bind fun r4 => (aL h0 r4 l5).bind fun x5 => if x5 = (-1 : Int32) then ((gR h0 l0 7 0).bind fun r7 => (aL h0 r7 ((51 : Int32) + l5)).bind fun x8 => (f_X7_has l1 x8 h0).bind fun q9 => if q9.1 = 0 then (f_X7_aboveOf_136 k74 l0 l1 l4 l5 l3 q9.2) else ((gR q9.2 l0 7 0).bind fun r11 => (aL q9.2 r11 ((60 : Int32) + l5)).bind fun x12 => (f_X7_has l1 x12 q9.2).bind fun q13 => if q13.1 = 0 then (f_X7_aboveOf_136 k74 l0 l1 l4 l5 l3 q13.2) else ((some (l3 + l4)).bind fun x15 => (some (l5 + 1)).bind fun x16 => k74 (l0, l1, x15, l4, x16) q13.2))) else (f_X7_aboveOf_136 k74 l0 l1 l4 l5 l3 h0))
set_option maxRecDepth 100000 in
set_option maxHeartbeats 4000000 in
theorem c_X7_aboveOf_74 {X : Cx} {adr : Nat → Nat} {q : Int32 × Hp} (hr : (mth X).sig.returnType = (some .int)) (n : Nat) : ∀ v h0, lp (f_X7_aboveOf_74) n v h0 = some q → AW X cX7_aboveOf 6 RX7 (rmd 4 0 0) (Qmet X 0 0 (Qe (some (.int q.1)) q.2 adr)) 0 0 adr h0 74 [(0, .ref v.1), (1, .int v.2.1), (3, .int v.2.2.1), (4, .int v.2.2.2.1), (5, .int v.2.2.2.2)] [] := by
  refine aw_lp (fun k74 hk74 v h0 hf => ?_) n
  obtain ⟨l0, l1, l3, l4, l5⟩ := v
  unfold f_X7_aboveOf_74 at hf
  dsimp only at hf
  show AW X cX7_aboveOf 6 RX7 (rmd 4 0 0) (Qmet X 0 0 (Qe (some (.int q.1)) q.2 adr)) 0 0 adr h0 74 [(0, .ref l0), (1, .int l1), (3, .int l3), (4, .int l4), (5, .int l5)] []
  refine aw_iload 4 dX7_aboveOf_74 rfl ?_
  refine aw_aload_n 0 dX7_aboveOf_76 rfl rfl ?_
  obtain ⟨r1, er1, hf⟩ := b_some hf
  refine aw_getR dX7_aboveOf_77 gfX7_9 er1 ?_
  refine aw_iconst (v := 1) dX7_aboveOf_80 (by decide) ?_
  obtain ⟨x2, ex2, hf⟩ := b_some hf
  refine aw_iald dX7_aboveOf_81 ex2 ?_
  refine aw_icmp_ge (tgt := 145) dX7_aboveOf_82 (by decide) (fun c3 => ?_) (fun c3 => ?_)
  · have hf := i_pos c3 hf
    refine aw_iload_n 2 dX7_aboveOf_145 rfl rfl ?_
    have hq := Option.some.inj hf
    subst hq
    exact aw_iret hr dX7_aboveOf_146 ⟨rfl, rfl, rfl⟩
  · have hf := i_neg c3 hf
    refine aw_iload_n 2 dX7_aboveOf_85 rfl rfl ?_
    refine aw_aload_n 0 dX7_aboveOf_86 rfl rfl ?_
    obtain ⟨r4, er4, hf⟩ := b_some hf
    refine aw_getR dX7_aboveOf_87 gfX7_16 er4 ?_
    refine aw_iload 4 dX7_aboveOf_90 rfl ?_
    obtain ⟨x5, ex5, hf⟩ := b_some hf
    refine aw_iald dX7_aboveOf_92 ex5 ?_
    refine aw_iconst (v := -1) dX7_aboveOf_93 (by decide) ?_
    refine aw_icmp_ne (tgt := 136) dX7_aboveOf_94 (by decide) (fun c6 => ?_) (fun c6 => ?_)
    · have hf := i_neg c6 hf
      exact aw_sub [0, 1, 3, 4] rfl (c_X7_aboveOf_136 hr hk74 hf)
    · have hf := i_pos c6 hf
      refine aw_iload_n 1 dX7_aboveOf_97 rfl rfl ?_
      refine aw_aload_n 0 dX7_aboveOf_98 rfl rfl ?_
      obtain ⟨r7, er7, hf⟩ := b_some hf
      refine aw_getR dX7_aboveOf_99 gfX7_9 er7 ?_
      refine aw_bipush (v := 51) dX7_aboveOf_102 (by decide) ?_
      refine aw_iload 4 dX7_aboveOf_104 rfl ?_
      refine aw_iadd dX7_aboveOf_106 ?_
      obtain ⟨x8, ex8, hf⟩ := b_some hf
      refine aw_iald dX7_aboveOf_107 ex8 ?_
      obtain ⟨q9, eq9, hf⟩ := b_some hf
      refine aw_cS (as := [.int l1, .int x8]) dX7_aboveOf_108 moX7_has soX7_has mlX7_92 (rm_ok (by omega) (by decide)) ⟨Nat.le_refl _, Nat.le_refl _⟩ (Nat.le_of_ble_eq_true rfl) rfl (c_X7_has eq9) ?_
      refine aw_if_eq (tgt := 136) dX7_aboveOf_111 (by decide) (fun c10 => ?_) (fun c10 => ?_)
      · have hf := i_pos c10 hf
        exact aw_sub [0, 1, 3, 4] rfl (c_X7_aboveOf_136 hr hk74 hf)
      · have hf := i_neg c10 hf
        refine aw_iload_n 1 dX7_aboveOf_114 rfl rfl ?_
        refine aw_aload_n 0 dX7_aboveOf_115 rfl rfl ?_
        obtain ⟨r11, er11, hf⟩ := b_some hf
        refine aw_getR dX7_aboveOf_116 gfX7_9 er11 ?_
        refine aw_bipush (v := 60) dX7_aboveOf_119 (by decide) ?_
        refine aw_iload 4 dX7_aboveOf_121 rfl ?_
        refine aw_iadd dX7_aboveOf_123 ?_
        obtain ⟨x12, ex12, hf⟩ := b_some hf
        refine aw_iald dX7_aboveOf_124 ex12 ?_
        obtain ⟨q13, eq13, hf⟩ := b_some hf
        refine aw_cS (as := [.int l1, .int x12]) dX7_aboveOf_125 moX7_has soX7_has mlX7_92 (rm_ok (by omega) (by decide)) ⟨Nat.le_refl _, Nat.le_refl _⟩ (Nat.le_of_ble_eq_true rfl) rfl (c_X7_has eq13) ?_
        refine aw_if_eq (tgt := 136) dX7_aboveOf_128 (by decide) (fun c14 => ?_) (fun c14 => ?_)
        · have hf := i_pos c14 hf
          exact aw_sub [0, 1, 3, 4] rfl (c_X7_aboveOf_136 hr hk74 hf)
        · have hf := i_neg c14 hf
          refine aw_iload 3 dX7_aboveOf_131 rfl ?_
          refine aw_goto (tgt := 137) dX7_aboveOf_133 (by decide) ?_
          refine aw_iadd dX7_aboveOf_137 ?_
          obtain ⟨x15, ex15, hf⟩ := b_some hf
          refine aw_nm ex15 ?_
          refine aw_istore_n (L' := [(3, .int x15), (0, .ref l0), (1, .int l1), (4, .int l4), (5, .int l5)]) dX7_aboveOf_138 rfl (by decide) rfl ?_
          obtain ⟨x16, ex16, hf⟩ := b_some hf
          refine aw_iinc (v := x16) (L' := [(5, .int x16), (3, .int x15), (0, .ref l0), (1, .int l1), (4, .int l4)]) 4 dX7_aboveOf_139 rfl (Option.some.inj ex16) (by decide) rfl ?_
          refine aw_goto (tgt := 74) dX7_aboveOf_142 (by decide) ?_
          exact aw_sub [2, 3, 1, 4, 0] rfl (hk74 _ _ hf)
def f_X7_aboveOf_69 (l0 : Nat) (l1 : Int32) (l3 : Int32) (s0 : Int32) (h0 : Hp) : Option (Int32 × Hp) :=
  lp (f_X7_aboveOf_74) 600 (l0, l1, l3, s0, (0 : Int32)) h0
set_option maxRecDepth 100000 in
set_option maxHeartbeats 4000000 in
theorem c_X7_aboveOf_69 {X : Cx} {adr : Nat → Nat} {q : Int32 × Hp} (hr : (mth X).sig.returnType = (some .int)) {l0 : Nat} {l1 : Int32} {l3 : Int32} {s0 : Int32} {h0 : Hp} (hf : f_X7_aboveOf_69 l0 l1 l3 s0 h0 = some q) : AW X cX7_aboveOf 6 RX7 (rmd 4 0 0) (Qmet X 0 0 (Qe (some (.int q.1)) q.2 adr)) 0 0 adr h0 69 [(0, .ref l0), (1, .int l1), (3, .int l3)] [.int s0] := by
  unfold f_X7_aboveOf_69 at hf
  refine aw_istore (L' := [(4, .int s0), (0, .ref l0), (1, .int l1), (3, .int l3)]) dX7_aboveOf_69 (by decide) rfl ?_
  refine aw_iconst (v := 0) dX7_aboveOf_71 (by decide) ?_
  refine aw_istore (L' := [(5, .int (0 : Int32)), (4, .int s0), (0, .ref l0), (1, .int l1), (3, .int l3)]) dX7_aboveOf_72 (by decide) rfl ?_
  exact aw_sub [2, 3, 4, 1, 0] rfl (c_X7_aboveOf_74 hr 600 _ _ hf)
def f_X7_aboveOf_15 (k15 : Nat × Int32 × Int32 × Int32 → Hp → Option (Int32 × Hp)) (v : Nat × Int32 × Int32 × Int32) (h0 : Hp) : Option (Int32 × Hp) :=
  match v with
  | (l0, l1, l3, l4) => (gR h0 l0 7 0).bind fun r1 => (aL h0 r1 (0 : Int32)).bind fun x2 => if x2 ≤ l4 then ((gR h0 l0 7 0).bind fun r4 => (aL h0 r4 (2 : Int32)).bind fun x5 => if x5 = 0 then (f_X7_aboveOf_69 l0 l1 l3 (1 : Int32) h0) else (f_X7_aboveOf_69 l0 l1 l3 (2 : Int32) h0)) else ((f_X7_has l1 l4 h0).bind fun q7 => if q7.1 = 0 then ((some (l3 + (0 : Int32))).bind fun x9 => (some (l4 + 1)).bind fun x10 => k15 (l0, l1, x9, x10) q7.2) else ((gR q7.2 l0 7 4).bind fun r11 => (aL q7.2 r11 l4).bind fun x12 => (some (l3 + x12)).bind fun x13 => (some (l4 + 1)).bind fun x14 => k15 (l0, l1, x13, x14) q7.2))
set_option maxRecDepth 100000 in
set_option maxHeartbeats 4000000 in
theorem c_X7_aboveOf_15 {X : Cx} {adr : Nat → Nat} {q : Int32 × Hp} (hr : (mth X).sig.returnType = (some .int)) (n : Nat) : ∀ v h0, lp (f_X7_aboveOf_15) n v h0 = some q → AW X cX7_aboveOf 6 RX7 (rmd 4 0 0) (Qmet X 0 0 (Qe (some (.int q.1)) q.2 adr)) 0 0 adr h0 15 [(0, .ref v.1), (1, .int v.2.1), (3, .int v.2.2.1), (4, .int v.2.2.2)] [] := by
  refine aw_lp (fun k15 hk15 v h0 hf => ?_) n
  obtain ⟨l0, l1, l3, l4⟩ := v
  unfold f_X7_aboveOf_15 at hf
  dsimp only at hf
  show AW X cX7_aboveOf 6 RX7 (rmd 4 0 0) (Qmet X 0 0 (Qe (some (.int q.1)) q.2 adr)) 0 0 adr h0 15 [(0, .ref l0), (1, .int l1), (3, .int l3), (4, .int l4)] []
  refine aw_iload 3 dX7_aboveOf_15 rfl ?_
  refine aw_aload_n 0 dX7_aboveOf_17 rfl rfl ?_
  obtain ⟨r1, er1, hf⟩ := b_some hf
  refine aw_getR dX7_aboveOf_18 gfX7_9 er1 ?_
  refine aw_iconst (v := 0) dX7_aboveOf_21 (by decide) ?_
  obtain ⟨x2, ex2, hf⟩ := b_some hf
  refine aw_iald dX7_aboveOf_22 ex2 ?_
  refine aw_icmp_ge (tgt := 55) dX7_aboveOf_23 (by decide) (fun c3 => ?_) (fun c3 => ?_)
  · have hf := i_pos c3 hf
    refine aw_aload_n 0 dX7_aboveOf_55 rfl rfl ?_
    obtain ⟨r4, er4, hf⟩ := b_some hf
    refine aw_getR dX7_aboveOf_56 gfX7_9 er4 ?_
    refine aw_iconst (v := 2) dX7_aboveOf_59 (by decide) ?_
    obtain ⟨x5, ex5, hf⟩ := b_some hf
    refine aw_iald dX7_aboveOf_60 ex5 ?_
    refine aw_if_ne (tgt := 68) dX7_aboveOf_61 (by decide) (fun c6 => ?_) (fun c6 => ?_)
    · have hf := i_neg c6 hf
      refine aw_iconst (v := 2) dX7_aboveOf_68 (by decide) ?_
      exact aw_sub [0, 1, 2] rfl (c_X7_aboveOf_69 hr hf)
    · have hf := i_pos c6 hf
      refine aw_iconst (v := 1) dX7_aboveOf_64 (by decide) ?_
      refine aw_goto (tgt := 69) dX7_aboveOf_65 (by decide) ?_
      exact aw_sub [0, 1, 2] rfl (c_X7_aboveOf_69 hr hf)
  · have hf := i_neg c3 hf
    refine aw_iload_n 2 dX7_aboveOf_26 rfl rfl ?_
    refine aw_iload_n 1 dX7_aboveOf_27 rfl rfl ?_
    refine aw_iload 3 dX7_aboveOf_28 rfl ?_
    obtain ⟨q7, eq7, hf⟩ := b_some hf
    refine aw_cS (as := [.int l1, .int l4]) dX7_aboveOf_30 moX7_has soX7_has mlX7_92 (rm_ok (by omega) (by decide)) ⟨Nat.le_refl _, Nat.le_refl _⟩ (Nat.le_of_ble_eq_true rfl) rfl (c_X7_has eq7) ?_
    refine aw_if_eq (tgt := 46) dX7_aboveOf_33 (by decide) (fun c8 => ?_) (fun c8 => ?_)
    · have hf := i_pos c8 hf
      refine aw_iconst (v := 0) dX7_aboveOf_46 (by decide) ?_
      refine aw_iadd dX7_aboveOf_47 ?_
      obtain ⟨x9, ex9, hf⟩ := b_some hf
      refine aw_nm ex9 ?_
      refine aw_istore_n (L' := [(3, .int x9), (0, .ref l0), (1, .int l1), (4, .int l4)]) dX7_aboveOf_48 rfl (by decide) rfl ?_
      obtain ⟨x10, ex10, hf⟩ := b_some hf
      refine aw_iinc (v := x10) (L' := [(4, .int x10), (3, .int x9), (0, .ref l0), (1, .int l1)]) 3 dX7_aboveOf_49 rfl (Option.some.inj ex10) (by decide) rfl ?_
      refine aw_goto (tgt := 15) dX7_aboveOf_52 (by decide) ?_
      exact aw_sub [2, 3, 1, 0] rfl (hk15 _ _ hf)
    · have hf := i_neg c8 hf
      refine aw_aload_n 0 dX7_aboveOf_36 rfl rfl ?_
      obtain ⟨r11, er11, hf⟩ := b_some hf
      refine aw_getR dX7_aboveOf_37 gfX7_19 er11 ?_
      refine aw_iload 3 dX7_aboveOf_40 rfl ?_
      obtain ⟨x12, ex12, hf⟩ := b_some hf
      refine aw_iald dX7_aboveOf_42 ex12 ?_
      refine aw_goto (tgt := 47) dX7_aboveOf_43 (by decide) ?_
      refine aw_iadd dX7_aboveOf_47 ?_
      obtain ⟨x13, ex13, hf⟩ := b_some hf
      refine aw_nm ex13 ?_
      refine aw_istore_n (L' := [(3, .int x13), (0, .ref l0), (1, .int l1), (4, .int l4)]) dX7_aboveOf_48 rfl (by decide) rfl ?_
      obtain ⟨x14, ex14, hf⟩ := b_some hf
      refine aw_iinc (v := x14) (L' := [(4, .int x14), (3, .int x13), (0, .ref l0), (1, .int l1)]) 3 dX7_aboveOf_49 rfl (Option.some.inj ex14) (by decide) rfl ?_
      refine aw_goto (tgt := 15) dX7_aboveOf_52 (by decide) ?_
      exact aw_sub [2, 3, 1, 0] rfl (hk15 _ _ hf)
def f_X7_aboveOf (l0 : Nat) (l1 : Int32) (l2 : Int32) (h0 : Hp) : Option (Int32 × Hp) :=
  (ck h0 l0 7).bind fun _ => (f_X7_reach l0 l2 h0).bind fun q1 => (f_X7_ones l1 q1.2).bind fun q2 => (some ((-q1.1) * q2.1)).bind fun x3 => lp (f_X7_aboveOf_15) 600 (l0, l1, x3, (0 : Int32)) q2.2
set_option maxRecDepth 100000 in
set_option maxHeartbeats 4000000 in
theorem c_X7_aboveOf {l0 : Nat} {l1 : Int32} {l2 : Int32} {h0 : Hp} {q : Int32 × Hp} (hf : f_X7_aboveOf l0 l1 l2 h0 = some q) : Mt 4 yX7_aboveOf cX7_aboveOf 6 (some .int) [.ref l0, .int l1, .int l2] h0 (some (.int q.1)) q.2 := by
  refine MtQ.of (by decide) (Nat.le_of_ble_eq_true rfl) (fun X adr hr hn => ?_)
  unfold f_X7_aboveOf at hf
  show AW X cX7_aboveOf 6 RX7 (rmd 4 0 0) (Qmet X 0 0 (Qe (some (.int q.1)) q.2 adr)) 0 0 adr h0 0 [(0, .ref l0), (1, .int l1), (2, .int l2)] []
  obtain ⟨u0, e0, hf⟩ := b_some hf
  refine aw_aload_n 0 dX7_aboveOf_0 rfl rfl ?_
  refine aw_iload_n 2 dX7_aboveOf_1 rfl rfl ?_
  obtain ⟨q1, eq1, hf⟩ := b_some hf
  refine aw_cV (as := [.int l2]) dX7_aboveOf_2 moX7_reach voX7_reach mlX7_108 (k_X7_reach eq1) rfl (rm_ok (by omega) (by decide)) ⟨Nat.le_refl _, Nat.le_refl _⟩ (Nat.le_of_ble_eq_true rfl) rfl (c_X7_reach eq1) ?_
  refine aw_ineg dX7_aboveOf_5 ?_
  refine aw_iload_n 1 dX7_aboveOf_6 rfl rfl ?_
  obtain ⟨q2, eq2, hf⟩ := b_some hf
  refine aw_cS (as := [.int l1]) dX7_aboveOf_7 moX7_ones soX7_ones mlX7_72 (rm_ok (by omega) (by decide)) ⟨Nat.le_refl _, Nat.le_refl _⟩ (Nat.le_of_ble_eq_true rfl) rfl (c_X7_ones eq2) ?_
  refine aw_imul dX7_aboveOf_10 ?_
  obtain ⟨x3, ex3, hf⟩ := b_some hf
  refine aw_nm ex3 ?_
  refine aw_istore_n (L' := [(3, .int x3), (0, .ref l0), (1, .int l1), (2, .int l2)]) dX7_aboveOf_11 rfl (by decide) rfl ?_
  refine aw_iconst (v := 0) dX7_aboveOf_12 (by decide) ?_
  refine aw_istore (L' := [(4, .int (0 : Int32)), (3, .int x3), (0, .ref l0), (1, .int l1), (2, .int l2)]) dX7_aboveOf_13 (by decide) rfl ?_
  exact aw_sub [2, 3, 1, 0] rfl (c_X7_aboveOf_15 hr 600 _ _ hf)
theorem k_X7_aboveOf {l0 : Nat} {l1 : Int32} {l2 : Int32} {h0 : Hp} {q : Int32 × Hp} (hf : f_X7_aboveOf l0 l1 l2 h0 = some q) : ck h0 l0 7 = some () := by
  unfold f_X7_aboveOf at hf
  obtain ⟨u0, e0, hf⟩ := b_some hf
  exact e0
theorem dX7_drawnBrings_0 : decode cX7_drawnBrings 0 = .ok (.aload_n 0, 1) := by decide +kernel
theorem dX7_drawnBrings_1 : decode cX7_drawnBrings 1 = .ok (.getfield 9, 3) := by decide +kernel
theorem dX7_drawnBrings_4 : decode cX7_drawnBrings 4 = .ok (.iconst 2, 1) := by decide +kernel
theorem dX7_drawnBrings_5 : decode cX7_drawnBrings 5 = .ok (.iaload, 1) := by decide +kernel
theorem dX7_drawnBrings_6 : decode cX7_drawnBrings 6 = .ok (.ifCond .ne 7, 3) := by decide +kernel
theorem dX7_drawnBrings_9 : decode cX7_drawnBrings 9 = .ok (.iconst 0, 1) := by decide +kernel
theorem dX7_drawnBrings_10 : decode cX7_drawnBrings 10 = .ok (.goto 4, 3) := by decide +kernel
theorem dX7_drawnBrings_13 : decode cX7_drawnBrings 13 = .ok (.iconst 1, 1) := by decide +kernel
theorem dX7_drawnBrings_14 : decode cX7_drawnBrings 14 = .ok (.ireturn, 1) := by decide +kernel
def f_X7_drawnBrings (l0 : Nat) (h0 : Hp) : Option (Int32 × Hp) :=
  (ck h0 l0 7).bind fun _ => (gR h0 l0 7 0).bind fun r1 => (aL h0 r1 (2 : Int32)).bind fun x2 => if x2 = 0 then (some ((0 : Int32), h0)) else (some ((1 : Int32), h0))
set_option maxRecDepth 100000 in
set_option maxHeartbeats 4000000 in
theorem c_X7_drawnBrings {l0 : Nat} {h0 : Hp} {q : Int32 × Hp} (hf : f_X7_drawnBrings l0 h0 = some q) : Mt 1 yX7_drawnBrings cX7_drawnBrings 1 (some .int) [.ref l0] h0 (some (.int q.1)) q.2 := by
  refine MtQ.of (by decide) (Nat.le_of_ble_eq_true rfl) (fun X adr hr hn => ?_)
  unfold f_X7_drawnBrings at hf
  show AW X cX7_drawnBrings 1 RX7 (rmd 1 0 0) (Qmet X 0 0 (Qe (some (.int q.1)) q.2 adr)) 0 0 adr h0 0 [(0, .ref l0)] []
  obtain ⟨u0, e0, hf⟩ := b_some hf
  refine aw_aload_n 0 dX7_drawnBrings_0 rfl rfl ?_
  obtain ⟨r1, er1, hf⟩ := b_some hf
  refine aw_getR dX7_drawnBrings_1 gfX7_9 er1 ?_
  refine aw_iconst (v := 2) dX7_drawnBrings_4 (by decide) ?_
  obtain ⟨x2, ex2, hf⟩ := b_some hf
  refine aw_iald dX7_drawnBrings_5 ex2 ?_
  refine aw_if_ne (tgt := 13) dX7_drawnBrings_6 (by decide) (fun c3 => ?_) (fun c3 => ?_)
  · have hf := i_neg c3 hf
    refine aw_iconst (v := 1) dX7_drawnBrings_13 (by decide) ?_
    have hq := Option.some.inj hf
    subst hq
    exact aw_iret hr dX7_drawnBrings_14 ⟨rfl, rfl, rfl⟩
  · have hf := i_pos c3 hf
    refine aw_iconst (v := 0) dX7_drawnBrings_9 (by decide) ?_
    refine aw_goto (tgt := 14) dX7_drawnBrings_10 (by decide) ?_
    have hq := Option.some.inj hf
    subst hq
    exact aw_iret hr dX7_drawnBrings_14 ⟨rfl, rfl, rfl⟩
theorem k_X7_drawnBrings {l0 : Nat} {h0 : Hp} {q : Int32 × Hp} (hf : f_X7_drawnBrings l0 h0 = some q) : ck h0 l0 7 = some () := by
  unfold f_X7_drawnBrings at hf
  obtain ⟨u0, e0, hf⟩ := b_some hf
  exact e0
