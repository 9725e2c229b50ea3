theorem dX7_image_0 : decode cX7_image 0 = .ok (.aload_n 0, 1) := by decide +kernel
theorem dX7_image_1 : decode cX7_image 1 = .ok (.iconst 1, 1) := by decide +kernel
theorem dX7_image_2 : decode cX7_image 2 = .ok (.putfield 262, 3) := by decide +kernel
theorem dX7_image_5 : decode cX7_image 5 = .ok (.aload_n 0, 1) := by decide +kernel
theorem dX7_image_6 : decode cX7_image 6 = .ok (.getfield 9, 3) := by decide +kernel
theorem dX7_image_9 : decode cX7_image 9 = .ok (.aload_n 0, 1) := by decide +kernel
theorem dX7_image_10 : decode cX7_image 10 = .ok (.getfield 13, 3) := by decide +kernel
theorem dX7_image_13 : decode cX7_image 13 = .ok (.invokestatic 265, 3) := by decide +kernel
theorem dX7_image_16 : decode cX7_image 16 = .ok (.aload_n 0, 1) := by decide +kernel
theorem dX7_image_17 : decode cX7_image 17 = .ok (.getfield 9, 3) := by decide +kernel
theorem dX7_image_20 : decode cX7_image 20 = .ok (.iconst 1, 1) := by decide +kernel
theorem dX7_image_21 : decode cX7_image 21 = .ok (.iaload, 1) := by decide +kernel
theorem dX7_image_22 : decode cX7_image 22 = .ok (.ireturn, 1) := by decide +kernel
def f_X7_image (l0 : Nat) (h0 : Hp) : Option (Int32 × Hp) :=
  (ck h0 l0 7).bind fun _ => (pZ h0 l0 7 2 (1 : Int32)).bind fun h1 => (gR h1 l0 7 0).bind fun r2 => (gR h1 l0 7 1).bind fun r3 => (f_X7_copies r2 r3 h1).bind fun q4 => (gR q4.2 l0 7 0).bind fun r5 => (aL q4.2 r5 (1 : Int32)).bind fun x6 => some (x6, q4.2)
set_option maxRecDepth 100000 in
set_option maxHeartbeats 4000000 in
theorem c_X7_image {l0 : Nat} {h0 : Hp} {q : Int32 × Hp} (hf : f_X7_image l0 h0 = some q) : Mt 2 yX7_image cX7_image 1 (some .int) [.ref l0] h0 (some (.int q.1)) q.2 := by
  refine MtQ.of (by decide) (Nat.le_of_ble_eq_true rfl) (fun X adr hr hn => ?_)
  unfold f_X7_image at hf
  show AW X cX7_image 1 RX7 (rmd 2 0 0) (Qmet X 0 0 (Qe (some (.int q.1)) q.2 adr)) 0 0 adr h0 0 [(0, .ref l0)] []
  obtain ⟨u0, e0, hf⟩ := b_some hf
  refine aw_aload_n 0 dX7_image_0 rfl rfl ?_
  refine aw_iconst (v := 1) dX7_image_1 (by decide) ?_
  obtain ⟨h1, eh1, hf⟩ := b_some hf
  refine aw_putZ dX7_image_2 pfX7_262 eh1 ?_
  refine aw_aload_n 0 dX7_image_5 rfl rfl ?_
  obtain ⟨r2, er2, hf⟩ := b_some hf
  refine aw_getR dX7_image_6 gfX7_9 er2 ?_
  refine aw_aload_n 0 dX7_image_9 rfl rfl ?_
  obtain ⟨r3, er3, hf⟩ := b_some hf
  refine aw_getR dX7_image_10 gfX7_13 er3 ?_
  obtain ⟨q4, eq4, hf⟩ := b_some hf
  refine aw_cS0 (as := [.ref r2, .ref r3]) dX7_image_13 moX7_copies soX7_copies mlX7_265 (rm_ok (by omega) (by decide)) ⟨Nat.le_refl _, Nat.le_refl _⟩ (Nat.le_of_ble_eq_true rfl) rfl (c_X7_copies eq4) ?_
  refine aw_aload_n 0 dX7_image_16 rfl rfl ?_
  obtain ⟨r5, er5, hf⟩ := b_some hf
  refine aw_getR dX7_image_17 gfX7_9 er5 ?_
  refine aw_iconst (v := 1) dX7_image_20 (by decide) ?_
  obtain ⟨x6, ex6, hf⟩ := b_some hf
  refine aw_iald dX7_image_21 ex6 ?_
  have hq := Option.some.inj hf
  subst hq
  exact aw_iret hr dX7_image_22 ⟨rfl, rfl, rfl⟩
theorem k_X7_image {l0 : Nat} {h0 : Hp} {q : Int32 × Hp} (hf : f_X7_image l0 h0 = some q) : ck h0 l0 7 = some () := by
  unfold f_X7_image at hf
  obtain ⟨u0, e0, hf⟩ := b_some hf
  exact e0
theorem dX7_isEnough_0 : decode cX7_isEnough 0 = .ok (.aload_n 0, 1) := by decide +kernel
theorem dX7_isEnough_1 : decode cX7_isEnough 1 = .ok (.invokevirtual 61, 3) := by decide +kernel
theorem dX7_isEnough_4 : decode cX7_isEnough 4 = .ok (.iconst 0, 1) := by decide +kernel
theorem dX7_isEnough_5 : decode cX7_isEnough 5 = .ok (.istore 4, 2) := by decide +kernel
theorem dX7_isEnough_7 : decode cX7_isEnough 7 = .ok (.iload 4, 2) := by decide +kernel
theorem dX7_isEnough_9 : decode cX7_isEnough 9 = .ok (.aload_n 0, 1) := by decide +kernel
theorem dX7_isEnough_10 : decode cX7_isEnough 10 = .ok (.getfield 9, 3) := by decide +kernel
theorem dX7_isEnough_13 : decode cX7_isEnough 13 = .ok (.iconst 1, 1) := by decide +kernel
theorem dX7_isEnough_14 : decode cX7_isEnough 14 = .ok (.iaload, 1) := by decide +kernel
theorem dX7_isEnough_15 : decode cX7_isEnough 15 = .ok (.if_icmp .ge 62, 3) := by decide +kernel
theorem dX7_isEnough_18 : decode cX7_isEnough 18 = .ok (.iload_n 2, 1) := by decide +kernel
theorem dX7_isEnough_19 : decode cX7_isEnough 19 = .ok (.iload 4, 2) := by decide +kernel
theorem dX7_isEnough_21 : decode cX7_isEnough 21 = .ok (.invokestatic 92, 3) := by decide +kernel
theorem dX7_isEnough_24 : decode cX7_isEnough 24 = .ok (.ifCond .eq 47, 3) := by decide +kernel
theorem dX7_isEnough_27 : decode cX7_isEnough 27 = .ok (.aload_n 0, 1) := by decide +kernel
theorem dX7_isEnough_28 : decode cX7_isEnough 28 = .ok (.getfield 9, 3) := by decide +kernel
theorem dX7_isEnough_31 : decode cX7_isEnough 31 = .ok (.bipush 51, 2) := by decide +kernel
theorem dX7_isEnough_33 : decode cX7_isEnough 33 = .ok (.iload 4, 2) := by decide +kernel
theorem dX7_isEnough_35 : decode cX7_isEnough 35 = .ok (.iadd, 1) := by decide +kernel
theorem dX7_isEnough_36 : decode cX7_isEnough 36 = .ok (.iaload, 1) := by decide +kernel
theorem dX7_isEnough_37 : decode cX7_isEnough 37 = .ok (.iload_n 1, 1) := by decide +kernel
theorem dX7_isEnough_38 : decode cX7_isEnough 38 = .ok (.if_icmp .ne 7, 3) := by decide +kernel
theorem dX7_isEnough_41 : decode cX7_isEnough 41 = .ok (.iconst 1, 1) := by decide +kernel
theorem dX7_isEnough_42 : decode cX7_isEnough 42 = .ok (.goto 4, 3) := by decide +kernel
theorem dX7_isEnough_45 : decode cX7_isEnough 45 = .ok (.iconst 0, 1) := by decide +kernel
theorem dX7_isEnough_46 : decode cX7_isEnough 46 = .ok (.istore 5, 2) := by decide +kernel
theorem dX7_isEnough_48 : decode cX7_isEnough 48 = .ok (.aload_n 0, 1) := by decide +kernel
theorem dX7_isEnough_49 : decode cX7_isEnough 49 = .ok (.iload 4, 2) := by decide +kernel
theorem dX7_isEnough_51 : decode cX7_isEnough 51 = .ok (.iload_n 3, 1) := by decide +kernel
theorem dX7_isEnough_52 : decode cX7_isEnough 52 = .ok (.iload 4, 2) := by decide +kernel
theorem dX7_isEnough_54 : decode cX7_isEnough 54 = .ok (.invokestatic 92, 3) := by decide +kernel
theorem dX7_isEnough_57 : decode cX7_isEnough 57 = .ok (.iload 5, 2) := by decide +kernel
theorem dX7_isEnough_59 : decode cX7_isEnough 59 = .ok (.if_icmp .ne 7, 3) := by decide +kernel
theorem dX7_isEnough_62 : decode cX7_isEnough 62 = .ok (.iconst 1, 1) := by decide +kernel
theorem dX7_isEnough_63 : decode cX7_isEnough 63 = .ok (.goto 4, 3) := by decide +kernel
theorem dX7_isEnough_66 : decode cX7_isEnough 66 = .ok (.iconst 2, 1) := by decide +kernel
theorem dX7_isEnough_67 : decode cX7_isEnough 67 = .ok (.iconst 1, 1) := by decide +kernel
theorem dX7_isEnough_68 : decode cX7_isEnough 68 = .ok (.invokevirtual 54, 3) := by decide +kernel
theorem dX7_isEnough_71 : decode cX7_isEnough 71 = .ok (.iinc 4 1, 3) := by decide +kernel
theorem dX7_isEnough_74 : decode cX7_isEnough 74 = .ok (.goto (-67), 3) := by decide +kernel
theorem dX7_isEnough_77 : decode cX7_isEnough 77 = .ok (.aload_n 0, 1) := by decide +kernel
theorem dX7_isEnough_78 : decode cX7_isEnough 78 = .ok (.iload_n 1, 1) := by decide +kernel
theorem dX7_isEnough_79 : decode cX7_isEnough 79 = .ok (.putfield 75, 3) := by decide +kernel
theorem dX7_isEnough_82 : decode cX7_isEnough 82 = .ok (.aload_n 0, 1) := by decide +kernel
theorem dX7_isEnough_83 : decode cX7_isEnough 83 = .ok (.aload_n 0, 1) := by decide +kernel
theorem dX7_isEnough_84 : decode cX7_isEnough 84 = .ok (.getfield 19, 3) := by decide +kernel
theorem dX7_isEnough_87 : decode cX7_isEnough 87 = .ok (.iload_n 1, 1) := by decide +kernel
theorem dX7_isEnough_88 : decode cX7_isEnough 88 = .ok (.iaload, 1) := by decide +kernel
theorem dX7_isEnough_89 : decode cX7_isEnough 89 = .ok (.putfield 79, 3) := by decide +kernel
theorem dX7_isEnough_92 : decode cX7_isEnough 92 = .ok (.aload_n 0, 1) := by decide +kernel
theorem dX7_isEnough_93 : decode cX7_isEnough 93 = .ok (.iconst 0, 1) := by decide +kernel
theorem dX7_isEnough_94 : decode cX7_isEnough 94 = .ok (.putfield 101, 3) := by decide +kernel
theorem dX7_isEnough_97 : decode cX7_isEnough 97 = .ok (.aload_n 0, 1) := by decide +kernel
theorem dX7_isEnough_98 : decode cX7_isEnough 98 = .ok (.iconst 0, 1) := by decide +kernel
theorem dX7_isEnough_99 : decode cX7_isEnough 99 = .ok (.aload_n 0, 1) := by decide +kernel
theorem dX7_isEnough_100 : decode cX7_isEnough 100 = .ok (.invokevirtual 111, 3) := by decide +kernel
theorem dX7_isEnough_103 : decode cX7_isEnough 103 = .ok (.iload_n 2, 1) := by decide +kernel
theorem dX7_isEnough_104 : decode cX7_isEnough 104 = .ok (.iconst (-1), 1) := by decide +kernel
theorem dX7_isEnough_105 : decode cX7_isEnough 105 = .ok (.ixor, 1) := by decide +kernel
theorem dX7_isEnough_106 : decode cX7_isEnough 106 = .ok (.iand, 1) := by decide +kernel
theorem dX7_isEnough_107 : decode cX7_isEnough 107 = .ok (.invokevirtual 95, 3) := by decide +kernel
theorem dX7_isEnough_110 : decode cX7_isEnough 110 = .ok (.ireturn, 1) := by decide +kernel
def f_X7_isEnough_67 (k7 : Nat × Int32 × Int32 × Int32 × Int32 → Hp → Option (Int32 × Hp)) (l0 : Nat) (l1 : Int32) (l2 : Int32) (l3 : Int32) (l4 : Int32) (s0 : Int32) (s1 : Int32) (s2 : Nat) (h0 : Hp) : Option (Int32 × Hp) :=
  (f_X7_brings s2 s1 s0 (1 : Int32) h0).bind fun q1 => (some (l4 + 1)).bind fun x2 => k7 (l0, l1, l2, l3, x2) q1.2
set_option maxRecDepth 100000 in
set_option maxHeartbeats 4000000 in
theorem c_X7_isEnough_67 {X : Cx} {adr : Nat → Nat} {q : Int32 × Hp} (hr : (mth X).sig.returnType = (some .boolean)) {k7 : Nat × Int32 × Int32 × Int32 × Int32 → Hp → Option (Int32 × Hp)} (hk7 : ∀ v h, k7 v h = some q → AW X cX7_isEnough 6 RX7 (rmd 15 0 0) (Qmet X 0 0 (Qe (some (.int q.1)) q.2 adr)) 0 0 adr h 7 [(0, .ref v.1), (1, .int v.2.1), (2, .int v.2.2.1), (3, .int v.2.2.2.1), (4, .int v.2.2.2.2)] []) {l0 : Nat} {l1 : Int32} {l2 : Int32} {l3 : Int32} {l4 : Int32} {s0 : Int32} {s1 : Int32} {s2 : Nat} {h0 : Hp} (hf : f_X7_isEnough_67 k7 l0 l1 l2 l3 l4 s0 s1 s2 h0 = some q) : AW X cX7_isEnough 6 RX7 (rmd 15 0 0) (Qmet X 0 0 (Qe (some (.int q.1)) q.2 adr)) 0 0 adr h0 67 [(0, .ref l0), (1, .int l1), (2, .int l2), (3, .int l3), (4, .int l4)] [.int s0, .int s1, .ref s2] := by
  unfold f_X7_isEnough_67 at hf
  refine aw_iconst (v := 1) dX7_isEnough_67 (by decide) ?_
  obtain ⟨q1, eq1, hf⟩ := b_some hf
  refine aw_cV0 (as := [.int s1, .int s0, .int (1 : Int32)]) dX7_isEnough_68 moX7_brings voX7_brings mlX7_54 (k_X7_brings eq1) rfl (rm_ok (by omega) (by decide)) ⟨Nat.le_refl _, Nat.le_refl _⟩ (Nat.le_of_ble_eq_true rfl) rfl (c_X7_brings eq1) ?_
  obtain ⟨x2, ex2, hf⟩ := b_some hf
  refine aw_iinc (v := x2) (L' := [(4, .int x2), (0, .ref l0), (1, .int l1), (2, .int l2), (3, .int l3)]) 4 dX7_isEnough_71 rfl (Option.some.inj ex2) (by decide) rfl ?_
  refine aw_goto (tgt := 7) dX7_isEnough_74 (by decide) ?_
  exact aw_sub [1, 2, 3, 4, 0] rfl (hk7 _ _ hf)
def f_X7_isEnough_46 (k7 : Nat × Int32 × Int32 × Int32 × Int32 → Hp → Option (Int32 × Hp)) (l0 : Nat) (l1 : Int32) (l2 : Int32) (l3 : Int32) (l4 : Int32) (s0 : Int32) (h0 : Hp) : Option (Int32 × Hp) :=
  (f_X7_has l3 l4 h0).bind fun q1 => if q1.1 = s0 then (f_X7_isEnough_67 k7 l0 l1 l2 l3 l4 (1 : Int32) l4 l0 q1.2) else (f_X7_isEnough_67 k7 l0 l1 l2 l3 l4 (2 : Int32) l4 l0 q1.2)
set_option maxRecDepth 100000 in
set_option maxHeartbeats 4000000 in
theorem c_X7_isEnough_46 {X : Cx} {adr : Nat → Nat} {q : Int32 × Hp} (hr : (mth X).sig.returnType = (some .boolean)) {k7 : Nat × Int32 × Int32 × Int32 × Int32 → Hp → Option (Int32 × Hp)} (hk7 : ∀ v h, k7 v h = some q → AW X cX7_isEnough 6 RX7 (rmd 15 0 0) (Qmet X 0 0 (Qe (some (.int q.1)) q.2 adr)) 0 0 adr h 7 [(0, .ref v.1), (1, .int v.2.1), (2, .int v.2.2.1), (3, .int v.2.2.2.1), (4, .int v.2.2.2.2)] []) {l0 : Nat} {l1 : Int32} {l2 : Int32} {l3 : Int32} {l4 : Int32} {s0 : Int32} {h0 : Hp} (hf : f_X7_isEnough_46 k7 l0 l1 l2 l3 l4 s0 h0 = some q) : AW X cX7_isEnough 6 RX7 (rmd 15 0 0) (Qmet X 0 0 (Qe (some (.int q.1)) q.2 adr)) 0 0 adr h0 46 [(0, .ref l0), (1, .int l1), (2, .int l2), (3, .int l3), (4, .int l4)] [.int s0] := by
  unfold f_X7_isEnough_46 at hf
  refine aw_istore (L' := [(5, .int s0), (0, .ref l0), (1, .int l1), (2, .int l2), (3, .int l3), (4, .int l4)]) dX7_isEnough_46 (by decide) rfl ?_
  refine aw_aload_n 1 dX7_isEnough_48 rfl rfl ?_
  refine aw_iload 5 dX7_isEnough_49 rfl ?_
  refine aw_iload_n 4 dX7_isEnough_51 rfl rfl ?_
  refine aw_iload 5 dX7_isEnough_52 rfl ?_
  obtain ⟨q1, eq1, hf⟩ := b_some hf
  refine aw_cS (as := [.int l3, .int l4]) dX7_isEnough_54 moX7_has soX7_has mlX7_92 (rm_ok (by omega) (by decide)) ⟨Nat.le_refl _, Nat.le_refl _⟩ (Nat.le_of_ble_eq_true rfl) rfl (c_X7_has eq1) ?_
  refine aw_iload 0 dX7_isEnough_57 rfl ?_
  refine aw_icmp_ne (tgt := 66) dX7_isEnough_59 (by decide) (fun c2 => ?_) (fun c2 => ?_)
  · have hf := i_neg c2 hf
    refine aw_iconst (v := 2) dX7_isEnough_66 (by decide) ?_
    exact aw_sub [1, 2, 3, 4, 5] rfl (c_X7_isEnough_67 hr hk7 hf)
  · have hf := i_pos c2 hf
    refine aw_iconst (v := 1) dX7_isEnough_62 (by decide) ?_
    refine aw_goto (tgt := 67) dX7_isEnough_63 (by decide) ?_
    exact aw_sub [1, 2, 3, 4, 5] rfl (c_X7_isEnough_67 hr hk7 hf)
def f_X7_isEnough_7 (k7 : Nat × Int32 × Int32 × Int32 × Int32 → Hp → Option (Int32 × Hp)) (v : Nat × Int32 × Int32 × Int32 × Int32) (h0 : Hp) : Option (Int32 × Hp) :=
  match v with
  | (l0, l1, l2, l3, l4) => (gR h0 l0 7 0).bind fun r1 => (aL h0 r1 (1 : Int32)).bind fun x2 => if x2 ≤ l4 then ((pI h0 l0 7 5 l1).bind fun h4 => (gR h4 l0 7 4).bind fun r5 => (aL h4 r5 l1).bind fun x6 => (pI h4 l0 7 6 x6).bind fun h7 => (pZ h7 l0 7 9 (0 : Int32)).bind fun h8 => (f_X7_leftSet l0 h8).bind fun q9 => (f_X7_goes 12 l0 (0 : Int32) (q9.1 &&& (l2 ^^^ (-1 : Int32))) q9.2).bind fun q10 => (bz q10.1).bind fun u11 => some (q10.1, q10.2)) else ((f_X7_has l2 l4 h0).bind fun q12 => if q12.1 = 0 then ((some (l4 + 1)).bind fun x14 => k7 (l0, l1, l2, l3, x14) q12.2) else ((gR q12.2 l0 7 0).bind fun r15 => (aL q12.2 r15 ((51 : Int32) + l4)).bind fun x16 => if x16 = l1 then (f_X7_isEnough_46 k7 l0 l1 l2 l3 l4 (1 : Int32) q12.2) else (f_X7_isEnough_46 k7 l0 l1 l2 l3 l4 (0 : Int32) q12.2)))
set_option maxRecDepth 100000 in
set_option maxHeartbeats 4000000 in
theorem c_X7_isEnough_7 {X : Cx} {adr : Nat → Nat} {q : Int32 × Hp} (hr : (mth X).sig.returnType = (some .boolean)) (n : Nat) : ∀ v h0, lp (f_X7_isEnough_7) n v h0 = some q → AW X cX7_isEnough 6 RX7 (rmd 15 0 0) (Qmet X 0 0 (Qe (some (.int q.1)) q.2 adr)) 0 0 adr h0 7 [(0, .ref v.1), (1, .int v.2.1), (2, .int v.2.2.1), (3, .int v.2.2.2.1), (4, .int v.2.2.2.2)] [] := by
  refine aw_lp (fun k7 hk7 v h0 hf => ?_) n
  obtain ⟨l0, l1, l2, l3, l4⟩ := v
  unfold f_X7_isEnough_7 at hf
  dsimp only at hf
  show AW X cX7_isEnough 6 RX7 (rmd 15 0 0) (Qmet X 0 0 (Qe (some (.int q.1)) q.2 adr)) 0 0 adr h0 7 [(0, .ref l0), (1, .int l1), (2, .int l2), (3, .int l3), (4, .int l4)] []
  refine aw_iload 4 dX7_isEnough_7 rfl ?_
  refine aw_aload_n 0 dX7_isEnough_9 rfl rfl ?_
  obtain ⟨r1, er1, hf⟩ := b_some hf
  refine aw_getR dX7_isEnough_10 gfX7_9 er1 ?_
  refine aw_iconst (v := 1) dX7_isEnough_13 (by decide) ?_
  obtain ⟨x2, ex2, hf⟩ := b_some hf
  refine aw_iald dX7_isEnough_14 ex2 ?_
  refine aw_icmp_ge (tgt := 77) dX7_isEnough_15 (by decide) (fun c3 => ?_) (fun c3 => ?_)
  · have hf := i_pos c3 hf
    refine aw_aload_n 0 dX7_isEnough_77 rfl rfl ?_
    refine aw_iload_n 1 dX7_isEnough_78 rfl rfl ?_
    obtain ⟨h4, eh4, hf⟩ := b_some hf
    refine aw_putI dX7_isEnough_79 pfX7_75 eh4 ?_
    refine aw_aload_n 0 dX7_isEnough_82 rfl rfl ?_
    refine aw_aload_n 0 dX7_isEnough_83 rfl rfl ?_
    obtain ⟨r5, er5, hf⟩ := b_some hf
    refine aw_getR dX7_isEnough_84 gfX7_19 er5 ?_
    refine aw_iload_n 1 dX7_isEnough_87 rfl rfl ?_
    obtain ⟨x6, ex6, hf⟩ := b_some hf
    refine aw_iald dX7_isEnough_88 ex6 ?_
    obtain ⟨h7, eh7, hf⟩ := b_some hf
    refine aw_putI dX7_isEnough_89 pfX7_79 eh7 ?_
    refine aw_aload_n 0 dX7_isEnough_92 rfl rfl ?_
    refine aw_iconst (v := 0) dX7_isEnough_93 (by decide) ?_
    obtain ⟨h8, eh8, hf⟩ := b_some hf
    refine aw_putZ dX7_isEnough_94 pfX7_101 eh8 ?_
    refine aw_aload_n 0 dX7_isEnough_97 rfl rfl ?_
    refine aw_iconst (v := 0) dX7_isEnough_98 (by decide) ?_
    refine aw_aload_n 0 dX7_isEnough_99 rfl rfl ?_
    obtain ⟨q9, eq9, hf⟩ := b_some hf
    refine aw_cV (as := []) dX7_isEnough_100 moX7_leftSet voX7_leftSet mlX7_111 (k_X7_leftSet eq9) rfl (rm_ok (by omega) (by decide)) ⟨Nat.le_refl _, Nat.le_refl _⟩ (Nat.le_of_ble_eq_true rfl) rfl (c_X7_leftSet eq9) ?_
    refine aw_iload_n 2 dX7_isEnough_103 rfl rfl ?_
    refine aw_iconst (v := -1) dX7_isEnough_104 (by decide) ?_
    refine aw_ixor dX7_isEnough_105 ?_
    refine aw_iand dX7_isEnough_106 ?_
    obtain ⟨q10, eq10, hf⟩ := b_some hf
    refine aw_cV (as := [.int (0 : Int32), .int (q9.1 &&& (l2 ^^^ (-1 : Int32)))]) dX7_isEnough_107 moX7_goes voX7_goes mlX7_95 (k_X7_goes eq10) rfl (rm_ok (by omega) (by decide)) ⟨Nat.le_refl _, Nat.le_refl _⟩ (Nat.le_of_ble_eq_true rfl) rfl (c_X7_goes 12 eq10) ?_
    obtain ⟨u11, eu11, hf⟩ := b_some hf
    have hq := Option.some.inj hf
    subst hq
    exact aw_zret hr (bz_nar eu11) dX7_isEnough_110 ⟨rfl, rfl, rfl⟩
  · have hf := i_neg c3 hf
    refine aw_iload_n 2 dX7_isEnough_18 rfl rfl ?_
    refine aw_iload 4 dX7_isEnough_19 rfl ?_
    obtain ⟨q12, eq12, hf⟩ := b_some hf
    refine aw_cS (as := [.int l2, .int l4]) dX7_isEnough_21 moX7_has soX7_has mlX7_92 (rm_ok (by omega) (by decide)) ⟨Nat.le_refl _, Nat.le_refl _⟩ (Nat.le_of_ble_eq_true rfl) rfl (c_X7_has eq12) ?_
    refine aw_if_eq (tgt := 71) dX7_isEnough_24 (by decide) (fun c13 => ?_) (fun c13 => ?_)
    · have hf := i_pos c13 hf
      obtain ⟨x14, ex14, hf⟩ := b_some hf
      refine aw_iinc (v := x14) (L' := [(4, .int x14), (0, .ref l0), (1, .int l1), (2, .int l2), (3, .int l3)]) 4 dX7_isEnough_71 rfl (Option.some.inj ex14) (by decide) rfl ?_
      refine aw_goto (tgt := 7) dX7_isEnough_74 (by decide) ?_
      exact aw_sub [1, 2, 3, 4, 0] rfl (hk7 _ _ hf)
    · have hf := i_neg c13 hf
      refine aw_aload_n 0 dX7_isEnough_27 rfl rfl ?_
      obtain ⟨r15, er15, hf⟩ := b_some hf
      refine aw_getR dX7_isEnough_28 gfX7_9 er15 ?_
      refine aw_bipush (v := 51) dX7_isEnough_31 (by decide) ?_
      refine aw_iload 4 dX7_isEnough_33 rfl ?_
      refine aw_iadd dX7_isEnough_35 ?_
      obtain ⟨x16, ex16, hf⟩ := b_some hf
      refine aw_iald dX7_isEnough_36 ex16 ?_
      refine aw_iload_n 1 dX7_isEnough_37 rfl rfl ?_
      refine aw_icmp_ne (tgt := 45) dX7_isEnough_38 (by decide) (fun c17 => ?_) (fun c17 => ?_)
      · have hf := i_neg c17 hf
        refine aw_iconst (v := 0) dX7_isEnough_45 (by decide) ?_
        exact aw_sub [0, 1, 2, 3, 4] rfl (c_X7_isEnough_46 hr hk7 hf)
      · have hf := i_pos c17 hf
        refine aw_iconst (v := 1) dX7_isEnough_41 (by decide) ?_
        refine aw_goto (tgt := 46) dX7_isEnough_42 (by decide) ?_
        exact aw_sub [0, 1, 2, 3, 4] rfl (c_X7_isEnough_46 hr hk7 hf)
def f_X7_isEnough (l0 : Nat) (l1 : Int32) (l2 : Int32) (l3 : Int32) (h0 : Hp) : Option (Int32 × Hp) :=
  (ck h0 l0 7).bind fun _ => (f_X7_looks l0 h0).bind fun q1 => lp (f_X7_isEnough_7) 600 (l0, l1, l2, l3, (0 : Int32)) q1.2
set_option maxRecDepth 100000 in
set_option maxHeartbeats 4000000 in
theorem c_X7_isEnough {l0 : Nat} {l1 : Int32} {l2 : Int32} {l3 : Int32} {h0 : Hp} {q : Int32 × Hp} (hf : f_X7_isEnough l0 l1 l2 l3 h0 = some q) : Mt 15 yX7_isEnough cX7_isEnough 6 (some .boolean) [.ref l0, .int l1, .int l2, .int l3] h0 (some (.int q.1)) q.2 := by
  refine MtQ.of (by decide) (Nat.le_of_ble_eq_true rfl) (fun X adr hr hn => ?_)
  unfold f_X7_isEnough at hf
  show AW X cX7_isEnough 6 RX7 (rmd 15 0 0) (Qmet X 0 0 (Qe (some (.int q.1)) q.2 adr)) 0 0 adr h0 0 [(0, .ref l0), (1, .int l1), (2, .int l2), (3, .int l3)] []
  obtain ⟨u0, e0, hf⟩ := b_some hf
  refine aw_aload_n 0 dX7_isEnough_0 rfl rfl ?_
  obtain ⟨q1, eq1, hf⟩ := b_some hf
  refine aw_cV0 (as := []) dX7_isEnough_1 moX7_looks voX7_looks mlX7_61 (k_X7_looks eq1) rfl (rm_ok (by omega) (by decide)) ⟨Nat.le_refl _, Nat.le_refl _⟩ (Nat.le_of_ble_eq_true rfl) rfl (c_X7_looks eq1) ?_
  refine aw_iconst (v := 0) dX7_isEnough_4 (by decide) ?_
  refine aw_istore (L' := [(4, .int (0 : Int32)), (0, .ref l0), (1, .int l1), (2, .int l2), (3, .int l3)]) dX7_isEnough_5 (by decide) rfl ?_
  exact aw_sub [1, 2, 3, 4, 0] rfl (c_X7_isEnough_7 hr 600 _ _ hf)
theorem k_X7_isEnough {l0 : Nat} {l1 : Int32} {l2 : Int32} {l3 : Int32} {h0 : Hp} {q : Int32 × Hp} (hf : f_X7_isEnough l0 l1 l2 l3 h0 = some q) : ck h0 l0 7 = some () := by
  unfold f_X7_isEnough at hf
  obtain ⟨u0, e0, hf⟩ := b_some hf
  exact e0
theorem dX7_isIn_0 : decode cX7_isIn 0 = .ok (.aload_n 0, 1) := by decide +kernel
theorem dX7_isIn_1 : decode cX7_isIn 1 = .ok (.iload_n 1, 1) := by decide +kernel
theorem dX7_isIn_2 : decode cX7_isIn 2 = .ok (.invokevirtual 205, 3) := by decide +kernel
theorem dX7_isIn_5 : decode cX7_isIn 5 = .ok (.ifCond .ne 6, 3) := by decide +kernel
theorem dX7_isIn_8 : decode cX7_isIn 8 = .ok (.bipush (-2), 2) := by decide +kernel
theorem dX7_isIn_10 : decode cX7_isIn 10 = .ok (.ireturn, 1) := by decide +kernel
theorem dX7_isIn_11 : decode cX7_isIn 11 = .ok (.aload_n 0, 1) := by decide +kernel
theorem dX7_isIn_12 : decode cX7_isIn 12 = .ok (.invokevirtual 61, 3) := by decide +kernel
theorem dX7_isIn_15 : decode cX7_isIn 15 = .ok (.aload_n 0, 1) := by decide +kernel
theorem dX7_isIn_16 : decode cX7_isIn 16 = .ok (.iload_n 1, 1) := by decide +kernel
theorem dX7_isIn_17 : decode cX7_isIn 17 = .ok (.iconst 0, 1) := by decide +kernel
theorem dX7_isIn_18 : decode cX7_isIn 18 = .ok (.invokevirtual 114, 3) := by decide +kernel
theorem dX7_isIn_21 : decode cX7_isIn 21 = .ok (.ifCond .eq 7, 3) := by decide +kernel
theorem dX7_isIn_24 : decode cX7_isIn 24 = .ok (.iconst 1, 1) := by decide +kernel
theorem dX7_isIn_25 : decode cX7_isIn 25 = .ok (.goto 4, 3) := by decide +kernel
theorem dX7_isIn_28 : decode cX7_isIn 28 = .ok (.iconst 0, 1) := by decide +kernel
theorem dX7_isIn_29 : decode cX7_isIn 29 = .ok (.ireturn, 1) := by decide +kernel
def f_X7_isIn (l0 : Nat) (l1 : Int32) (h0 : Hp) : Option (Int32 × Hp) :=
  (ck h0 l0 7).bind fun _ => (f_X7_isTeam l0 l1 h0).bind fun q1 => if q1.1 = 0 then (some ((-2 : Int32), q1.2)) else ((f_X7_looks l0 q1.2).bind fun q3 => (f_X7_isInNow l0 l1 (0 : Int32) q3.2).bind fun q4 => if q4.1 = 0 then (some ((0 : Int32), q4.2)) else (some ((1 : Int32), q4.2)))
set_option maxRecDepth 100000 in
set_option maxHeartbeats 4000000 in
theorem c_X7_isIn {l0 : Nat} {l1 : Int32} {h0 : Hp} {q : Int32 × Hp} (hf : f_X7_isIn l0 l1 h0 = some q) : Mt 16 yX7_isIn cX7_isIn 2 (some .int) [.ref l0, .int l1] h0 (some (.int q.1)) q.2 := by
  refine MtQ.of (by decide) (Nat.le_of_ble_eq_true rfl) (fun X adr hr hn => ?_)
  unfold f_X7_isIn at hf
  show AW X cX7_isIn 2 RX7 (rmd 16 0 0) (Qmet X 0 0 (Qe (some (.int q.1)) q.2 adr)) 0 0 adr h0 0 [(0, .ref l0), (1, .int l1)] []
  obtain ⟨u0, e0, hf⟩ := b_some hf
  refine aw_aload_n 0 dX7_isIn_0 rfl rfl ?_
  refine aw_iload_n 1 dX7_isIn_1 rfl rfl ?_
  obtain ⟨q1, eq1, hf⟩ := b_some hf
  refine aw_cV (as := [.int l1]) dX7_isIn_2 moX7_isTeam voX7_isTeam mlX7_205 (k_X7_isTeam eq1) rfl (rm_ok (by omega) (by decide)) ⟨Nat.le_refl _, Nat.le_refl _⟩ (Nat.le_of_ble_eq_true rfl) rfl (c_X7_isTeam eq1) ?_
  refine aw_if_ne (tgt := 11) dX7_isIn_5 (by decide) (fun c2 => ?_) (fun c2 => ?_)
  · have hf := i_neg c2 hf
    refine aw_aload_n 0 dX7_isIn_11 rfl rfl ?_
    obtain ⟨q3, eq3, hf⟩ := b_some hf
    refine aw_cV0 (as := []) dX7_isIn_12 moX7_looks voX7_looks mlX7_61 (k_X7_looks eq3) rfl (rm_ok (by omega) (by decide)) ⟨Nat.le_refl _, Nat.le_refl _⟩ (Nat.le_of_ble_eq_true rfl) rfl (c_X7_looks eq3) ?_
    refine aw_aload_n 0 dX7_isIn_15 rfl rfl ?_
    refine aw_iload_n 1 dX7_isIn_16 rfl rfl ?_
    refine aw_iconst (v := 0) dX7_isIn_17 (by decide) ?_
    obtain ⟨q4, eq4, hf⟩ := b_some hf
    refine aw_cV (as := [.int l1, .int (0 : Int32)]) dX7_isIn_18 moX7_isInNow voX7_isInNow mlX7_114 (k_X7_isInNow eq4) rfl (rm_ok (by omega) (by decide)) ⟨Nat.le_refl _, Nat.le_refl _⟩ (Nat.le_of_ble_eq_true rfl) rfl (c_X7_isInNow eq4) ?_
    refine aw_if_eq (tgt := 28) dX7_isIn_21 (by decide) (fun c5 => ?_) (fun c5 => ?_)
    · have hf := i_pos c5 hf
      refine aw_iconst (v := 0) dX7_isIn_28 (by decide) ?_
      have hq := Option.some.inj hf
      subst hq
      exact aw_iret hr dX7_isIn_29 ⟨rfl, rfl, rfl⟩
    · have hf := i_neg c5 hf
      refine aw_iconst (v := 1) dX7_isIn_24 (by decide) ?_
      refine aw_goto (tgt := 29) dX7_isIn_25 (by decide) ?_
      have hq := Option.some.inj hf
      subst hq
      exact aw_iret hr dX7_isIn_29 ⟨rfl, rfl, rfl⟩
  · have hf := i_pos c2 hf
    refine aw_bipush (v := -2) dX7_isIn_8 (by decide) ?_
    have hq := Option.some.inj hf
    subst hq
    exact aw_iret hr dX7_isIn_10 ⟨rfl, rfl, rfl⟩
theorem k_X7_isIn {l0 : Nat} {l1 : Int32} {h0 : Hp} {q : Int32 × Hp} (hf : f_X7_isIn l0 l1 h0 = some q) : ck h0 l0 7 = some () := by
  unfold f_X7_isIn at hf
  obtain ⟨u0, e0, hf⟩ := b_some hf
  exact e0
theorem dX7_load_0 : decode cX7_load 0 = .ok (.iload_n 1, 1) := by decide +kernel
theorem dX7_load_1 : decode cX7_load 1 = .ok (.invokestatic 253, 3) := by decide +kernel
theorem dX7_load_4 : decode cX7_load 4 = .ok (.ifCond .eq 26, 3) := by decide +kernel
theorem dX7_load_7 : decode cX7_load 7 = .ok (.iload_n 2, 1) := by decide +kernel
theorem dX7_load_8 : decode cX7_load 8 = .ok (.i2l, 1) := by decide +kernel
theorem dX7_load_9 : decode cX7_load 9 = .ok (.lconst 0, 1) := by decide +kernel
theorem dX7_load_10 : decode cX7_load 10 = .ok (.lconst 1, 1) := by decide +kernel
theorem dX7_load_11 : decode cX7_load 11 = .ok (.invokestatic 43, 3) := by decide +kernel
theorem dX7_load_14 : decode cX7_load 14 = .ok (.ifCond .eq 16, 3) := by decide +kernel
theorem dX7_load_17 : decode cX7_load 17 = .ok (.iload 4, 2) := by decide +kernel
theorem dX7_load_19 : decode cX7_load 19 = .ok (.i2l, 1) := by decide +kernel
theorem dX7_load_20 : decode cX7_load 20 = .ok (.lconst 0, 1) := by decide +kernel
theorem dX7_load_21 : decode cX7_load 21 = .ok (.ldc2_w 271, 3) := by decide +kernel
theorem dX7_load_24 : decode cX7_load 24 = .ok (.invokestatic 43, 3) := by decide +kernel
theorem dX7_load_27 : decode cX7_load 27 = .ok (.ifCond .ne 6, 3) := by decide +kernel
theorem dX7_load_30 : decode cX7_load 30 = .ok (.bipush (-2), 2) := by decide +kernel
theorem dX7_load_32 : decode cX7_load 32 = .ok (.ireturn, 1) := by decide +kernel
theorem dX7_load_33 : decode cX7_load 33 = .ok (.aload_n 0, 1) := by decide +kernel
theorem dX7_load_34 : decode cX7_load 34 = .ok (.getfield 34, 3) := by decide +kernel
theorem dX7_load_37 : decode cX7_load 37 = .ok (.iload_n 1, 1) := by decide +kernel
theorem dX7_load_38 : decode cX7_load 38 = .ok (.iaload, 1) := by decide +kernel
theorem dX7_load_39 : decode cX7_load 39 = .ok (.ifCond .ge 6, 3) := by decide +kernel
theorem dX7_load_42 : decode cX7_load 42 = .ok (.bipush (-11), 2) := by decide +kernel
theorem dX7_load_44 : decode cX7_load 44 = .ok (.ireturn, 1) := by decide +kernel
theorem dX7_load_45 : decode cX7_load 45 = .ok (.aload_n 0, 1) := by decide +kernel
theorem dX7_load_46 : decode cX7_load 46 = .ok (.getfield 34, 3) := by decide +kernel
theorem dX7_load_49 : decode cX7_load 49 = .ok (.iload_n 1, 1) := by decide +kernel
theorem dX7_load_50 : decode cX7_load 50 = .ok (.iaload, 1) := by decide +kernel
theorem dX7_load_51 : decode cX7_load 51 = .ok (.iload_n 2, 1) := by decide +kernel
theorem dX7_load_52 : decode cX7_load 52 = .ok (.if_icmp .eq 6, 3) := by decide +kernel
theorem dX7_load_55 : decode cX7_load 55 = .ok (.bipush (-13), 2) := by decide +kernel
theorem dX7_load_57 : decode cX7_load 57 = .ok (.ireturn, 1) := by decide +kernel
theorem dX7_load_58 : decode cX7_load 58 = .ok (.iconst 0, 1) := by decide +kernel
theorem dX7_load_59 : decode cX7_load 59 = .ok (.istore 5, 2) := by decide +kernel
theorem dX7_load_61 : decode cX7_load 61 = .ok (.iconst 0, 1) := by decide +kernel
theorem dX7_load_62 : decode cX7_load 62 = .ok (.istore 6, 2) := by decide +kernel
theorem dX7_load_64 : decode cX7_load 64 = .ok (.iload 6, 2) := by decide +kernel
theorem dX7_load_66 : decode cX7_load 66 = .ok (.iload 4, 2) := by decide +kernel
theorem dX7_load_68 : decode cX7_load 68 = .ok (.if_icmp .ge 171, 3) := by decide +kernel
theorem dX7_load_71 : decode cX7_load 71 = .ok (.iload_n 3, 1) := by decide +kernel
theorem dX7_load_72 : decode cX7_load 72 = .ok (.i2l, 1) := by decide +kernel
theorem dX7_load_73 : decode cX7_load 73 = .ok (.lconst 0, 1) := by decide +kernel
theorem dX7_load_74 : decode cX7_load 74 = .ok (.aload_n 0, 1) := by decide +kernel
theorem dX7_load_75 : decode cX7_load 75 = .ok (.getfield 37, 3) := by decide +kernel
theorem dX7_load_78 : decode cX7_load 78 = .ok (.iload_n 1, 1) := by decide +kernel
theorem dX7_load_79 : decode cX7_load 79 = .ok (.iaload, 1) := by decide +kernel
theorem dX7_load_80 : decode cX7_load 80 = .ok (.iconst 3, 1) := by decide +kernel
theorem dX7_load_81 : decode cX7_load 81 = .ok (.isub, 1) := by decide +kernel
theorem dX7_load_82 : decode cX7_load 82 = .ok (.iconst 3, 1) := by decide +kernel
theorem dX7_load_83 : decode cX7_load 83 = .ok (.iload 6, 2) := by decide +kernel
theorem dX7_load_85 : decode cX7_load 85 = .ok (.imul, 1) := by decide +kernel
theorem dX7_load_86 : decode cX7_load 86 = .ok (.isub, 1) := by decide +kernel
theorem dX7_load_87 : decode cX7_load 87 = .ok (.i2l, 1) := by decide +kernel
theorem dX7_load_88 : decode cX7_load 88 = .ok (.invokestatic 43, 3) := by decide +kernel
theorem dX7_load_91 : decode cX7_load 91 = .ok (.ifCond .ne 6, 3) := by decide +kernel
theorem dX7_load_94 : decode cX7_load 94 = .ok (.bipush (-12), 2) := by decide +kernel
theorem dX7_load_96 : decode cX7_load 96 = .ok (.ireturn, 1) := by decide +kernel
theorem dX7_load_97 : decode cX7_load 97 = .ok (.bipush 40, 2) := by decide +kernel
theorem dX7_load_99 : decode cX7_load 99 = .ok (.iload_n 1, 1) := by decide +kernel
theorem dX7_load_100 : decode cX7_load 100 = .ok (.imul, 1) := by decide +kernel
theorem dX7_load_101 : decode cX7_load 101 = .ok (.iload_n 3, 1) := by decide +kernel
theorem dX7_load_102 : decode cX7_load 102 = .ok (.iadd, 1) := by decide +kernel
theorem dX7_load_103 : decode cX7_load 103 = .ok (.iconst 3, 1) := by decide +kernel
theorem dX7_load_104 : decode cX7_load 104 = .ok (.iload 6, 2) := by decide +kernel
theorem dX7_load_106 : decode cX7_load 106 = .ok (.imul, 1) := by decide +kernel
theorem dX7_load_107 : decode cX7_load 107 = .ok (.iadd, 1) := by decide +kernel
theorem dX7_load_108 : decode cX7_load 108 = .ok (.istore 7, 2) := by decide +kernel
theorem dX7_load_110 : decode cX7_load 110 = .ok (.aload_n 0, 1) := by decide +kernel
theorem dX7_load_111 : decode cX7_load 111 = .ok (.aload_n 0, 1) := by decide +kernel
theorem dX7_load_112 : decode cX7_load 112 = .ok (.getfield 40, 3) := by decide +kernel
theorem dX7_load_115 : decode cX7_load 115 = .ok (.iload 7, 2) := by decide +kernel
theorem dX7_load_117 : decode cX7_load 117 = .ok (.iaload, 1) := by decide +kernel
theorem dX7_load_118 : decode cX7_load 118 = .ok (.invokevirtual 205, 3) := by decide +kernel
theorem dX7_load_121 : decode cX7_load 121 = .ok (.ifCond .eq 62, 3) := by decide +kernel
theorem dX7_load_124 : decode cX7_load 124 = .ok (.aload_n 0, 1) := by decide +kernel
theorem dX7_load_125 : decode cX7_load 125 = .ok (.aload_n 0, 1) := by decide +kernel
theorem dX7_load_126 : decode cX7_load 126 = .ok (.getfield 40, 3) := by decide +kernel
theorem dX7_load_129 : decode cX7_load 129 = .ok (.iload 7, 2) := by decide +kernel
theorem dX7_load_131 : decode cX7_load 131 = .ok (.iconst 1, 1) := by decide +kernel
theorem dX7_load_132 : decode cX7_load 132 = .ok (.iadd, 1) := by decide +kernel
theorem dX7_load_133 : decode cX7_load 133 = .ok (.iaload, 1) := by decide +kernel
theorem dX7_load_134 : decode cX7_load 134 = .ok (.invokevirtual 205, 3) := by decide +kernel
theorem dX7_load_137 : decode cX7_load 137 = .ok (.ifCond .eq 46, 3) := by decide +kernel
theorem dX7_load_140 : decode cX7_load 140 = .ok (.aload_n 0, 1) := by decide +kernel
theorem dX7_load_141 : decode cX7_load 141 = .ok (.getfield 40, 3) := by decide +kernel
theorem dX7_load_144 : decode cX7_load 144 = .ok (.iload 7, 2) := by decide +kernel
theorem dX7_load_146 : decode cX7_load 146 = .ok (.iaload, 1) := by decide +kernel
theorem dX7_load_147 : decode cX7_load 147 = .ok (.aload_n 0, 1) := by decide +kernel
theorem dX7_load_148 : decode cX7_load 148 = .ok (.getfield 40, 3) := by decide +kernel
theorem dX7_load_151 : decode cX7_load 151 = .ok (.iload 7, 2) := by decide +kernel
theorem dX7_load_153 : decode cX7_load 153 = .ok (.iconst 1, 1) := by decide +kernel
theorem dX7_load_154 : decode cX7_load 154 = .ok (.iadd, 1) := by decide +kernel
theorem dX7_load_155 : decode cX7_load 155 = .ok (.iaload, 1) := by decide +kernel
theorem dX7_load_156 : decode cX7_load 156 = .ok (.if_icmp .eq 27, 3) := by decide +kernel
theorem dX7_load_159 : decode cX7_load 159 = .ok (.aload_n 0, 1) := by decide +kernel
theorem dX7_load_160 : decode cX7_load 160 = .ok (.getfield 40, 3) := by decide +kernel
theorem dX7_load_163 : decode cX7_load 163 = .ok (.iload 7, 2) := by decide +kernel
theorem dX7_load_165 : decode cX7_load 165 = .ok (.iconst 2, 1) := by decide +kernel
theorem dX7_load_166 : decode cX7_load 166 = .ok (.iadd, 1) := by decide +kernel
theorem dX7_load_167 : decode cX7_load 167 = .ok (.iaload, 1) := by decide +kernel
theorem dX7_load_168 : decode cX7_load 168 = .ok (.i2l, 1) := by decide +kernel
theorem dX7_load_169 : decode cX7_load 169 = .ok (.lconst 1, 1) := by decide +kernel
theorem dX7_load_170 : decode cX7_load 170 = .ok (.ldc2_w 273, 3) := by decide +kernel
theorem dX7_load_173 : decode cX7_load 173 = .ok (.invokestatic 43, 3) := by decide +kernel
theorem dX7_load_176 : decode cX7_load 176 = .ok (.ifCond .eq 7, 3) := by decide +kernel
theorem dX7_load_179 : decode cX7_load 179 = .ok (.iconst 1, 1) := by decide +kernel
theorem dX7_load_180 : decode cX7_load 180 = .ok (.goto 4, 3) := by decide +kernel
theorem dX7_load_183 : decode cX7_load 183 = .ok (.iconst 0, 1) := by decide +kernel
theorem dX7_load_184 : decode cX7_load 184 = .ok (.istore 8, 2) := by decide +kernel
theorem dX7_load_186 : decode cX7_load 186 = .ok (.iload 5, 2) := by decide +kernel
theorem dX7_load_188 : decode cX7_load 188 = .ok (.iload 8, 2) := by decide +kernel
theorem dX7_load_190 : decode cX7_load 190 = .ok (.ifCond .eq 39, 3) := by decide +kernel
theorem dX7_load_193 : decode cX7_load 193 = .ok (.aload_n 0, 1) := by decide +kernel
theorem dX7_load_194 : decode cX7_load 194 = .ok (.aload_n 0, 1) := by decide +kernel
theorem dX7_load_195 : decode cX7_load 195 = .ok (.getfield 40, 3) := by decide +kernel
theorem dX7_load_198 : decode cX7_load 198 = .ok (.iload 7, 2) := by decide +kernel
theorem dX7_load_200 : decode cX7_load 200 = .ok (.iaload, 1) := by decide +kernel
theorem dX7_load_201 : decode cX7_load 201 = .ok (.aload_n 0, 1) := by decide +kernel
theorem dX7_load_202 : decode cX7_load 202 = .ok (.getfield 40, 3) := by decide +kernel
theorem dX7_load_205 : decode cX7_load 205 = .ok (.iload 7, 2) := by decide +kernel
theorem dX7_load_207 : decode cX7_load 207 = .ok (.iconst 1, 1) := by decide +kernel
theorem dX7_load_208 : decode cX7_load 208 = .ok (.iadd, 1) := by decide +kernel
theorem dX7_load_209 : decode cX7_load 209 = .ok (.iaload, 1) := by decide +kernel
theorem dX7_load_210 : decode cX7_load 210 = .ok (.aload_n 0, 1) := by decide +kernel
theorem dX7_load_211 : decode cX7_load 211 = .ok (.getfield 40, 3) := by decide +kernel
theorem dX7_load_214 : decode cX7_load 214 = .ok (.iload 7, 2) := by decide +kernel
theorem dX7_load_216 : decode cX7_load 216 = .ok (.iconst 2, 1) := by decide +kernel
theorem dX7_load_217 : decode cX7_load 217 = .ok (.iadd, 1) := by decide +kernel
theorem dX7_load_218 : decode cX7_load 218 = .ok (.iaload, 1) := by decide +kernel
theorem dX7_load_219 : decode cX7_load 219 = .ok (.invokevirtual 192, 3) := by decide +kernel
theorem dX7_load_222 : decode cX7_load 222 = .ok (.ifCond .lt 7, 3) := by decide +kernel
theorem dX7_load_225 : decode cX7_load 225 = .ok (.iconst 1, 1) := by decide +kernel
theorem dX7_load_226 : decode cX7_load 226 = .ok (.goto 4, 3) := by decide +kernel
theorem dX7_load_229 : decode cX7_load 229 = .ok (.iconst 0, 1) := by decide +kernel
theorem dX7_load_230 : decode cX7_load 230 = .ok (.iadd, 1) := by decide +kernel
theorem dX7_load_231 : decode cX7_load 231 = .ok (.istore 5, 2) := by decide +kernel
theorem dX7_load_233 : decode cX7_load 233 = .ok (.iinc 6 1, 3) := by decide +kernel
theorem dX7_load_236 : decode cX7_load 236 = .ok (.goto (-172), 3) := by decide +kernel
theorem dX7_load_239 : decode cX7_load 239 = .ok (.iload 5, 2) := by decide +kernel
theorem dX7_load_241 : decode cX7_load 241 = .ok (.ireturn, 1) := by decide +kernel
def f_X7_load_229 (k64 : Nat × Int32 × Int32 × Int32 × Int32 × Int32 → Hp → Option (Int32 × Hp)) (l0 : Nat) (l1 : Int32) (l3 : Int32) (l4 : Int32) (l6 : Int32) (s0 : Int32) (h0 : Hp) : Option (Int32 × Hp) :=
  (some (s0 + (0 : Int32))).bind fun x1 => (some (l6 + 1)).bind fun x2 => k64 (l0, l1, l3, l4, x1, x2) h0
set_option maxRecDepth 100000 in
set_option maxHeartbeats 4000000 in
theorem c_X7_load_229 {X : Cx} {adr : Nat → Nat} {q : Int32 × Hp} (hr : (mth X).sig.returnType = (some .int)) {k64 : Nat × Int32 × Int32 × Int32 × Int32 × Int32 → Hp → Option (Int32 × Hp)} (hk64 : ∀ v h, k64 v h = some q → AW X cX7_load 9 RX7 (rmd 3 0 0) (Qmet X 0 0 (Qe (some (.int q.1)) q.2 adr)) 0 0 adr h 64 [(0, .ref v.1), (1, .int v.2.1), (3, .int v.2.2.1), (4, .int v.2.2.2.1), (5, .int v.2.2.2.2.1), (6, .int v.2.2.2.2.2)] []) {l0 : Nat} {l1 : Int32} {l3 : Int32} {l4 : Int32} {l6 : Int32} {s0 : Int32} {h0 : Hp} (hf : f_X7_load_229 k64 l0 l1 l3 l4 l6 s0 h0 = some q) : AW X cX7_load 9 RX7 (rmd 3 0 0) (Qmet X 0 0 (Qe (some (.int q.1)) q.2 adr)) 0 0 adr h0 229 [(0, .ref l0), (1, .int l1), (3, .int l3), (4, .int l4), (6, .int l6)] [.int s0] := by
  unfold f_X7_load_229 at hf
  refine aw_iconst (v := 0) dX7_load_229 (by decide) ?_
  refine aw_iadd dX7_load_230 ?_
  obtain ⟨x1, ex1, hf⟩ := b_some hf
  refine aw_nm ex1 ?_
  refine aw_istore (L' := [(5, .int x1), (0, .ref l0), (1, .int l1), (3, .int l3), (4, .int l4), (6, .int l6)]) dX7_load_231 (by decide) rfl ?_
  obtain ⟨x2, ex2, hf⟩ := b_some hf
  refine aw_iinc (v := x2) (L' := [(6, .int x2), (5, .int x1), (0, .ref l0), (1, .int l1), (3, .int l3), (4, .int l4)]) 5 dX7_load_233 rfl (Option.some.inj ex2) (by decide) rfl ?_
  refine aw_goto (tgt := 64) dX7_load_236 (by decide) ?_
  exact aw_sub [2, 3, 4, 5, 1, 0] rfl (hk64 _ _ hf)
def f_X7_load_184 (k64 : Nat × Int32 × Int32 × Int32 × Int32 × Int32 → Hp → Option (Int32 × Hp)) (l0 : Nat) (l1 : Int32) (l3 : Int32) (l4 : Int32) (l5 : Int32) (l6 : Int32) (l7 : Int32) (s0 : Int32) (h0 : Hp) : Option (Int32 × Hp) :=
  if s0 = 0 then (f_X7_load_229 k64 l0 l1 l3 l4 l6 l5 h0) else ((gR h0 l0 7 20).bind fun r2 => (aL h0 r2 l7).bind fun x3 => (gR h0 l0 7 20).bind fun r4 => (aL h0 r4 (l7 + (1 : Int32))).bind fun x5 => (gR h0 l0 7 20).bind fun r6 => (aL h0 r6 (l7 + (2 : Int32))).bind fun x7 => (f_X7_comesGame l0 x3 x5 x7 h0).bind fun q8 => if q8.1 < 0 then (f_X7_load_229 k64 l0 l1 l3 l4 l6 l5 q8.2) else ((some (l5 + (1 : Int32))).bind fun x10 => (some (l6 + 1)).bind fun x11 => k64 (l0, l1, l3, l4, x10, x11) q8.2))
set_option maxRecDepth 100000 in
set_option maxHeartbeats 4000000 in
theorem c_X7_load_184 {X : Cx} {adr : Nat → Nat} {q : Int32 × Hp} (hr : (mth X).sig.returnType = (some .int)) {k64 : Nat × Int32 × Int32 × Int32 × Int32 × Int32 → Hp → Option (Int32 × Hp)} (hk64 : ∀ v h, k64 v h = some q → AW X cX7_load 9 RX7 (rmd 3 0 0) (Qmet X 0 0 (Qe (some (.int q.1)) q.2 adr)) 0 0 adr h 64 [(0, .ref v.1), (1, .int v.2.1), (3, .int v.2.2.1), (4, .int v.2.2.2.1), (5, .int v.2.2.2.2.1), (6, .int v.2.2.2.2.2)] []) {l0 : Nat} {l1 : Int32} {l3 : Int32} {l4 : Int32} {l5 : Int32} {l6 : Int32} {l7 : Int32} {s0 : Int32} {h0 : Hp} (hf : f_X7_load_184 k64 l0 l1 l3 l4 l5 l6 l7 s0 h0 = some q) : AW X cX7_load 9 RX7 (rmd 3 0 0) (Qmet X 0 0 (Qe (some (.int q.1)) q.2 adr)) 0 0 adr h0 184 [(0, .ref l0), (1, .int l1), (3, .int l3), (4, .int l4), (5, .int l5), (6, .int l6), (7, .int l7)] [.int s0] := by
  unfold f_X7_load_184 at hf
  refine aw_istore (L' := [(8, .int s0), (0, .ref l0), (1, .int l1), (3, .int l3), (4, .int l4), (5, .int l5), (6, .int l6), (7, .int l7)]) dX7_load_184 (by decide) rfl ?_
  refine aw_iload 5 dX7_load_186 rfl ?_
  refine aw_iload 0 dX7_load_188 rfl ?_
  refine aw_if_eq (tgt := 229) dX7_load_190 (by decide) (fun c1 => ?_) (fun c1 => ?_)
  · have hf := i_pos c1 hf
    exact aw_sub [1, 2, 3, 4, 6] rfl (c_X7_load_229 hr hk64 hf)
  · have hf := i_neg c1 hf
    refine aw_aload_n 1 dX7_load_193 rfl rfl ?_
    refine aw_aload_n 1 dX7_load_194 rfl rfl ?_
    obtain ⟨r2, er2, hf⟩ := b_some hf
    refine aw_getR dX7_load_195 gfX7_40 er2 ?_
    refine aw_iload 7 dX7_load_198 rfl ?_
    obtain ⟨x3, ex3, hf⟩ := b_some hf
    refine aw_iald dX7_load_200 ex3 ?_
    refine aw_aload_n 1 dX7_load_201 rfl rfl ?_
    obtain ⟨r4, er4, hf⟩ := b_some hf
    refine aw_getR dX7_load_202 gfX7_40 er4 ?_
    refine aw_iload 7 dX7_load_205 rfl ?_
    refine aw_iconst (v := 1) dX7_load_207 (by decide) ?_
    refine aw_iadd dX7_load_208 ?_
    obtain ⟨x5, ex5, hf⟩ := b_some hf
    refine aw_iald dX7_load_209 ex5 ?_
    refine aw_aload_n 1 dX7_load_210 rfl rfl ?_
    obtain ⟨r6, er6, hf⟩ := b_some hf
    refine aw_getR dX7_load_211 gfX7_40 er6 ?_
    refine aw_iload 7 dX7_load_214 rfl ?_
    refine aw_iconst (v := 2) dX7_load_216 (by decide) ?_
    refine aw_iadd dX7_load_217 ?_
    obtain ⟨x7, ex7, hf⟩ := b_some hf
    refine aw_iald dX7_load_218 ex7 ?_
    obtain ⟨q8, eq8, hf⟩ := b_some hf
    refine aw_cV (as := [.int x3, .int x5, .int x7]) dX7_load_219 moX7_comesGame voX7_comesGame mlX7_192 (k_X7_comesGame eq8) rfl (rm_ok (by omega) (by decide)) ⟨Nat.le_refl _, Nat.le_refl _⟩ (Nat.le_of_ble_eq_true rfl) rfl (c_X7_comesGame eq8) ?_
    refine aw_if_lt (tgt := 229) dX7_load_222 (by decide) (fun c9 => ?_) (fun c9 => ?_)
    · have hf := i_pos c9 hf
      exact aw_sub [1, 2, 3, 4, 6] rfl (c_X7_load_229 hr hk64 hf)
    · have hf := i_neg c9 hf
      refine aw_iconst (v := 1) dX7_load_225 (by decide) ?_
      refine aw_goto (tgt := 230) dX7_load_226 (by decide) ?_
      refine aw_iadd dX7_load_230 ?_
      obtain ⟨x10, ex10, hf⟩ := b_some hf
      refine aw_nm ex10 ?_
      refine aw_istore (L' := [(5, .int x10), (8, .int s0), (0, .ref l0), (1, .int l1), (3, .int l3), (4, .int l4), (6, .int l6), (7, .int l7)]) dX7_load_231 (by decide) rfl ?_
      obtain ⟨x11, ex11, hf⟩ := b_some hf
      refine aw_iinc (v := x11) (L' := [(6, .int x11), (5, .int x10), (8, .int s0), (0, .ref l0), (1, .int l1), (3, .int l3), (4, .int l4), (7, .int l7)]) 6 dX7_load_233 rfl (Option.some.inj ex11) (by decide) rfl ?_
      refine aw_goto (tgt := 64) dX7_load_236 (by decide) ?_
      exact aw_sub [3, 4, 5, 6, 1, 0] rfl (hk64 _ _ hf)
def f_X7_load_183 (k64 : Nat × Int32 × Int32 × Int32 × Int32 × Int32 → Hp → Option (Int32 × Hp)) (l0 : Nat) (l1 : Int32) (l3 : Int32) (l4 : Int32) (l5 : Int32) (l6 : Int32) (l7 : Int32) (h0 : Hp) : Option (Int32 × Hp) :=
  f_X7_load_184 k64 l0 l1 l3 l4 l5 l6 l7 (0 : Int32) h0
set_option maxRecDepth 100000 in
set_option maxHeartbeats 4000000 in
theorem c_X7_load_183 {X : Cx} {adr : Nat → Nat} {q : Int32 × Hp} (hr : (mth X).sig.returnType = (some .int)) {k64 : Nat × Int32 × Int32 × Int32 × Int32 × Int32 → Hp → Option (Int32 × Hp)} (hk64 : ∀ v h, k64 v h = some q → AW X cX7_load 9 RX7 (rmd 3 0 0) (Qmet X 0 0 (Qe (some (.int q.1)) q.2 adr)) 0 0 adr h 64 [(0, .ref v.1), (1, .int v.2.1), (3, .int v.2.2.1), (4, .int v.2.2.2.1), (5, .int v.2.2.2.2.1), (6, .int v.2.2.2.2.2)] []) {l0 : Nat} {l1 : Int32} {l3 : Int32} {l4 : Int32} {l5 : Int32} {l6 : Int32} {l7 : Int32} {h0 : Hp} (hf : f_X7_load_183 k64 l0 l1 l3 l4 l5 l6 l7 h0 = some q) : AW X cX7_load 9 RX7 (rmd 3 0 0) (Qmet X 0 0 (Qe (some (.int q.1)) q.2 adr)) 0 0 adr h0 183 [(0, .ref l0), (1, .int l1), (3, .int l3), (4, .int l4), (5, .int l5), (6, .int l6), (7, .int l7)] [] := by
  unfold f_X7_load_183 at hf
  refine aw_iconst (v := 0) dX7_load_183 (by decide) ?_
  exact aw_sub [0, 1, 2, 3, 4, 5, 6] rfl (c_X7_load_184 hr hk64 hf)
def f_X7_load_64 (k64 : Nat × Int32 × Int32 × Int32 × Int32 × Int32 → Hp → Option (Int32 × Hp)) (v : Nat × Int32 × Int32 × Int32 × Int32 × Int32) (h0 : Hp) : Option (Int32 × Hp) :=
  match v with
  | (l0, l1, l3, l4, l5, l6) => if l4 ≤ l6 then (some (l5, h0)) else ((gR h0 l0 7 19).bind fun r2 => (aL h0 r2 l1).bind fun x3 => (f_X7_in (Int32.toInt64 l3) (0 : Int64) (Int32.toInt64 ((x3 - (3 : Int32)) - ((3 : Int32) * l6))) h0).bind fun q4 => if q4.1 = 0 then (some ((-12 : Int32), q4.2)) else ((some ((((40 : Int32) * l1) + l3) + ((3 : Int32) * l6))).bind fun x6 => (gR q4.2 l0 7 20).bind fun r7 => (aL q4.2 r7 x6).bind fun x8 => (f_X7_isTeam l0 x8 q4.2).bind fun q9 => if q9.1 = 0 then (f_X7_load_183 k64 l0 l1 l3 l4 l5 l6 x6 q9.2) else ((gR q9.2 l0 7 20).bind fun r11 => (aL q9.2 r11 (x6 + (1 : Int32))).bind fun x12 => (f_X7_isTeam l0 x12 q9.2).bind fun q13 => if q13.1 = 0 then (f_X7_load_183 k64 l0 l1 l3 l4 l5 l6 x6 q13.2) else ((gR q13.2 l0 7 20).bind fun r15 => (aL q13.2 r15 x6).bind fun x16 => (gR q13.2 l0 7 20).bind fun r17 => (aL q13.2 r17 (x6 + (1 : Int32))).bind fun x18 => if x16 = x18 then (f_X7_load_183 k64 l0 l1 l3 l4 l5 l6 x6 q13.2) else ((gR q13.2 l0 7 20).bind fun r20 => (aL q13.2 r20 (x6 + (2 : Int32))).bind fun x21 => (f_X7_in (Int32.toInt64 x21) (1 : Int64) (30 : Int64) q13.2).bind fun q22 => if q22.1 = 0 then (f_X7_load_183 k64 l0 l1 l3 l4 l5 l6 x6 q22.2) else (f_X7_load_184 k64 l0 l1 l3 l4 l5 l6 x6 (1 : Int32) q22.2))))))
set_option maxRecDepth 100000 in
set_option maxHeartbeats 4000000 in
theorem c_X7_load_64 {X : Cx} {adr : Nat → Nat} {q : Int32 × Hp} (hr : (mth X).sig.returnType = (some .int)) (n : Nat) : ∀ v h0, lp (f_X7_load_64) n v h0 = some q → AW X cX7_load 9 RX7 (rmd 3 0 0) (Qmet X 0 0 (Qe (some (.int q.1)) q.2 adr)) 0 0 adr h0 64 [(0, .ref v.1), (1, .int v.2.1), (3, .int v.2.2.1), (4, .int v.2.2.2.1), (5, .int v.2.2.2.2.1), (6, .int v.2.2.2.2.2)] [] := by
  refine aw_lp (fun k64 hk64 v h0 hf => ?_) n
  obtain ⟨l0, l1, l3, l4, l5, l6⟩ := v
  unfold f_X7_load_64 at hf
  dsimp only at hf
  show AW X cX7_load 9 RX7 (rmd 3 0 0) (Qmet X 0 0 (Qe (some (.int q.1)) q.2 adr)) 0 0 adr h0 64 [(0, .ref l0), (1, .int l1), (3, .int l3), (4, .int l4), (5, .int l5), (6, .int l6)] []
  refine aw_iload 5 dX7_load_64 rfl ?_
  refine aw_iload 3 dX7_load_66 rfl ?_
  refine aw_icmp_ge (tgt := 239) dX7_load_68 (by decide) (fun c1 => ?_) (fun c1 => ?_)
  · have hf := i_pos c1 hf
    refine aw_iload 4 dX7_load_239 rfl ?_
    have hq := Option.some.inj hf
    subst hq
    exact aw_iret hr dX7_load_241 ⟨rfl, rfl, rfl⟩
  · have hf := i_neg c1 hf
    refine aw_iload_n 2 dX7_load_71 rfl rfl ?_
    refine aw_i2l dX7_load_72 ?_
    refine aw_lconst (v := 0) dX7_load_73 (by decide) ?_
    refine aw_aload_n 0 dX7_load_74 rfl rfl ?_
    obtain ⟨r2, er2, hf⟩ := b_some hf
    refine aw_getR dX7_load_75 gfX7_37 er2 ?_
    refine aw_iload_n 1 dX7_load_78 rfl rfl ?_
    obtain ⟨x3, ex3, hf⟩ := b_some hf
    refine aw_iald dX7_load_79 ex3 ?_
    refine aw_iconst (v := 3) dX7_load_80 (by decide) ?_
    refine aw_isub dX7_load_81 ?_
    refine aw_iconst (v := 3) dX7_load_82 (by decide) ?_
    refine aw_iload 5 dX7_load_83 rfl ?_
    refine aw_imul dX7_load_85 ?_
    refine aw_isub dX7_load_86 ?_
    refine aw_i2l dX7_load_87 ?_
    obtain ⟨q4, eq4, hf⟩ := b_some hf
    refine aw_cS (as := [.long (Int32.toInt64 l3), .long (0 : Int64), .long (Int32.toInt64 ((x3 - (3 : Int32)) - ((3 : Int32) * l6)))]) dX7_load_88 moX7_in soX7_in mlX7_43 (rm_ok (by omega) (by decide)) ⟨Nat.le_refl _, Nat.le_refl _⟩ (Nat.le_of_ble_eq_true rfl) rfl (c_X7_in eq4) ?_
    refine aw_if_ne (tgt := 97) dX7_load_91 (by decide) (fun c5 => ?_) (fun c5 => ?_)
    · have hf := i_neg c5 hf
      refine aw_bipush (v := 40) dX7_load_97 (by decide) ?_
      refine aw_iload_n 1 dX7_load_99 rfl rfl ?_
      refine aw_imul dX7_load_100 ?_
      refine aw_iload_n 2 dX7_load_101 rfl rfl ?_
      refine aw_iadd dX7_load_102 ?_
      refine aw_iconst (v := 3) dX7_load_103 (by decide) ?_
      refine aw_iload 5 dX7_load_104 rfl ?_
      refine aw_imul dX7_load_106 ?_
      refine aw_iadd dX7_load_107 ?_
      obtain ⟨x6, ex6, hf⟩ := b_some hf
      refine aw_nm ex6 ?_
      refine aw_istore (L' := [(7, .int x6), (0, .ref l0), (1, .int l1), (3, .int l3), (4, .int l4), (5, .int l5), (6, .int l6)]) dX7_load_108 (by decide) rfl ?_
      refine aw_aload_n 1 dX7_load_110 rfl rfl ?_
      refine aw_aload_n 1 dX7_load_111 rfl rfl ?_
      obtain ⟨r7, er7, hf⟩ := b_some hf
      refine aw_getR dX7_load_112 gfX7_40 er7 ?_
      refine aw_iload 0 dX7_load_115 rfl ?_
      obtain ⟨x8, ex8, hf⟩ := b_some hf
      refine aw_iald dX7_load_117 ex8 ?_
      obtain ⟨q9, eq9, hf⟩ := b_some hf
      refine aw_cV (as := [.int x8]) dX7_load_118 moX7_isTeam voX7_isTeam mlX7_205 (k_X7_isTeam eq9) rfl (rm_ok (by omega) (by decide)) ⟨Nat.le_refl _, Nat.le_refl _⟩ (Nat.le_of_ble_eq_true rfl) rfl (c_X7_isTeam eq9) ?_
      refine aw_if_eq (tgt := 183) dX7_load_121 (by decide) (fun c10 => ?_) (fun c10 => ?_)
      · have hf := i_pos c10 hf
        exact aw_sub [1, 2, 3, 4, 5, 6, 0] rfl (c_X7_load_183 hr hk64 hf)
      · have hf := i_neg c10 hf
        refine aw_aload_n 1 dX7_load_124 rfl rfl ?_
        refine aw_aload_n 1 dX7_load_125 rfl rfl ?_
        obtain ⟨r11, er11, hf⟩ := b_some hf
        refine aw_getR dX7_load_126 gfX7_40 er11 ?_
        refine aw_iload 0 dX7_load_129 rfl ?_
        refine aw_iconst (v := 1) dX7_load_131 (by decide) ?_
        refine aw_iadd dX7_load_132 ?_
        obtain ⟨x12, ex12, hf⟩ := b_some hf
        refine aw_iald dX7_load_133 ex12 ?_
        obtain ⟨q13, eq13, hf⟩ := b_some hf
        refine aw_cV (as := [.int x12]) dX7_load_134 moX7_isTeam voX7_isTeam mlX7_205 (k_X7_isTeam eq13) rfl (rm_ok (by omega) (by decide)) ⟨Nat.le_refl _, Nat.le_refl _⟩ (Nat.le_of_ble_eq_true rfl) rfl (c_X7_isTeam eq13) ?_
        refine aw_if_eq (tgt := 183) dX7_load_137 (by decide) (fun c14 => ?_) (fun c14 => ?_)
        · have hf := i_pos c14 hf
          exact aw_sub [1, 2, 3, 4, 5, 6, 0] rfl (c_X7_load_183 hr hk64 hf)
        · have hf := i_neg c14 hf
          refine aw_aload_n 1 dX7_load_140 rfl rfl ?_
          obtain ⟨r15, er15, hf⟩ := b_some hf
          refine aw_getR dX7_load_141 gfX7_40 er15 ?_
          refine aw_iload 0 dX7_load_144 rfl ?_
          obtain ⟨x16, ex16, hf⟩ := b_some hf
          refine aw_iald dX7_load_146 ex16 ?_
          refine aw_aload_n 1 dX7_load_147 rfl rfl ?_
          obtain ⟨r17, er17, hf⟩ := b_some hf
          refine aw_getR dX7_load_148 gfX7_40 er17 ?_
          refine aw_iload 0 dX7_load_151 rfl ?_
          refine aw_iconst (v := 1) dX7_load_153 (by decide) ?_
          refine aw_iadd dX7_load_154 ?_
          obtain ⟨x18, ex18, hf⟩ := b_some hf
          refine aw_iald dX7_load_155 ex18 ?_
          refine aw_icmp_eq (tgt := 183) dX7_load_156 (by decide) (fun c19 => ?_) (fun c19 => ?_)
          · have hf := i_pos c19 hf
            exact aw_sub [1, 2, 3, 4, 5, 6, 0] rfl (c_X7_load_183 hr hk64 hf)
          · have hf := i_neg c19 hf
            refine aw_aload_n 1 dX7_load_159 rfl rfl ?_
            obtain ⟨r20, er20, hf⟩ := b_some hf
            refine aw_getR dX7_load_160 gfX7_40 er20 ?_
            refine aw_iload 0 dX7_load_163 rfl ?_
            refine aw_iconst (v := 2) dX7_load_165 (by decide) ?_
            refine aw_iadd dX7_load_166 ?_
            obtain ⟨x21, ex21, hf⟩ := b_some hf
            refine aw_iald dX7_load_167 ex21 ?_
            refine aw_i2l dX7_load_168 ?_
            refine aw_lconst (v := 1) dX7_load_169 (by decide) ?_
            refine aw_ldc2 dX7_load_170 klX7_273 ?_
            obtain ⟨q22, eq22, hf⟩ := b_some hf
            refine aw_cS (as := [.long (Int32.toInt64 x21), .long (1 : Int64), .long (30 : Int64)]) dX7_load_173 moX7_in soX7_in mlX7_43 (rm_ok (by omega) (by decide)) ⟨Nat.le_refl _, Nat.le_refl _⟩ (Nat.le_of_ble_eq_true rfl) rfl (c_X7_in eq22) ?_
            refine aw_if_eq (tgt := 183) dX7_load_176 (by decide) (fun c23 => ?_) (fun c23 => ?_)
            · have hf := i_pos c23 hf
              exact aw_sub [1, 2, 3, 4, 5, 6, 0] rfl (c_X7_load_183 hr hk64 hf)
            · have hf := i_neg c23 hf
              refine aw_iconst (v := 1) dX7_load_179 (by decide) ?_
              refine aw_goto (tgt := 184) dX7_load_180 (by decide) ?_
              exact aw_sub [1, 2, 3, 4, 5, 6, 0] rfl (c_X7_load_184 hr hk64 hf)
    · have hf := i_pos c5 hf
      refine aw_bipush (v := -12) dX7_load_94 (by decide) ?_
      have hq := Option.some.inj hf
      subst hq
      exact aw_iret hr dX7_load_96 ⟨rfl, rfl, rfl⟩
def f_X7_load (l0 : Nat) (l1 : Int32) (l2 : Int32) (l3 : Int32) (l4 : Int32) (h0 : Hp) : Option (Int32 × Hp) :=
  (ck h0 l0 7).bind fun _ => (f_X7_isSheet l1 h0).bind fun q1 => if q1.1 = 0 then (some ((-2 : Int32), q1.2)) else ((f_X7_in (Int32.toInt64 l2) (0 : Int64) (1 : Int64) q1.2).bind fun q3 => if q3.1 = 0 then (some ((-2 : Int32), q3.2)) else ((f_X7_in (Int32.toInt64 l4) (0 : Int64) (9 : Int64) q3.2).bind fun q5 => if q5.1 = 0 then (some ((-2 : Int32), q5.2)) else ((gR q5.2 l0 7 18).bind fun r7 => (aL q5.2 r7 l1).bind fun x8 => if 0 ≤ x8 then ((gR q5.2 l0 7 18).bind fun r10 => (aL q5.2 r10 l1).bind fun x11 => if x11 = l2 then (lp (f_X7_load_64) 600 (l0, l1, l3, l4, (0 : Int32), (0 : Int32)) q5.2) else (some ((-13 : Int32), q5.2))) else (some ((-11 : Int32), q5.2)))))
set_option maxRecDepth 100000 in
set_option maxHeartbeats 4000000 in
theorem c_X7_load {l0 : Nat} {l1 : Int32} {l2 : Int32} {l3 : Int32} {l4 : Int32} {h0 : Hp} {q : Int32 × Hp} (hf : f_X7_load l0 l1 l2 l3 l4 h0 = some q) : Mt 3 yX7_load cX7_load 9 (some .int) [.ref l0, .int l1, .int l2, .int l3, .int l4] h0 (some (.int q.1)) q.2 := by
  refine MtQ.of (by decide) (Nat.le_of_ble_eq_true rfl) (fun X adr hr hn => ?_)
  unfold f_X7_load at hf
  show AW X cX7_load 9 RX7 (rmd 3 0 0) (Qmet X 0 0 (Qe (some (.int q.1)) q.2 adr)) 0 0 adr h0 0 [(0, .ref l0), (1, .int l1), (2, .int l2), (3, .int l3), (4, .int l4)] []
  obtain ⟨u0, e0, hf⟩ := b_some hf
  refine aw_iload_n 1 dX7_load_0 rfl rfl ?_
  obtain ⟨q1, eq1, hf⟩ := b_some hf
  refine aw_cS (as := [.int l1]) dX7_load_1 moX7_isSheet soX7_isSheet mlX7_253 (rm_ok (by omega) (by decide)) ⟨Nat.le_refl _, Nat.le_refl _⟩ (Nat.le_of_ble_eq_true rfl) rfl (c_X7_isSheet eq1) ?_
  refine aw_if_eq (tgt := 30) dX7_load_4 (by decide) (fun c2 => ?_) (fun c2 => ?_)
  · have hf := i_pos c2 hf
    refine aw_bipush (v := -2) dX7_load_30 (by decide) ?_
    have hq := Option.some.inj hf
    subst hq
    exact aw_iret hr dX7_load_32 ⟨rfl, rfl, rfl⟩
  · have hf := i_neg c2 hf
    refine aw_iload_n 2 dX7_load_7 rfl rfl ?_
    refine aw_i2l dX7_load_8 ?_
    refine aw_lconst (v := 0) dX7_load_9 (by decide) ?_
    refine aw_lconst (v := 1) dX7_load_10 (by decide) ?_
    obtain ⟨q3, eq3, hf⟩ := b_some hf
    refine aw_cS (as := [.long (Int32.toInt64 l2), .long (0 : Int64), .long (1 : Int64)]) dX7_load_11 moX7_in soX7_in mlX7_43 (rm_ok (by omega) (by decide)) ⟨Nat.le_refl _, Nat.le_refl _⟩ (Nat.le_of_ble_eq_true rfl) rfl (c_X7_in eq3) ?_
    refine aw_if_eq (tgt := 30) dX7_load_14 (by decide) (fun c4 => ?_) (fun c4 => ?_)
    · have hf := i_pos c4 hf
      refine aw_bipush (v := -2) dX7_load_30 (by decide) ?_
      have hq := Option.some.inj hf
      subst hq
      exact aw_iret hr dX7_load_32 ⟨rfl, rfl, rfl⟩
    · have hf := i_neg c4 hf
      refine aw_iload 4 dX7_load_17 rfl ?_
      refine aw_i2l dX7_load_19 ?_
      refine aw_lconst (v := 0) dX7_load_20 (by decide) ?_
      refine aw_ldc2 dX7_load_21 klX7_271 ?_
      obtain ⟨q5, eq5, hf⟩ := b_some hf
      refine aw_cS (as := [.long (Int32.toInt64 l4), .long (0 : Int64), .long (9 : Int64)]) dX7_load_24 moX7_in soX7_in mlX7_43 (rm_ok (by omega) (by decide)) ⟨Nat.le_refl _, Nat.le_refl _⟩ (Nat.le_of_ble_eq_true rfl) rfl (c_X7_in eq5) ?_
      refine aw_if_ne (tgt := 33) dX7_load_27 (by decide) (fun c6 => ?_) (fun c6 => ?_)
      · have hf := i_neg c6 hf
        refine aw_aload_n 0 dX7_load_33 rfl rfl ?_
        obtain ⟨r7, er7, hf⟩ := b_some hf
        refine aw_getR dX7_load_34 gfX7_34 er7 ?_
        refine aw_iload_n 1 dX7_load_37 rfl rfl ?_
        obtain ⟨x8, ex8, hf⟩ := b_some hf
        refine aw_iald dX7_load_38 ex8 ?_
        refine aw_if_ge (tgt := 45) dX7_load_39 (by decide) (fun c9 => ?_) (fun c9 => ?_)
        · have hf := i_pos c9 hf
          refine aw_aload_n 0 dX7_load_45 rfl rfl ?_
          obtain ⟨r10, er10, hf⟩ := b_some hf
          refine aw_getR dX7_load_46 gfX7_34 er10 ?_
          refine aw_iload_n 1 dX7_load_49 rfl rfl ?_
          obtain ⟨x11, ex11, hf⟩ := b_some hf
          refine aw_iald dX7_load_50 ex11 ?_
          refine aw_iload_n 2 dX7_load_51 rfl rfl ?_
          refine aw_icmp_eq (tgt := 58) dX7_load_52 (by decide) (fun c12 => ?_) (fun c12 => ?_)
          · have hf := i_pos c12 hf
            refine aw_iconst (v := 0) dX7_load_58 (by decide) ?_
            refine aw_istore (L' := [(5, .int (0 : Int32)), (0, .ref l0), (1, .int l1), (2, .int l2), (3, .int l3), (4, .int l4)]) dX7_load_59 (by decide) rfl ?_
            refine aw_iconst (v := 0) dX7_load_61 (by decide) ?_
            refine aw_istore (L' := [(6, .int (0 : Int32)), (5, .int (0 : Int32)), (0, .ref l0), (1, .int l1), (2, .int l2), (3, .int l3), (4, .int l4)]) dX7_load_62 (by decide) rfl ?_
            exact aw_sub [2, 3, 5, 6, 1, 0] rfl (c_X7_load_64 hr 600 _ _ hf)
          · have hf := i_neg c12 hf
            refine aw_bipush (v := -13) dX7_load_55 (by decide) ?_
            have hq := Option.some.inj hf
            subst hq
            exact aw_iret hr dX7_load_57 ⟨rfl, rfl, rfl⟩
        · have hf := i_neg c9 hf
          refine aw_bipush (v := -11) dX7_load_42 (by decide) ?_
          have hq := Option.some.inj hf
          subst hq
          exact aw_iret hr dX7_load_44 ⟨rfl, rfl, rfl⟩
      · have hf := i_pos c6 hf
        refine aw_bipush (v := -2) dX7_load_30 (by decide) ?_
        have hq := Option.some.inj hf
        subst hq
        exact aw_iret hr dX7_load_32 ⟨rfl, rfl, rfl⟩
theorem k_X7_load {l0 : Nat} {l1 : Int32} {l2 : Int32} {l3 : Int32} {l4 : Int32} {h0 : Hp} {q : Int32 × Hp} (hf : f_X7_load l0 l1 l2 l3 l4 h0 = some q) : ck h0 l0 7 = some () := by
  unfold f_X7_load at hf
  obtain ⟨u0, e0, hf⟩ := b_some hf
  exact e0
theorem dX7_looksAsOf_0 : decode cX7_looksAsOf 0 = .ok (.iconst 0, 1) := by decide +kernel
theorem dX7_looksAsOf_1 : decode cX7_looksAsOf 1 = .ok (.istore_n 2, 1) := by decide +kernel
theorem dX7_looksAsOf_2 : decode cX7_looksAsOf 2 = .ok (.iload_n 2, 1) := by decide +kernel
theorem dX7_looksAsOf_3 : decode cX7_looksAsOf 3 = .ok (.aload_n 0, 1) := by decide +kernel
theorem dX7_looksAsOf_4 : decode cX7_looksAsOf 4 = .ok (.getfield 9, 3) := by decide +kernel
theorem dX7_looksAsOf_7 : decode cX7_looksAsOf 7 = .ok (.iconst 1, 1) := by decide +kernel
theorem dX7_looksAsOf_8 : decode cX7_looksAsOf 8 = .ok (.iaload, 1) := by decide +kernel
theorem dX7_looksAsOf_9 : decode cX7_looksAsOf 9 = .ok (.if_icmp .ge 41, 3) := by decide +kernel
theorem dX7_looksAsOf_12 : decode cX7_looksAsOf 12 = .ok (.aload_n 0, 1) := by decide +kernel
theorem dX7_looksAsOf_13 : decode cX7_looksAsOf 13 = .ok (.getfield 16, 3) := by decide +kernel
theorem dX7_looksAsOf_16 : decode cX7_looksAsOf 16 = .ok (.iload_n 2, 1) := by decide +kernel
theorem dX7_looksAsOf_17 : decode cX7_looksAsOf 17 = .ok (.aload_n 0, 1) := by decide +kernel
theorem dX7_looksAsOf_18 : decode cX7_looksAsOf 18 = .ok (.getfield 9, 3) := by decide +kernel
theorem dX7_looksAsOf_21 : decode cX7_looksAsOf 21 = .ok (.bipush 69, 2) := by decide +kernel
theorem dX7_looksAsOf_23 : decode cX7_looksAsOf 23 = .ok (.iload_n 2, 1) := by decide +kernel
theorem dX7_looksAsOf_24 : decode cX7_looksAsOf 24 = .ok (.iadd, 1) := by decide +kernel
theorem dX7_looksAsOf_25 : decode cX7_looksAsOf 25 = .ok (.iaload, 1) := by decide +kernel
theorem dX7_looksAsOf_26 : decode cX7_looksAsOf 26 = .ok (.iload_n 1, 1) := by decide +kernel
theorem dX7_looksAsOf_27 : decode cX7_looksAsOf 27 = .ok (.if_icmp .le 7, 3) := by decide +kernel
theorem dX7_looksAsOf_30 : decode cX7_looksAsOf 30 = .ok (.iconst (-1), 1) := by decide +kernel
theorem dX7_looksAsOf_31 : decode cX7_looksAsOf 31 = .ok (.goto 12, 3) := by decide +kernel
theorem dX7_looksAsOf_34 : decode cX7_looksAsOf 34 = .ok (.aload_n 0, 1) := by decide +kernel
theorem dX7_looksAsOf_35 : decode cX7_looksAsOf 35 = .ok (.getfield 9, 3) := by decide +kernel
theorem dX7_looksAsOf_38 : decode cX7_looksAsOf 38 = .ok (.bipush 78, 2) := by decide +kernel
theorem dX7_looksAsOf_40 : decode cX7_looksAsOf 40 = .ok (.iload_n 2, 1) := by decide +kernel
theorem dX7_looksAsOf_41 : decode cX7_looksAsOf 41 = .ok (.iadd, 1) := by decide +kernel
theorem dX7_looksAsOf_42 : decode cX7_looksAsOf 42 = .ok (.iaload, 1) := by decide +kernel
theorem dX7_looksAsOf_43 : decode cX7_looksAsOf 43 = .ok (.iastore, 1) := by decide +kernel
theorem dX7_looksAsOf_44 : decode cX7_looksAsOf 44 = .ok (.iinc 2 1, 3) := by decide +kernel
theorem dX7_looksAsOf_47 : decode cX7_looksAsOf 47 = .ok (.goto (-45), 3) := by decide +kernel
theorem dX7_looksAsOf_50 : decode cX7_looksAsOf 50 = .ok (.aload_n 0, 1) := by decide +kernel
theorem dX7_looksAsOf_51 : decode cX7_looksAsOf 51 = .ok (.invokevirtual 58, 3) := by decide +kernel
theorem dX7_looksAsOf_54 : decode cX7_looksAsOf 54 = .ok (.return_, 1) := by decide +kernel
def f_X7_looksAsOf_43 (k2 : Nat × Int32 × Int32 → Hp → Option (Unit × Hp)) (l0 : Nat) (l1 : Int32) (l2 : Int32) (s0 : Int32) (s1 : Int32) (s2 : Nat) (h0 : Hp) : Option (Unit × Hp) :=
  (aS h0 s2 s1 s0).bind fun h1 => (some (l2 + 1)).bind fun x2 => k2 (l0, l1, x2) h1
set_option maxRecDepth 100000 in
set_option maxHeartbeats 4000000 in
theorem c_X7_looksAsOf_43 {X : Cx} {adr : Nat → Nat} {q : Unit × Hp} (hr : (mth X).sig.returnType = none) {k2 : Nat × Int32 × Int32 → Hp → Option (Unit × Hp)} (hk2 : ∀ v h, k2 v h = some q → AW X cX7_looksAsOf 3 RX7 (rmd 4 0 0) (Qmet X 0 0 (Qe none q.2 adr)) 0 0 adr h 2 [(0, .ref v.1), (1, .int v.2.1), (2, .int v.2.2)] []) {l0 : Nat} {l1 : Int32} {l2 : Int32} {s0 : Int32} {s1 : Int32} {s2 : Nat} {h0 : Hp} (hf : f_X7_looksAsOf_43 k2 l0 l1 l2 s0 s1 s2 h0 = some q) : AW X cX7_looksAsOf 3 RX7 (rmd 4 0 0) (Qmet X 0 0 (Qe none q.2 adr)) 0 0 adr h0 43 [(0, .ref l0), (1, .int l1), (2, .int l2)] [.int s0, .int s1, .ref s2] := by
  unfold f_X7_looksAsOf_43 at hf
  obtain ⟨h1, eh1, hf⟩ := b_some hf
  refine aw_iast dX7_looksAsOf_43 eh1 ?_
  obtain ⟨x2, ex2, hf⟩ := b_some hf
  refine aw_iinc (v := x2) (L' := [(2, .int x2), (0, .ref l0), (1, .int l1)]) 2 dX7_looksAsOf_44 rfl (Option.some.inj ex2) (by decide) rfl ?_
  refine aw_goto (tgt := 2) dX7_looksAsOf_47 (by decide) ?_
  exact aw_sub [1, 2, 0] rfl (hk2 _ _ hf)
def f_X7_looksAsOf_2 (k2 : Nat × Int32 × Int32 → Hp → Option (Unit × Hp)) (v : Nat × Int32 × Int32) (h0 : Hp) : Option (Unit × Hp) :=
  match v with
  | (l0, l1, l2) => (gR h0 l0 7 0).bind fun r1 => (aL h0 r1 (1 : Int32)).bind fun x2 => if x2 ≤ l2 then ((f_X7_counts l0 h0).bind fun q4 => some ((), q4.2)) else ((gR h0 l0 7 3).bind fun r5 => (gR h0 l0 7 0).bind fun r6 => (aL h0 r6 ((69 : Int32) + l2)).bind fun x7 => if x7 ≤ l1 then ((gR h0 l0 7 0).bind fun r9 => (aL h0 r9 ((78 : Int32) + l2)).bind fun x10 => f_X7_looksAsOf_43 k2 l0 l1 l2 x10 l2 r5 h0) else (f_X7_looksAsOf_43 k2 l0 l1 l2 (-1 : Int32) l2 r5 h0))
set_option maxRecDepth 100000 in
set_option maxHeartbeats 4000000 in
theorem c_X7_looksAsOf_2 {X : Cx} {adr : Nat → Nat} {q : Unit × Hp} (hr : (mth X).sig.returnType = none) (n : Nat) : ∀ v h0, lp (f_X7_looksAsOf_2) n v h0 = some q → AW X cX7_looksAsOf 3 RX7 (rmd 4 0 0) (Qmet X 0 0 (Qe none q.2 adr)) 0 0 adr h0 2 [(0, .ref v.1), (1, .int v.2.1), (2, .int v.2.2)] [] := by
  refine aw_lp (fun k2 hk2 v h0 hf => ?_) n
  obtain ⟨l0, l1, l2⟩ := v
  unfold f_X7_looksAsOf_2 at hf
  dsimp only at hf
  show AW X cX7_looksAsOf 3 RX7 (rmd 4 0 0) (Qmet X 0 0 (Qe none q.2 adr)) 0 0 adr h0 2 [(0, .ref l0), (1, .int l1), (2, .int l2)] []
  refine aw_iload_n 2 dX7_looksAsOf_2 rfl rfl ?_
  refine aw_aload_n 0 dX7_looksAsOf_3 rfl rfl ?_
  obtain ⟨r1, er1, hf⟩ := b_some hf
  refine aw_getR dX7_looksAsOf_4 gfX7_9 er1 ?_
  refine aw_iconst (v := 1) dX7_looksAsOf_7 (by decide) ?_
  obtain ⟨x2, ex2, hf⟩ := b_some hf
  refine aw_iald dX7_looksAsOf_8 ex2 ?_
  refine aw_icmp_ge (tgt := 50) dX7_looksAsOf_9 (by decide) (fun c3 => ?_) (fun c3 => ?_)
  · have hf := i_pos c3 hf
    refine aw_aload_n 0 dX7_looksAsOf_50 rfl rfl ?_
    obtain ⟨q4, eq4, hf⟩ := b_some hf
    refine aw_cV0 (as := []) dX7_looksAsOf_51 moX7_counts voX7_counts mlX7_58 (k_X7_counts eq4) rfl (rm_ok (by omega) (by decide)) ⟨Nat.le_refl _, Nat.le_refl _⟩ (Nat.le_of_ble_eq_true rfl) rfl (c_X7_counts eq4) ?_
    have hq := Option.some.inj hf
    subst hq
    exact aw_vret hr dX7_looksAsOf_54 ⟨rfl, rfl, rfl⟩
  · have hf := i_neg c3 hf
    refine aw_aload_n 0 dX7_looksAsOf_12 rfl rfl ?_
    obtain ⟨r5, er5, hf⟩ := b_some hf
    refine aw_getR dX7_looksAsOf_13 gfX7_16 er5 ?_
    refine aw_iload_n 2 dX7_looksAsOf_16 rfl rfl ?_
    refine aw_aload_n 0 dX7_looksAsOf_17 rfl rfl ?_
    obtain ⟨r6, er6, hf⟩ := b_some hf
    refine aw_getR dX7_looksAsOf_18 gfX7_9 er6 ?_
    refine aw_bipush (v := 69) dX7_looksAsOf_21 (by decide) ?_
    refine aw_iload_n 2 dX7_looksAsOf_23 rfl rfl ?_
    refine aw_iadd dX7_looksAsOf_24 ?_
    obtain ⟨x7, ex7, hf⟩ := b_some hf
    refine aw_iald dX7_looksAsOf_25 ex7 ?_
    refine aw_iload_n 1 dX7_looksAsOf_26 rfl rfl ?_
    refine aw_icmp_le (tgt := 34) dX7_looksAsOf_27 (by decide) (fun c8 => ?_) (fun c8 => ?_)
    · have hf := i_pos c8 hf
      refine aw_aload_n 0 dX7_looksAsOf_34 rfl rfl ?_
      obtain ⟨r9, er9, hf⟩ := b_some hf
      refine aw_getR dX7_looksAsOf_35 gfX7_9 er9 ?_
      refine aw_bipush (v := 78) dX7_looksAsOf_38 (by decide) ?_
      refine aw_iload_n 2 dX7_looksAsOf_40 rfl rfl ?_
      refine aw_iadd dX7_looksAsOf_41 ?_
      obtain ⟨x10, ex10, hf⟩ := b_some hf
      refine aw_iald dX7_looksAsOf_42 ex10 ?_
      exact aw_sub [0, 1, 2] rfl (c_X7_looksAsOf_43 hr hk2 hf)
    · have hf := i_neg c8 hf
      refine aw_iconst (v := -1) dX7_looksAsOf_30 (by decide) ?_
      refine aw_goto (tgt := 43) dX7_looksAsOf_31 (by decide) ?_
      exact aw_sub [0, 1, 2] rfl (c_X7_looksAsOf_43 hr hk2 hf)
def f_X7_looksAsOf (l0 : Nat) (l1 : Int32) (h0 : Hp) : Option (Unit × Hp) :=
  (ck h0 l0 7).bind fun _ => lp (f_X7_looksAsOf_2) 600 (l0, l1, (0 : Int32)) h0
set_option maxRecDepth 100000 in
set_option maxHeartbeats 4000000 in
theorem c_X7_looksAsOf {l0 : Nat} {l1 : Int32} {h0 : Hp} {q : Unit × Hp} (hf : f_X7_looksAsOf l0 l1 h0 = some q) : Mt 4 yX7_looksAsOf cX7_looksAsOf 3 none [.ref l0, .int l1] h0 none q.2 := by
  refine MtQ.of (by decide) (Nat.le_of_ble_eq_true rfl) (fun X adr hr hn => ?_)
  unfold f_X7_looksAsOf at hf
  show AW X cX7_looksAsOf 3 RX7 (rmd 4 0 0) (Qmet X 0 0 (Qe none q.2 adr)) 0 0 adr h0 0 [(0, .ref l0), (1, .int l1)] []
  obtain ⟨u0, e0, hf⟩ := b_some hf
  refine aw_iconst (v := 0) dX7_looksAsOf_0 (by decide) ?_
  refine aw_istore_n (L' := [(2, .int (0 : Int32)), (0, .ref l0), (1, .int l1)]) dX7_looksAsOf_1 rfl (by decide) rfl ?_
  exact aw_sub [1, 2, 0] rfl (c_X7_looksAsOf_2 hr 600 _ _ hf)
theorem k_X7_looksAsOf {l0 : Nat} {l1 : Int32} {h0 : Hp} {q : Unit × Hp} (hf : f_X7_looksAsOf l0 l1 h0 = some q) : ck h0 l0 7 = some () := by
  unfold f_X7_looksAsOf at hf
  obtain ⟨u0, e0, hf⟩ := b_some hf
  exact e0
theorem dX7_named_0 : decode cX7_named 0 = .ok (.aload_n 0, 1) := by decide +kernel
theorem dX7_named_1 : decode cX7_named 1 = .ok (.iconst 0, 1) := by decide +kernel
theorem dX7_named_2 : decode cX7_named 2 = .ok (.aload_n 0, 1) := by decide +kernel
theorem dX7_named_3 : decode cX7_named 3 = .ok (.getfield 129, 3) := by decide +kernel
theorem dX7_named_6 : decode cX7_named 6 = .ok (.invokevirtual 173, 3) := by decide +kernel
theorem dX7_named_9 : decode cX7_named 9 = .ok (.istore_n 1, 1) := by decide +kernel
theorem dX7_named_10 : decode cX7_named 10 = .ok (.aload_n 0, 1) := by decide +kernel
theorem dX7_named_11 : decode cX7_named 11 = .ok (.iconst 0, 1) := by decide +kernel
theorem dX7_named_12 : decode cX7_named 12 = .ok (.putfield 129, 3) := by decide +kernel
theorem dX7_named_15 : decode cX7_named 15 = .ok (.iload_n 1, 1) := by decide +kernel
theorem dX7_named_16 : decode cX7_named 16 = .ok (.ireturn, 1) := by decide +kernel
def f_X7_named (l0 : Nat) (h0 : Hp) : Option (Int32 × Hp) :=
  (ck h0 l0 7).bind fun _ => (gI h0 l0 7 11).bind fun x1 => (f_X7_whose l0 (0 : Int32) x1 h0).bind fun q2 => (pI q2.2 l0 7 11 (0 : Int32)).bind fun h3 => some (q2.1, h3)
set_option maxRecDepth 100000 in
set_option maxHeartbeats 4000000 in
theorem c_X7_named {l0 : Nat} {h0 : Hp} {q : Int32 × Hp} (hf : f_X7_named l0 h0 = some q) : Mt 2 yX7_named cX7_named 2 (some .int) [.ref l0] h0 (some (.int q.1)) q.2 := by
  refine MtQ.of (by decide) (Nat.le_of_ble_eq_true rfl) (fun X adr hr hn => ?_)
  unfold f_X7_named at hf
  show AW X cX7_named 2 RX7 (rmd 2 0 0) (Qmet X 0 0 (Qe (some (.int q.1)) q.2 adr)) 0 0 adr h0 0 [(0, .ref l0)] []
  obtain ⟨u0, e0, hf⟩ := b_some hf
  refine aw_aload_n 0 dX7_named_0 rfl rfl ?_
  refine aw_iconst (v := 0) dX7_named_1 (by decide) ?_
  refine aw_aload_n 0 dX7_named_2 rfl rfl ?_
  obtain ⟨x1, ex1, hf⟩ := b_some hf
  refine aw_getI dX7_named_3 gfX7_129 ex1 ?_
  obtain ⟨q2, eq2, hf⟩ := b_some hf
  refine aw_cV (as := [.int (0 : Int32), .int x1]) dX7_named_6 moX7_whose voX7_whose mlX7_173 (k_X7_whose eq2) rfl (rm_ok (by omega) (by decide)) ⟨Nat.le_refl _, Nat.le_refl _⟩ (Nat.le_of_ble_eq_true rfl) rfl (c_X7_whose eq2) ?_
  refine aw_istore_n (L' := [(1, .int q2.1), (0, .ref l0)]) dX7_named_9 rfl (by decide) rfl ?_
  refine aw_aload_n 1 dX7_named_10 rfl rfl ?_
  refine aw_iconst (v := 0) dX7_named_11 (by decide) ?_
  obtain ⟨h3, eh3, hf⟩ := b_some hf
  refine aw_putI dX7_named_12 pfX7_129 eh3 ?_
  refine aw_iload_n 0 dX7_named_15 rfl rfl ?_
  have hq := Option.some.inj hf
  subst hq
  exact aw_iret hr dX7_named_16 ⟨rfl, rfl, rfl⟩
theorem k_X7_named {l0 : Nat} {h0 : Hp} {q : Int32 × Hp} (hf : f_X7_named l0 h0 = some q) : ck h0 l0 7 = some () := by
  unfold f_X7_named at hf
  obtain ⟨u0, e0, hf⟩ := b_some hf
  exact e0
theorem dX7_needs_0 : decode cX7_needs 0 = .ok (.aload_n 0, 1) := by decide +kernel
theorem dX7_needs_1 : decode cX7_needs 1 = .ok (.iload_n 1, 1) := by decide +kernel
theorem dX7_needs_2 : decode cX7_needs 2 = .ok (.invokevirtual 205, 3) := by decide +kernel
theorem dX7_needs_5 : decode cX7_needs 5 = .ok (.ifCond .eq 13, 3) := by decide +kernel
theorem dX7_needs_8 : decode cX7_needs 8 = .ok (.iload_n 2, 1) := by decide +kernel
theorem dX7_needs_9 : decode cX7_needs 9 = .ok (.i2l, 1) := by decide +kernel
theorem dX7_needs_10 : decode cX7_needs 10 = .ok (.lconst 0, 1) := by decide +kernel
theorem dX7_needs_11 : decode cX7_needs 11 = .ok (.lconst 1, 1) := by decide +kernel
theorem dX7_needs_12 : decode cX7_needs 12 = .ok (.invokestatic 43, 3) := by decide +kernel
theorem dX7_needs_15 : decode cX7_needs 15 = .ok (.ifCond .ne 6, 3) := by decide +kernel
theorem dX7_needs_18 : decode cX7_needs 18 = .ok (.bipush (-2), 2) := by decide +kernel
theorem dX7_needs_20 : decode cX7_needs 20 = .ok (.ireturn, 1) := by decide +kernel
theorem dX7_needs_21 : decode cX7_needs 21 = .ok (.aload_n 0, 1) := by decide +kernel
theorem dX7_needs_22 : decode cX7_needs 22 = .ok (.invokevirtual 61, 3) := by decide +kernel
theorem dX7_needs_25 : decode cX7_needs 25 = .ok (.aload_n 0, 1) := by decide +kernel
theorem dX7_needs_26 : decode cX7_needs 26 = .ok (.iload_n 1, 1) := by decide +kernel
theorem dX7_needs_27 : decode cX7_needs 27 = .ok (.invokevirtual 68, 3) := by decide +kernel
theorem dX7_needs_30 : decode cX7_needs 30 = .ok (.istore_n 3, 1) := by decide +kernel
theorem dX7_needs_31 : decode cX7_needs 31 = .ok (.iconst (-1), 1) := by decide +kernel
theorem dX7_needs_32 : decode cX7_needs 32 = .ok (.istore 4, 2) := by decide +kernel
theorem dX7_needs_34 : decode cX7_needs 34 = .ok (.iconst 0, 1) := by decide +kernel
theorem dX7_needs_35 : decode cX7_needs 35 = .ok (.istore 5, 2) := by decide +kernel
theorem dX7_needs_37 : decode cX7_needs 37 = .ok (.iload 5, 2) := by decide +kernel
theorem dX7_needs_39 : decode cX7_needs 39 = .ok (.sipush 512, 3) := by decide +kernel
theorem dX7_needs_42 : decode cX7_needs 42 = .ok (.if_icmp .ge 68, 3) := by decide +kernel
theorem dX7_needs_45 : decode cX7_needs 45 = .ok (.iload 5, 2) := by decide +kernel
theorem dX7_needs_47 : decode cX7_needs 47 = .ok (.iload_n 3, 1) := by decide +kernel
theorem dX7_needs_48 : decode cX7_needs 48 = .ok (.iconst (-1), 1) := by decide +kernel
theorem dX7_needs_49 : decode cX7_needs 49 = .ok (.ixor, 1) := by decide +kernel
theorem dX7_needs_50 : decode cX7_needs 50 = .ok (.iand, 1) := by decide +kernel
theorem dX7_needs_51 : decode cX7_needs 51 = .ok (.ifCond .ne 25, 3) := by decide +kernel
theorem dX7_needs_54 : decode cX7_needs 54 = .ok (.iload 4, 2) := by decide +kernel
theorem dX7_needs_56 : decode cX7_needs 56 = .ok (.ifCond .lt 16, 3) := by decide +kernel
theorem dX7_needs_59 : decode cX7_needs 59 = .ok (.iload 5, 2) := by decide +kernel
theorem dX7_needs_61 : decode cX7_needs 61 = .ok (.invokestatic 72, 3) := by decide +kernel
theorem dX7_needs_64 : decode cX7_needs 64 = .ok (.iload 4, 2) := by decide +kernel
theorem dX7_needs_66 : decode cX7_needs 66 = .ok (.invokestatic 72, 3) := by decide +kernel
theorem dX7_needs_69 : decode cX7_needs 69 = .ok (.if_icmp .ge 7, 3) := by decide +kernel
theorem dX7_needs_72 : decode cX7_needs 72 = .ok (.iconst 1, 1) := by decide +kernel
theorem dX7_needs_73 : decode cX7_needs 73 = .ok (.goto 4, 3) := by decide +kernel
theorem dX7_needs_76 : decode cX7_needs 76 = .ok (.iconst 0, 1) := by decide +kernel
theorem dX7_needs_77 : decode cX7_needs 77 = .ok (.istore 6, 2) := by decide +kernel
theorem dX7_needs_79 : decode cX7_needs 79 = .ok (.iload 6, 2) := by decide +kernel
theorem dX7_needs_81 : decode cX7_needs 81 = .ok (.ifCond .eq 19, 3) := by decide +kernel
theorem dX7_needs_84 : decode cX7_needs 84 = .ok (.aload_n 0, 1) := by decide +kernel
theorem dX7_needs_85 : decode cX7_needs 85 = .ok (.iload_n 1, 1) := by decide +kernel
theorem dX7_needs_86 : decode cX7_needs 86 = .ok (.iload_n 3, 1) := by decide +kernel
theorem dX7_needs_87 : decode cX7_needs 87 = .ok (.iload 5, 2) := by decide +kernel
theorem dX7_needs_89 : decode cX7_needs 89 = .ok (.invokevirtual 220, 3) := by decide +kernel
theorem dX7_needs_92 : decode cX7_needs 92 = .ok (.ifCond .eq 8, 3) := by decide +kernel
theorem dX7_needs_95 : decode cX7_needs 95 = .ok (.iload 5, 2) := by decide +kernel
theorem dX7_needs_97 : decode cX7_needs 97 = .ok (.goto 5, 3) := by decide +kernel
theorem dX7_needs_100 : decode cX7_needs 100 = .ok (.iload 4, 2) := by decide +kernel
theorem dX7_needs_102 : decode cX7_needs 102 = .ok (.istore 4, 2) := by decide +kernel
theorem dX7_needs_104 : decode cX7_needs 104 = .ok (.iinc 5 1, 3) := by decide +kernel
theorem dX7_needs_107 : decode cX7_needs 107 = .ok (.goto (-70), 3) := by decide +kernel
theorem dX7_needs_110 : decode cX7_needs 110 = .ok (.iload_n 2, 1) := by decide +kernel
theorem dX7_needs_111 : decode cX7_needs 111 = .ok (.iconst 1, 1) := by decide +kernel
theorem dX7_needs_112 : decode cX7_needs 112 = .ok (.if_icmp .eq 8, 3) := by decide +kernel
theorem dX7_needs_115 : decode cX7_needs 115 = .ok (.iload 4, 2) := by decide +kernel
theorem dX7_needs_117 : decode cX7_needs 117 = .ok (.ifCond .ge 8, 3) := by decide +kernel
theorem dX7_needs_120 : decode cX7_needs 120 = .ok (.iload 4, 2) := by decide +kernel
theorem dX7_needs_122 : decode cX7_needs 122 = .ok (.goto 8, 3) := by decide +kernel
theorem dX7_needs_125 : decode cX7_needs 125 = .ok (.iload 4, 2) := by decide +kernel
theorem dX7_needs_127 : decode cX7_needs 127 = .ok (.invokestatic 72, 3) := by decide +kernel
theorem dX7_needs_130 : decode cX7_needs 130 = .ok (.ireturn, 1) := by decide +kernel
def f_X7_needs_77 (k37 : Nat × Int32 × Int32 × Int32 × Int32 × Int32 → Hp → Option (Int32 × Hp)) (l0 : Nat) (l1 : Int32) (l2 : Int32) (l3 : Int32) (l4 : Int32) (l5 : Int32) (s0 : Int32) (h0 : Hp) : Option (Int32 × Hp) :=
  if s0 = 0 then ((some (l5 + 1)).bind fun x2 => k37 (l0, l1, l2, l3, l4, x2) h0) else ((f_X7_isEnough l0 l1 l3 l5 h0).bind fun q3 => if q3.1 = 0 then ((some (l5 + 1)).bind fun x5 => k37 (l0, l1, l2, l3, l4, x5) q3.2) else ((some (l5 + 1)).bind fun x6 => k37 (l0, l1, l2, l3, l5, x6) q3.2))
set_option maxRecDepth 100000 in
set_option maxHeartbeats 4000000 in
theorem c_X7_needs_77 {X : Cx} {adr : Nat → Nat} {q : Int32 × Hp} (hr : (mth X).sig.returnType = (some .int)) {k37 : Nat × Int32 × Int32 × Int32 × Int32 × Int32 → Hp → Option (Int32 × Hp)} (hk37 : ∀ v h, k37 v h = some q → AW X cX7_needs 7 RX7 (rmd 16 0 0) (Qmet X 0 0 (Qe (some (.int q.1)) q.2 adr)) 0 0 adr h 37 [(0, .ref v.1), (1, .int v.2.1), (2, .int v.2.2.1), (3, .int v.2.2.2.1), (4, .int v.2.2.2.2.1), (5, .int v.2.2.2.2.2)] []) {l0 : Nat} {l1 : Int32} {l2 : Int32} {l3 : Int32} {l4 : Int32} {l5 : Int32} {s0 : Int32} {h0 : Hp} (hf : f_X7_needs_77 k37 l0 l1 l2 l3 l4 l5 s0 h0 = some q) : AW X cX7_needs 7 RX7 (rmd 16 0 0) (Qmet X 0 0 (Qe (some (.int q.1)) q.2 adr)) 0 0 adr h0 77 [(0, .ref l0), (1, .int l1), (2, .int l2), (3, .int l3), (4, .int l4), (5, .int l5)] [.int s0] := by
  unfold f_X7_needs_77 at hf
  refine aw_istore (L' := [(6, .int s0), (0, .ref l0), (1, .int l1), (2, .int l2), (3, .int l3), (4, .int l4), (5, .int l5)]) dX7_needs_77 (by decide) rfl ?_
  refine aw_iload 0 dX7_needs_79 rfl ?_
  refine aw_if_eq (tgt := 100) dX7_needs_81 (by decide) (fun c1 => ?_) (fun c1 => ?_)
  · have hf := i_pos c1 hf
    refine aw_iload 5 dX7_needs_100 rfl ?_
    refine aw_istore (L' := [(4, .int l4), (6, .int s0), (0, .ref l0), (1, .int l1), (2, .int l2), (3, .int l3), (5, .int l5)]) dX7_needs_102 (by decide) rfl ?_
    obtain ⟨x2, ex2, hf⟩ := b_some hf
    refine aw_iinc (v := x2) (L' := [(5, .int x2), (4, .int l4), (6, .int s0), (0, .ref l0), (1, .int l1), (2, .int l2), (3, .int l3)]) 6 dX7_needs_104 rfl (Option.some.inj ex2) (by decide) rfl ?_
    refine aw_goto (tgt := 37) dX7_needs_107 (by decide) ?_
    exact aw_sub [3, 4, 5, 6, 1, 0] rfl (hk37 _ _ hf)
  · have hf := i_neg c1 hf
    refine aw_aload_n 1 dX7_needs_84 rfl rfl ?_
    refine aw_iload_n 2 dX7_needs_85 rfl rfl ?_
    refine aw_iload_n 4 dX7_needs_86 rfl rfl ?_
    refine aw_iload 6 dX7_needs_87 rfl ?_
    obtain ⟨q3, eq3, hf⟩ := b_some hf
    refine aw_cV (as := [.int l1, .int l3, .int l5]) dX7_needs_89 moX7_isEnough voX7_isEnough mlX7_220 (k_X7_isEnough eq3) rfl (rm_ok (by omega) (by decide)) ⟨Nat.le_refl _, Nat.le_refl _⟩ (Nat.le_of_ble_eq_true rfl) rfl (c_X7_isEnough eq3) ?_
    refine aw_if_eq (tgt := 100) dX7_needs_92 (by decide) (fun c4 => ?_) (fun c4 => ?_)
    · have hf := i_pos c4 hf
      refine aw_iload 5 dX7_needs_100 rfl ?_
      refine aw_istore (L' := [(4, .int l4), (6, .int s0), (0, .ref l0), (1, .int l1), (2, .int l2), (3, .int l3), (5, .int l5)]) dX7_needs_102 (by decide) rfl ?_
      obtain ⟨x5, ex5, hf⟩ := b_some hf
      refine aw_iinc (v := x5) (L' := [(5, .int x5), (4, .int l4), (6, .int s0), (0, .ref l0), (1, .int l1), (2, .int l2), (3, .int l3)]) 6 dX7_needs_104 rfl (Option.some.inj ex5) (by decide) rfl ?_
      refine aw_goto (tgt := 37) dX7_needs_107 (by decide) ?_
      exact aw_sub [3, 4, 5, 6, 1, 0] rfl (hk37 _ _ hf)
    · have hf := i_neg c4 hf
      refine aw_iload 6 dX7_needs_95 rfl ?_
      refine aw_goto (tgt := 102) dX7_needs_97 (by decide) ?_
      refine aw_istore (L' := [(4, .int l5), (6, .int s0), (0, .ref l0), (1, .int l1), (2, .int l2), (3, .int l3), (5, .int l5)]) dX7_needs_102 (by decide) rfl ?_
      obtain ⟨x6, ex6, hf⟩ := b_some hf
      refine aw_iinc (v := x6) (L' := [(5, .int x6), (4, .int l5), (6, .int s0), (0, .ref l0), (1, .int l1), (2, .int l2), (3, .int l3)]) 6 dX7_needs_104 rfl (Option.some.inj ex6) (by decide) rfl ?_
      refine aw_goto (tgt := 37) dX7_needs_107 (by decide) ?_
      exact aw_sub [3, 4, 5, 6, 1, 0] rfl (hk37 _ _ hf)
def f_X7_needs_72 (k37 : Nat × Int32 × Int32 × Int32 × Int32 × Int32 → Hp → Option (Int32 × Hp)) (l0 : Nat) (l1 : Int32) (l2 : Int32) (l3 : Int32) (l4 : Int32) (l5 : Int32) (h0 : Hp) : Option (Int32 × Hp) :=
  f_X7_needs_77 k37 l0 l1 l2 l3 l4 l5 (1 : Int32) h0
set_option maxRecDepth 100000 in
set_option maxHeartbeats 4000000 in
theorem c_X7_needs_72 {X : Cx} {adr : Nat → Nat} {q : Int32 × Hp} (hr : (mth X).sig.returnType = (some .int)) {k37 : Nat × Int32 × Int32 × Int32 × Int32 × Int32 → Hp → Option (Int32 × Hp)} (hk37 : ∀ v h, k37 v h = some q → AW X cX7_needs 7 RX7 (rmd 16 0 0) (Qmet X 0 0 (Qe (some (.int q.1)) q.2 adr)) 0 0 adr h 37 [(0, .ref v.1), (1, .int v.2.1), (2, .int v.2.2.1), (3, .int v.2.2.2.1), (4, .int v.2.2.2.2.1), (5, .int v.2.2.2.2.2)] []) {l0 : Nat} {l1 : Int32} {l2 : Int32} {l3 : Int32} {l4 : Int32} {l5 : Int32} {h0 : Hp} (hf : f_X7_needs_72 k37 l0 l1 l2 l3 l4 l5 h0 = some q) : AW X cX7_needs 7 RX7 (rmd 16 0 0) (Qmet X 0 0 (Qe (some (.int q.1)) q.2 adr)) 0 0 adr h0 72 [(0, .ref l0), (1, .int l1), (2, .int l2), (3, .int l3), (4, .int l4), (5, .int l5)] [] := by
  unfold f_X7_needs_72 at hf
  refine aw_iconst (v := 1) dX7_needs_72 (by decide) ?_
  refine aw_goto (tgt := 77) dX7_needs_73 (by decide) ?_
  exact aw_sub [0, 1, 2, 3, 4, 5] rfl (c_X7_needs_77 hr hk37 hf)
def f_X7_needs_76 (k37 : Nat × Int32 × Int32 × Int32 × Int32 × Int32 → Hp → Option (Int32 × Hp)) (l0 : Nat) (l1 : Int32) (l2 : Int32) (l3 : Int32) (l4 : Int32) (l5 : Int32) (h0 : Hp) : Option (Int32 × Hp) :=
  f_X7_needs_77 k37 l0 l1 l2 l3 l4 l5 (0 : Int32) h0
set_option maxRecDepth 100000 in
set_option maxHeartbeats 4000000 in
theorem c_X7_needs_76 {X : Cx} {adr : Nat → Nat} {q : Int32 × Hp} (hr : (mth X).sig.returnType = (some .int)) {k37 : Nat × Int32 × Int32 × Int32 × Int32 × Int32 → Hp → Option (Int32 × Hp)} (hk37 : ∀ v h, k37 v h = some q → AW X cX7_needs 7 RX7 (rmd 16 0 0) (Qmet X 0 0 (Qe (some (.int q.1)) q.2 adr)) 0 0 adr h 37 [(0, .ref v.1), (1, .int v.2.1), (2, .int v.2.2.1), (3, .int v.2.2.2.1), (4, .int v.2.2.2.2.1), (5, .int v.2.2.2.2.2)] []) {l0 : Nat} {l1 : Int32} {l2 : Int32} {l3 : Int32} {l4 : Int32} {l5 : Int32} {h0 : Hp} (hf : f_X7_needs_76 k37 l0 l1 l2 l3 l4 l5 h0 = some q) : AW X cX7_needs 7 RX7 (rmd 16 0 0) (Qmet X 0 0 (Qe (some (.int q.1)) q.2 adr)) 0 0 adr h0 76 [(0, .ref l0), (1, .int l1), (2, .int l2), (3, .int l3), (4, .int l4), (5, .int l5)] [] := by
  unfold f_X7_needs_76 at hf
  refine aw_iconst (v := 0) dX7_needs_76 (by decide) ?_
  exact aw_sub [0, 1, 2, 3, 4, 5] rfl (c_X7_needs_77 hr hk37 hf)
def f_X7_needs_37 (k37 : Nat × Int32 × Int32 × Int32 × Int32 × Int32 → Hp → Option (Int32 × Hp)) (v : Nat × Int32 × Int32 × Int32 × Int32 × Int32) (h0 : Hp) : Option (Int32 × Hp) :=
  match v with
  | (l0, l1, l2, l3, l4, l5) => if (512 : Int32) ≤ l5 then (if l2 = (1 : Int32) then (some (l4, h0)) else (if 0 ≤ l4 then ((f_X7_ones l4 h0).bind fun q4 => some (q4.1, q4.2)) else (some (l4, h0)))) else (if (l5 &&& (l3 ^^^ (-1 : Int32))) = 0 then (if l4 < 0 then (f_X7_needs_72 k37 l0 l1 l2 l3 l4 l5 h0) else ((f_X7_ones l5 h0).bind fun q7 => (f_X7_ones l4 q7.2).bind fun q8 => if q8.1 ≤ q7.1 then (f_X7_needs_76 k37 l0 l1 l2 l3 l4 l5 q8.2) else (f_X7_needs_72 k37 l0 l1 l2 l3 l4 l5 q8.2))) else (f_X7_needs_76 k37 l0 l1 l2 l3 l4 l5 h0))
set_option maxRecDepth 100000 in
set_option maxHeartbeats 4000000 in
theorem c_X7_needs_37 {X : Cx} {adr : Nat → Nat} {q : Int32 × Hp} (hr : (mth X).sig.returnType = (some .int)) (n : Nat) : ∀ v h0, lp (f_X7_needs_37) n v h0 = some q → AW X cX7_needs 7 RX7 (rmd 16 0 0) (Qmet X 0 0 (Qe (some (.int q.1)) q.2 adr)) 0 0 adr h0 37 [(0, .ref v.1), (1, .int v.2.1), (2, .int v.2.2.1), (3, .int v.2.2.2.1), (4, .int v.2.2.2.2.1), (5, .int v.2.2.2.2.2)] [] := by
  refine aw_lp (fun k37 hk37 v h0 hf => ?_) n
  obtain ⟨l0, l1, l2, l3, l4, l5⟩ := v
  unfold f_X7_needs_37 at hf
  dsimp only at hf
  show AW X cX7_needs 7 RX7 (rmd 16 0 0) (Qmet X 0 0 (Qe (some (.int q.1)) q.2 adr)) 0 0 adr h0 37 [(0, .ref l0), (1, .int l1), (2, .int l2), (3, .int l3), (4, .int l4), (5, .int l5)] []
  refine aw_iload 5 dX7_needs_37 rfl ?_
  refine aw_sipush (v := 512) dX7_needs_39 (by decide) ?_
  refine aw_icmp_ge (tgt := 110) dX7_needs_42 (by decide) (fun c1 => ?_) (fun c1 => ?_)
  · have hf := i_pos c1 hf
    refine aw_iload_n 2 dX7_needs_110 rfl rfl ?_
    refine aw_iconst (v := 1) dX7_needs_111 (by decide) ?_
    refine aw_icmp_eq (tgt := 120) dX7_needs_112 (by decide) (fun c2 => ?_) (fun c2 => ?_)
    · have hf := i_pos c2 hf
      refine aw_iload 4 dX7_needs_120 rfl ?_
      refine aw_goto (tgt := 130) dX7_needs_122 (by decide) ?_
      have hq := Option.some.inj hf
      subst hq
      exact aw_iret hr dX7_needs_130 ⟨rfl, rfl, rfl⟩
    · have hf := i_neg c2 hf
      refine aw_iload 4 dX7_needs_115 rfl ?_
      refine aw_if_ge (tgt := 125) dX7_needs_117 (by decide) (fun c3 => ?_) (fun c3 => ?_)
      · have hf := i_pos c3 hf
        refine aw_iload 4 dX7_needs_125 rfl ?_
        obtain ⟨q4, eq4, hf⟩ := b_some hf
        refine aw_cS (as := [.int l4]) dX7_needs_127 moX7_ones soX7_ones mlX7_72 (rm_ok (by omega) (by decide)) ⟨Nat.le_refl _, Nat.le_refl _⟩ (Nat.le_of_ble_eq_true rfl) rfl (c_X7_ones eq4) ?_
        have hq := Option.some.inj hf
        subst hq
        exact aw_iret hr dX7_needs_130 ⟨rfl, rfl, rfl⟩
      · have hf := i_neg c3 hf
        refine aw_iload 4 dX7_needs_120 rfl ?_
        refine aw_goto (tgt := 130) dX7_needs_122 (by decide) ?_
        have hq := Option.some.inj hf
        subst hq
        exact aw_iret hr dX7_needs_130 ⟨rfl, rfl, rfl⟩
  · have hf := i_neg c1 hf
    refine aw_iload 5 dX7_needs_45 rfl ?_
    refine aw_iload_n 3 dX7_needs_47 rfl rfl ?_
    refine aw_iconst (v := -1) dX7_needs_48 (by decide) ?_
    refine aw_ixor dX7_needs_49 ?_
    refine aw_iand dX7_needs_50 ?_
    refine aw_if_ne (tgt := 76) dX7_needs_51 (by decide) (fun c5 => ?_) (fun c5 => ?_)
    · have hf := i_neg c5 hf
      exact aw_sub [0, 1, 2, 3, 4, 5] rfl (c_X7_needs_76 hr hk37 hf)
    · have hf := i_pos c5 hf
      refine aw_iload 4 dX7_needs_54 rfl ?_
      refine aw_if_lt (tgt := 72) dX7_needs_56 (by decide) (fun c6 => ?_) (fun c6 => ?_)
      · have hf := i_pos c6 hf
        exact aw_sub [0, 1, 2, 3, 4, 5] rfl (c_X7_needs_72 hr hk37 hf)
      · have hf := i_neg c6 hf
        refine aw_iload 5 dX7_needs_59 rfl ?_
        obtain ⟨q7, eq7, hf⟩ := b_some hf
        refine aw_cS (as := [.int l5]) dX7_needs_61 moX7_ones soX7_ones mlX7_72 (rm_ok (by omega) (by decide)) ⟨Nat.le_refl _, Nat.le_refl _⟩ (Nat.le_of_ble_eq_true rfl) rfl (c_X7_ones eq7) ?_
        refine aw_iload 4 dX7_needs_64 rfl ?_
        obtain ⟨q8, eq8, hf⟩ := b_some hf
        refine aw_cS (as := [.int l4]) dX7_needs_66 moX7_ones soX7_ones mlX7_72 (rm_ok (by omega) (by decide)) ⟨Nat.le_refl _, Nat.le_refl _⟩ (Nat.le_of_ble_eq_true rfl) rfl (c_X7_ones eq8) ?_
        refine aw_icmp_ge (tgt := 76) dX7_needs_69 (by decide) (fun c9 => ?_) (fun c9 => ?_)
        · have hf := i_pos c9 hf
          exact aw_sub [0, 1, 2, 3, 4, 5] rfl (c_X7_needs_76 hr hk37 hf)
        · have hf := i_neg c9 hf
          exact aw_sub [0, 1, 2, 3, 4, 5] rfl (c_X7_needs_72 hr hk37 hf)
def f_X7_needs (l0 : Nat) (l1 : Int32) (l2 : Int32) (h0 : Hp) : Option (Int32 × Hp) :=
  (ck h0 l0 7).bind fun _ => (f_X7_isTeam l0 l1 h0).bind fun q1 => if q1.1 = 0 then (some ((-2 : Int32), q1.2)) else ((f_X7_in (Int32.toInt64 l2) (0 : Int64) (1 : Int64) q1.2).bind fun q3 => if q3.1 = 0 then (some ((-2 : Int32), q3.2)) else ((f_X7_looks l0 q3.2).bind fun q5 => (f_X7_ownLeft l0 l1 q5.2).bind fun q6 => lp (f_X7_needs_37) 600 (l0, l1, l2, q6.1, (-1 : Int32), (0 : Int32)) q6.2))
set_option maxRecDepth 100000 in
set_option maxHeartbeats 4000000 in
theorem c_X7_needs {l0 : Nat} {l1 : Int32} {l2 : Int32} {h0 : Hp} {q : Int32 × Hp} (hf : f_X7_needs l0 l1 l2 h0 = some q) : Mt 16 yX7_needs cX7_needs 7 (some .int) [.ref l0, .int l1, .int l2] h0 (some (.int q.1)) q.2 := by
  refine MtQ.of (by decide) (Nat.le_of_ble_eq_true rfl) (fun X adr hr hn => ?_)
  unfold f_X7_needs at hf
  show AW X cX7_needs 7 RX7 (rmd 16 0 0) (Qmet X 0 0 (Qe (some (.int q.1)) q.2 adr)) 0 0 adr h0 0 [(0, .ref l0), (1, .int l1), (2, .int l2)] []
  obtain ⟨u0, e0, hf⟩ := b_some hf
  refine aw_aload_n 0 dX7_needs_0 rfl rfl ?_
  refine aw_iload_n 1 dX7_needs_1 rfl rfl ?_
  obtain ⟨q1, eq1, hf⟩ := b_some hf
  refine aw_cV (as := [.int l1]) dX7_needs_2 moX7_isTeam voX7_isTeam mlX7_205 (k_X7_isTeam eq1) rfl (rm_ok (by omega) (by decide)) ⟨Nat.le_refl _, Nat.le_refl _⟩ (Nat.le_of_ble_eq_true rfl) rfl (c_X7_isTeam eq1) ?_
  refine aw_if_eq (tgt := 18) dX7_needs_5 (by decide) (fun c2 => ?_) (fun c2 => ?_)
  · have hf := i_pos c2 hf
    refine aw_bipush (v := -2) dX7_needs_18 (by decide) ?_
    have hq := Option.some.inj hf
    subst hq
    exact aw_iret hr dX7_needs_20 ⟨rfl, rfl, rfl⟩
  · have hf := i_neg c2 hf
    refine aw_iload_n 2 dX7_needs_8 rfl rfl ?_
    refine aw_i2l dX7_needs_9 ?_
    refine aw_lconst (v := 0) dX7_needs_10 (by decide) ?_
    refine aw_lconst (v := 1) dX7_needs_11 (by decide) ?_
    obtain ⟨q3, eq3, hf⟩ := b_some hf
    refine aw_cS (as := [.long (Int32.toInt64 l2), .long (0 : Int64), .long (1 : Int64)]) dX7_needs_12 moX7_in soX7_in mlX7_43 (rm_ok (by omega) (by decide)) ⟨Nat.le_refl _, Nat.le_refl _⟩ (Nat.le_of_ble_eq_true rfl) rfl (c_X7_in eq3) ?_
    refine aw_if_ne (tgt := 21) dX7_needs_15 (by decide) (fun c4 => ?_) (fun c4 => ?_)
    · have hf := i_neg c4 hf
      refine aw_aload_n 0 dX7_needs_21 rfl rfl ?_
      obtain ⟨q5, eq5, hf⟩ := b_some hf
      refine aw_cV0 (as := []) dX7_needs_22 moX7_looks voX7_looks mlX7_61 (k_X7_looks eq5) rfl (rm_ok (by omega) (by decide)) ⟨Nat.le_refl _, Nat.le_refl _⟩ (Nat.le_of_ble_eq_true rfl) rfl (c_X7_looks eq5) ?_
      refine aw_aload_n 0 dX7_needs_25 rfl rfl ?_
      refine aw_iload_n 1 dX7_needs_26 rfl rfl ?_
      obtain ⟨q6, eq6, hf⟩ := b_some hf
      refine aw_cV (as := [.int l1]) dX7_needs_27 moX7_ownLeft voX7_ownLeft mlX7_68 (k_X7_ownLeft eq6) rfl (rm_ok (by omega) (by decide)) ⟨Nat.le_refl _, Nat.le_refl _⟩ (Nat.le_of_ble_eq_true rfl) rfl (c_X7_ownLeft eq6) ?_
      refine aw_istore_n (L' := [(3, .int q6.1), (0, .ref l0), (1, .int l1), (2, .int l2)]) dX7_needs_30 rfl (by decide) rfl ?_
      refine aw_iconst (v := -1) dX7_needs_31 (by decide) ?_
      refine aw_istore (L' := [(4, .int (-1 : Int32)), (3, .int q6.1), (0, .ref l0), (1, .int l1), (2, .int l2)]) dX7_needs_32 (by decide) rfl ?_
      refine aw_iconst (v := 0) dX7_needs_34 (by decide) ?_
      refine aw_istore (L' := [(5, .int (0 : Int32)), (4, .int (-1 : Int32)), (3, .int q6.1), (0, .ref l0), (1, .int l1), (2, .int l2)]) dX7_needs_35 (by decide) rfl ?_
      exact aw_sub [3, 4, 5, 2, 1, 0] rfl (c_X7_needs_37 hr 600 _ _ hf)
    · have hf := i_pos c4 hf
      refine aw_bipush (v := -2) dX7_needs_18 (by decide) ?_
      have hq := Option.some.inj hf
      subst hq
      exact aw_iret hr dX7_needs_20 ⟨rfl, rfl, rfl⟩
theorem k_X7_needs {l0 : Nat} {l1 : Int32} {l2 : Int32} {h0 : Hp} {q : Int32 × Hp} (hf : f_X7_needs l0 l1 l2 h0 = some q) : ck h0 l0 7 = some () := by
  unfold f_X7_needs at hf
  obtain ⟨u0, e0, hf⟩ := b_some hf
  exact e0
theorem dX7_notesRow_0 : decode cX7_notesRow 0 = .ok (.iconst 0, 1) := by decide +kernel
theorem dX7_notesRow_1 : decode cX7_notesRow 1 = .ok (.istore_n 1, 1) := by decide +kernel
theorem dX7_notesRow_2 : decode cX7_notesRow 2 = .ok (.iload_n 1, 1) := by decide +kernel
theorem dX7_notesRow_3 : decode cX7_notesRow 3 = .ok (.aload_n 0, 1) := by decide +kernel
theorem dX7_notesRow_4 : decode cX7_notesRow 4 = .ok (.getfield 232, 3) := by decide +kernel
theorem dX7_notesRow_7 : decode cX7_notesRow 7 = .ok (.if_icmp .ge 64, 3) := by decide +kernel
theorem dX7_notesRow_10 : decode cX7_notesRow 10 = .ok (.iconst 1, 1) := by decide +kernel
theorem dX7_notesRow_11 : decode cX7_notesRow 11 = .ok (.istore_n 2, 1) := by decide +kernel
theorem dX7_notesRow_12 : decode cX7_notesRow 12 = .ok (.iconst 0, 1) := by decide +kernel
theorem dX7_notesRow_13 : decode cX7_notesRow 13 = .ok (.istore_n 3, 1) := by decide +kernel
theorem dX7_notesRow_14 : decode cX7_notesRow 14 = .ok (.iload_n 3, 1) := by decide +kernel
theorem dX7_notesRow_15 : decode cX7_notesRow 15 = .ok (.aload_n 0, 1) := by decide +kernel
theorem dX7_notesRow_16 : decode cX7_notesRow 16 = .ok (.getfield 9, 3) := by decide +kernel
theorem dX7_notesRow_19 : decode cX7_notesRow 19 = .ok (.iconst 0, 1) := by decide +kernel
theorem dX7_notesRow_20 : decode cX7_notesRow 20 = .ok (.iaload, 1) := by decide +kernel
theorem dX7_notesRow_21 : decode cX7_notesRow 21 = .ok (.if_icmp .ge 39, 3) := by decide +kernel
theorem dX7_notesRow_24 : decode cX7_notesRow 24 = .ok (.iload_n 2, 1) := by decide +kernel
theorem dX7_notesRow_25 : decode cX7_notesRow 25 = .ok (.ifCond .eq 27, 3) := by decide +kernel
theorem dX7_notesRow_28 : decode cX7_notesRow 28 = .ok (.aload_n 0, 1) := by decide +kernel
theorem dX7_notesRow_29 : decode cX7_notesRow 29 = .ok (.getfield 31, 3) := by decide +kernel
theorem dX7_notesRow_32 : decode cX7_notesRow 32 = .ok (.bipush 6, 2) := by decide +kernel
theorem dX7_notesRow_34 : decode cX7_notesRow 34 = .ok (.iload_n 1, 1) := by decide +kernel
theorem dX7_notesRow_35 : decode cX7_notesRow 35 = .ok (.imul, 1) := by decide +kernel
theorem dX7_notesRow_36 : decode cX7_notesRow 36 = .ok (.iload_n 3, 1) := by decide +kernel
theorem dX7_notesRow_37 : decode cX7_notesRow 37 = .ok (.iadd, 1) := by decide +kernel
theorem dX7_notesRow_38 : decode cX7_notesRow 38 = .ok (.iaload, 1) := by decide +kernel
theorem dX7_notesRow_39 : decode cX7_notesRow 39 = .ok (.aload_n 0, 1) := by decide +kernel
theorem dX7_notesRow_40 : decode cX7_notesRow 40 = .ok (.getfield 19, 3) := by decide +kernel
theorem dX7_notesRow_43 : decode cX7_notesRow 43 = .ok (.iload_n 3, 1) := by decide +kernel
theorem dX7_notesRow_44 : decode cX7_notesRow 44 = .ok (.iaload, 1) := by decide +kernel
theorem dX7_notesRow_45 : decode cX7_notesRow 45 = .ok (.if_icmp .ne 7, 3) := by decide +kernel
theorem dX7_notesRow_48 : decode cX7_notesRow 48 = .ok (.iconst 1, 1) := by decide +kernel
theorem dX7_notesRow_49 : decode cX7_notesRow 49 = .ok (.goto 4, 3) := by decide +kernel
theorem dX7_notesRow_52 : decode cX7_notesRow 52 = .ok (.iconst 0, 1) := by decide +kernel
theorem dX7_notesRow_53 : decode cX7_notesRow 53 = .ok (.istore_n 2, 1) := by decide +kernel
theorem dX7_notesRow_54 : decode cX7_notesRow 54 = .ok (.iinc 3 1, 3) := by decide +kernel
theorem dX7_notesRow_57 : decode cX7_notesRow 57 = .ok (.goto (-43), 3) := by decide +kernel
theorem dX7_notesRow_60 : decode cX7_notesRow 60 = .ok (.iload_n 2, 1) := by decide +kernel
theorem dX7_notesRow_61 : decode cX7_notesRow 61 = .ok (.ifCond .eq 4, 3) := by decide +kernel
theorem dX7_notesRow_64 : decode cX7_notesRow 64 = .ok (.return_, 1) := by decide +kernel
theorem dX7_notesRow_65 : decode cX7_notesRow 65 = .ok (.iinc 1 1, 3) := by decide +kernel
theorem dX7_notesRow_68 : decode cX7_notesRow 68 = .ok (.goto (-66), 3) := by decide +kernel
theorem dX7_notesRow_71 : decode cX7_notesRow 71 = .ok (.iconst 0, 1) := by decide +kernel
theorem dX7_notesRow_72 : decode cX7_notesRow 72 = .ok (.istore_n 1, 1) := by decide +kernel
theorem dX7_notesRow_73 : decode cX7_notesRow 73 = .ok (.iload_n 1, 1) := by decide +kernel
theorem dX7_notesRow_74 : decode cX7_notesRow 74 = .ok (.aload_n 0, 1) := by decide +kernel
theorem dX7_notesRow_75 : decode cX7_notesRow 75 = .ok (.getfield 9, 3) := by decide +kernel
theorem dX7_notesRow_78 : decode cX7_notesRow 78 = .ok (.iconst 0, 1) := by decide +kernel
theorem dX7_notesRow_79 : decode cX7_notesRow 79 = .ok (.iaload, 1) := by decide +kernel
theorem dX7_notesRow_80 : decode cX7_notesRow 80 = .ok (.if_icmp .ge 29, 3) := by decide +kernel
theorem dX7_notesRow_83 : decode cX7_notesRow 83 = .ok (.aload_n 0, 1) := by decide +kernel
theorem dX7_notesRow_84 : decode cX7_notesRow 84 = .ok (.getfield 31, 3) := by decide +kernel
theorem dX7_notesRow_87 : decode cX7_notesRow 87 = .ok (.bipush 6, 2) := by decide +kernel
theorem dX7_notesRow_89 : decode cX7_notesRow 89 = .ok (.aload_n 0, 1) := by decide +kernel
theorem dX7_notesRow_90 : decode cX7_notesRow 90 = .ok (.getfield 232, 3) := by decide +kernel
theorem dX7_notesRow_93 : decode cX7_notesRow 93 = .ok (.imul, 1) := by decide +kernel
theorem dX7_notesRow_94 : decode cX7_notesRow 94 = .ok (.iload_n 1, 1) := by decide +kernel
theorem dX7_notesRow_95 : decode cX7_notesRow 95 = .ok (.iadd, 1) := by decide +kernel
theorem dX7_notesRow_96 : decode cX7_notesRow 96 = .ok (.aload_n 0, 1) := by decide +kernel
theorem dX7_notesRow_97 : decode cX7_notesRow 97 = .ok (.getfield 19, 3) := by decide +kernel
theorem dX7_notesRow_100 : decode cX7_notesRow 100 = .ok (.iload_n 1, 1) := by decide +kernel
theorem dX7_notesRow_101 : decode cX7_notesRow 101 = .ok (.iaload, 1) := by decide +kernel
theorem dX7_notesRow_102 : decode cX7_notesRow 102 = .ok (.iastore, 1) := by decide +kernel
theorem dX7_notesRow_103 : decode cX7_notesRow 103 = .ok (.iinc 1 1, 3) := by decide +kernel
theorem dX7_notesRow_106 : decode cX7_notesRow 106 = .ok (.goto (-33), 3) := by decide +kernel
theorem dX7_notesRow_109 : decode cX7_notesRow 109 = .ok (.aload_n 0, 1) := by decide +kernel
theorem dX7_notesRow_110 : decode cX7_notesRow 110 = .ok (.dup, 1) := by decide +kernel
theorem dX7_notesRow_111 : decode cX7_notesRow 111 = .ok (.getfield 232, 3) := by decide +kernel
theorem dX7_notesRow_114 : decode cX7_notesRow 114 = .ok (.iconst 1, 1) := by decide +kernel
theorem dX7_notesRow_115 : decode cX7_notesRow 115 = .ok (.iadd, 1) := by decide +kernel
theorem dX7_notesRow_116 : decode cX7_notesRow 116 = .ok (.putfield 232, 3) := by decide +kernel
theorem dX7_notesRow_119 : decode cX7_notesRow 119 = .ok (.return_, 1) := by decide +kernel
def f_X7_notesRow_14 (k2 : Nat × Int32 → Hp → Option (Unit × Hp)) (k14 : Nat × Int32 × Int32 × Int32 → Hp → Option (Unit × Hp)) (v : Nat × Int32 × Int32 × Int32) (h0 : Hp) : Option (Unit × Hp) :=
  match v with
  | (l0, l1, l2, l3) => (gR h0 l0 7 0).bind fun r1 => (aL h0 r1 (0 : Int32)).bind fun x2 => if x2 ≤ l3 then (if l2 = 0 then ((some (l1 + 1)).bind fun x5 => k2 (l0, x5) h0) else (some ((), h0))) else (if l2 = 0 then ((some (l3 + 1)).bind fun x7 => k14 (l0, l1, (0 : Int32), x7) h0) else ((gR h0 l0 7 16).bind fun r8 => (aL h0 r8 (((6 : Int32) * l1) + l3)).bind fun x9 => (gR h0 l0 7 4).bind fun r10 => (aL h0 r10 l3).bind fun x11 => if x9 = x11 then ((some (l3 + 1)).bind fun x14 => k14 (l0, l1, (1 : Int32), x14) h0) else ((some (l3 + 1)).bind fun x13 => k14 (l0, l1, (0 : Int32), x13) h0)))
set_option maxRecDepth 100000 in
set_option maxHeartbeats 4000000 in
theorem c_X7_notesRow_14 {X : Cx} {adr : Nat → Nat} {q : Unit × Hp} (hr : (mth X).sig.returnType = none) {k2 : Nat × Int32 → Hp → Option (Unit × Hp)} (hk2 : ∀ v h, k2 v h = some q → AW X cX7_notesRow 4 RX7 (rmd 1 0 0) (Qmet X 0 0 (Qe none q.2 adr)) 0 0 adr h 2 [(0, .ref v.1), (1, .int v.2)] []) (n : Nat) : ∀ v h0, lp (f_X7_notesRow_14 k2) n v h0 = some q → AW X cX7_notesRow 4 RX7 (rmd 1 0 0) (Qmet X 0 0 (Qe none q.2 adr)) 0 0 adr h0 14 [(0, .ref v.1), (1, .int v.2.1), (2, .int v.2.2.1), (3, .int v.2.2.2)] [] := by
  refine aw_lp (fun k14 hk14 v h0 hf => ?_) n
  obtain ⟨l0, l1, l2, l3⟩ := v
  unfold f_X7_notesRow_14 at hf
  dsimp only at hf
  show AW X cX7_notesRow 4 RX7 (rmd 1 0 0) (Qmet X 0 0 (Qe none q.2 adr)) 0 0 adr h0 14 [(0, .ref l0), (1, .int l1), (2, .int l2), (3, .int l3)] []
  refine aw_iload_n 3 dX7_notesRow_14 rfl rfl ?_
  refine aw_aload_n 0 dX7_notesRow_15 rfl rfl ?_
  obtain ⟨r1, er1, hf⟩ := b_some hf
  refine aw_getR dX7_notesRow_16 gfX7_9 er1 ?_
  refine aw_iconst (v := 0) dX7_notesRow_19 (by decide) ?_
  obtain ⟨x2, ex2, hf⟩ := b_some hf
  refine aw_iald dX7_notesRow_20 ex2 ?_
  refine aw_icmp_ge (tgt := 60) dX7_notesRow_21 (by decide) (fun c3 => ?_) (fun c3 => ?_)
  · have hf := i_pos c3 hf
    refine aw_iload_n 2 dX7_notesRow_60 rfl rfl ?_
    refine aw_if_eq (tgt := 65) dX7_notesRow_61 (by decide) (fun c4 => ?_) (fun c4 => ?_)
    · have hf := i_pos c4 hf
      obtain ⟨x5, ex5, hf⟩ := b_some hf
      refine aw_iinc (v := x5) (L' := [(1, .int x5), (0, .ref l0), (2, .int l2), (3, .int l3)]) 1 dX7_notesRow_65 rfl (Option.some.inj ex5) (by decide) rfl ?_
      refine aw_goto (tgt := 2) dX7_notesRow_68 (by decide) ?_
      exact aw_sub [1, 0] rfl (hk2 _ _ hf)
    · have hf := i_neg c4 hf
      have hq := Option.some.inj hf
      subst hq
      exact aw_vret hr dX7_notesRow_64 ⟨rfl, rfl, rfl⟩
  · have hf := i_neg c3 hf
    refine aw_iload_n 2 dX7_notesRow_24 rfl rfl ?_
    refine aw_if_eq (tgt := 52) dX7_notesRow_25 (by decide) (fun c6 => ?_) (fun c6 => ?_)
    · have hf := i_pos c6 hf
      refine aw_iconst (v := 0) dX7_notesRow_52 (by decide) ?_
      refine aw_istore_n (L' := [(2, .int (0 : Int32)), (0, .ref l0), (1, .int l1), (3, .int l3)]) dX7_notesRow_53 rfl (by decide) rfl ?_
      obtain ⟨x7, ex7, hf⟩ := b_some hf
      refine aw_iinc (v := x7) (L' := [(3, .int x7), (2, .int (0 : Int32)), (0, .ref l0), (1, .int l1)]) 3 dX7_notesRow_54 rfl (Option.some.inj ex7) (by decide) rfl ?_
      refine aw_goto (tgt := 14) dX7_notesRow_57 (by decide) ?_
      exact aw_sub [2, 3, 1, 0] rfl (hk14 _ _ hf)
    · have hf := i_neg c6 hf
      refine aw_aload_n 0 dX7_notesRow_28 rfl rfl ?_
      obtain ⟨r8, er8, hf⟩ := b_some hf
      refine aw_getR dX7_notesRow_29 gfX7_31 er8 ?_
      refine aw_bipush (v := 6) dX7_notesRow_32 (by decide) ?_
      refine aw_iload_n 1 dX7_notesRow_34 rfl rfl ?_
      refine aw_imul dX7_notesRow_35 ?_
      refine aw_iload_n 3 dX7_notesRow_36 rfl rfl ?_
      refine aw_iadd dX7_notesRow_37 ?_
      obtain ⟨x9, ex9, hf⟩ := b_some hf
      refine aw_iald dX7_notesRow_38 ex9 ?_
      refine aw_aload_n 0 dX7_notesRow_39 rfl rfl ?_
      obtain ⟨r10, er10, hf⟩ := b_some hf
      refine aw_getR dX7_notesRow_40 gfX7_19 er10 ?_
      refine aw_iload_n 3 dX7_notesRow_43 rfl rfl ?_
      obtain ⟨x11, ex11, hf⟩ := b_some hf
      refine aw_iald dX7_notesRow_44 ex11 ?_
      refine aw_icmp_ne (tgt := 52) dX7_notesRow_45 (by decide) (fun c12 => ?_) (fun c12 => ?_)
      · have hf := i_neg c12 hf
        refine aw_iconst (v := 0) dX7_notesRow_52 (by decide) ?_
        refine aw_istore_n (L' := [(2, .int (0 : Int32)), (0, .ref l0), (1, .int l1), (3, .int l3)]) dX7_notesRow_53 rfl (by decide) rfl ?_
        obtain ⟨x13, ex13, hf⟩ := b_some hf
        refine aw_iinc (v := x13) (L' := [(3, .int x13), (2, .int (0 : Int32)), (0, .ref l0), (1, .int l1)]) 3 dX7_notesRow_54 rfl (Option.some.inj ex13) (by decide) rfl ?_
        refine aw_goto (tgt := 14) dX7_notesRow_57 (by decide) ?_
        exact aw_sub [2, 3, 1, 0] rfl (hk14 _ _ hf)
      · have hf := i_pos c12 hf
        refine aw_iconst (v := 1) dX7_notesRow_48 (by decide) ?_
        refine aw_goto (tgt := 53) dX7_notesRow_49 (by decide) ?_
        refine aw_istore_n (L' := [(2, .int (1 : Int32)), (0, .ref l0), (1, .int l1), (3, .int l3)]) dX7_notesRow_53 rfl (by decide) rfl ?_
        obtain ⟨x14, ex14, hf⟩ := b_some hf
        refine aw_iinc (v := x14) (L' := [(3, .int x14), (2, .int (1 : Int32)), (0, .ref l0), (1, .int l1)]) 3 dX7_notesRow_54 rfl (Option.some.inj ex14) (by decide) rfl ?_
        refine aw_goto (tgt := 14) dX7_notesRow_57 (by decide) ?_
        exact aw_sub [2, 3, 1, 0] rfl (hk14 _ _ hf)
def f_X7_notesRow_73 (k73 : Nat × Int32 → Hp → Option (Unit × Hp)) (v : Nat × Int32) (h0 : Hp) : Option (Unit × Hp) :=
  match v with
  | (l0, l1) => (gR h0 l0 7 0).bind fun r1 => (aL h0 r1 (0 : Int32)).bind fun x2 => if x2 ≤ l1 then ((gI h0 l0 7 17).bind fun x4 => (pI h0 l0 7 17 (x4 + (1 : Int32))).bind fun h5 => some ((), h5)) else ((gR h0 l0 7 16).bind fun r6 => (gI h0 l0 7 17).bind fun x7 => (gR h0 l0 7 4).bind fun r8 => (aL h0 r8 l1).bind fun x9 => (aS h0 r6 (((6 : Int32) * x7) + l1) x9).bind fun h10 => (some (l1 + 1)).bind fun x11 => k73 (l0, x11) h10)
set_option maxRecDepth 100000 in
set_option maxHeartbeats 4000000 in
theorem c_X7_notesRow_73 {X : Cx} {adr : Nat → Nat} {q : Unit × Hp} (hr : (mth X).sig.returnType = none) (n : Nat) : ∀ v h0, lp (f_X7_notesRow_73) n v h0 = some q → AW X cX7_notesRow 4 RX7 (rmd 1 0 0) (Qmet X 0 0 (Qe none q.2 adr)) 0 0 adr h0 73 [(0, .ref v.1), (1, .int v.2)] [] := by
  refine aw_lp (fun k73 hk73 v h0 hf => ?_) n
  obtain ⟨l0, l1⟩ := v
  unfold f_X7_notesRow_73 at hf
  dsimp only at hf
  show AW X cX7_notesRow 4 RX7 (rmd 1 0 0) (Qmet X 0 0 (Qe none q.2 adr)) 0 0 adr h0 73 [(0, .ref l0), (1, .int l1)] []
  refine aw_iload_n 1 dX7_notesRow_73 rfl rfl ?_
  refine aw_aload_n 0 dX7_notesRow_74 rfl rfl ?_
  obtain ⟨r1, er1, hf⟩ := b_some hf
  refine aw_getR dX7_notesRow_75 gfX7_9 er1 ?_
  refine aw_iconst (v := 0) dX7_notesRow_78 (by decide) ?_
  obtain ⟨x2, ex2, hf⟩ := b_some hf
  refine aw_iald dX7_notesRow_79 ex2 ?_
  refine aw_icmp_ge (tgt := 109) dX7_notesRow_80 (by decide) (fun c3 => ?_) (fun c3 => ?_)
  · have hf := i_pos c3 hf
    refine aw_aload_n 0 dX7_notesRow_109 rfl rfl ?_
    refine aw_dup dX7_notesRow_110 rfl ?_
    obtain ⟨x4, ex4, hf⟩ := b_some hf
    refine aw_getI dX7_notesRow_111 gfX7_232 ex4 ?_
    refine aw_iconst (v := 1) dX7_notesRow_114 (by decide) ?_
    refine aw_iadd dX7_notesRow_115 ?_
    obtain ⟨h5, eh5, hf⟩ := b_some hf
    refine aw_putI dX7_notesRow_116 pfX7_232 eh5 ?_
    have hq := Option.some.inj hf
    subst hq
    exact aw_vret hr dX7_notesRow_119 ⟨rfl, rfl, rfl⟩
  · have hf := i_neg c3 hf
    refine aw_aload_n 0 dX7_notesRow_83 rfl rfl ?_
    obtain ⟨r6, er6, hf⟩ := b_some hf
    refine aw_getR dX7_notesRow_84 gfX7_31 er6 ?_
    refine aw_bipush (v := 6) dX7_notesRow_87 (by decide) ?_
    refine aw_aload_n 0 dX7_notesRow_89 rfl rfl ?_
    obtain ⟨x7, ex7, hf⟩ := b_some hf
    refine aw_getI dX7_notesRow_90 gfX7_232 ex7 ?_
    refine aw_imul dX7_notesRow_93 ?_
    refine aw_iload_n 1 dX7_notesRow_94 rfl rfl ?_
    refine aw_iadd dX7_notesRow_95 ?_
    refine aw_aload_n 0 dX7_notesRow_96 rfl rfl ?_
    obtain ⟨r8, er8, hf⟩ := b_some hf
    refine aw_getR dX7_notesRow_97 gfX7_19 er8 ?_
    refine aw_iload_n 1 dX7_notesRow_100 rfl rfl ?_
    obtain ⟨x9, ex9, hf⟩ := b_some hf
    refine aw_iald dX7_notesRow_101 ex9 ?_
    obtain ⟨h10, eh10, hf⟩ := b_some hf
    refine aw_iast dX7_notesRow_102 eh10 ?_
    obtain ⟨x11, ex11, hf⟩ := b_some hf
    refine aw_iinc (v := x11) (L' := [(1, .int x11), (0, .ref l0)]) 1 dX7_notesRow_103 rfl (Option.some.inj ex11) (by decide) rfl ?_
    refine aw_goto (tgt := 73) dX7_notesRow_106 (by decide) ?_
    exact aw_sub [1, 0] rfl (hk73 _ _ hf)
def f_X7_notesRow_2 (k2 : Nat × Int32 → Hp → Option (Unit × Hp)) (v : Nat × Int32) (h0 : Hp) : Option (Unit × Hp) :=
  match v with
  | (l0, l1) => (gI h0 l0 7 17).bind fun x1 => if x1 ≤ l1 then (lp (f_X7_notesRow_73) 600 (l0, (0 : Int32)) h0) else (lp (f_X7_notesRow_14 k2) 600 (l0, l1, (1 : Int32), (0 : Int32)) h0)
set_option maxRecDepth 100000 in
set_option maxHeartbeats 4000000 in
theorem c_X7_notesRow_2 {X : Cx} {adr : Nat → Nat} {q : Unit × Hp} (hr : (mth X).sig.returnType = none) (n : Nat) : ∀ v h0, lp (f_X7_notesRow_2) n v h0 = some q → AW X cX7_notesRow 4 RX7 (rmd 1 0 0) (Qmet X 0 0 (Qe none q.2 adr)) 0 0 adr h0 2 [(0, .ref v.1), (1, .int v.2)] [] := by
  refine aw_lp (fun k2 hk2 v h0 hf => ?_) n
  obtain ⟨l0, l1⟩ := v
  unfold f_X7_notesRow_2 at hf
  dsimp only at hf
  show AW X cX7_notesRow 4 RX7 (rmd 1 0 0) (Qmet X 0 0 (Qe none q.2 adr)) 0 0 adr h0 2 [(0, .ref l0), (1, .int l1)] []
  refine aw_iload_n 1 dX7_notesRow_2 rfl rfl ?_
  refine aw_aload_n 0 dX7_notesRow_3 rfl rfl ?_
  obtain ⟨x1, ex1, hf⟩ := b_some hf
  refine aw_getI dX7_notesRow_4 gfX7_232 ex1 ?_
  refine aw_icmp_ge (tgt := 71) dX7_notesRow_7 (by decide) (fun c2 => ?_) (fun c2 => ?_)
  · have hf := i_pos c2 hf
    refine aw_iconst (v := 0) dX7_notesRow_71 (by decide) ?_
    refine aw_istore_n (L' := [(1, .int (0 : Int32)), (0, .ref l0)]) dX7_notesRow_72 rfl (by decide) rfl ?_
    exact aw_sub [1, 0] rfl (c_X7_notesRow_73 hr 600 _ _ hf)
  · have hf := i_neg c2 hf
    refine aw_iconst (v := 1) dX7_notesRow_10 (by decide) ?_
    refine aw_istore_n (L' := [(2, .int (1 : Int32)), (0, .ref l0), (1, .int l1)]) dX7_notesRow_11 rfl (by decide) rfl ?_
    refine aw_iconst (v := 0) dX7_notesRow_12 (by decide) ?_
    refine aw_istore_n (L' := [(3, .int (0 : Int32)), (2, .int (1 : Int32)), (0, .ref l0), (1, .int l1)]) dX7_notesRow_13 rfl (by decide) rfl ?_
    exact aw_sub [2, 3, 1, 0] rfl (c_X7_notesRow_14 hr hk2 600 _ _ hf)
def f_X7_notesRow (l0 : Nat) (h0 : Hp) : Option (Unit × Hp) :=
  (ck h0 l0 7).bind fun _ => lp (f_X7_notesRow_2) 600 (l0, (0 : Int32)) h0
set_option maxRecDepth 100000 in
set_option maxHeartbeats 4000000 in
theorem c_X7_notesRow {l0 : Nat} {h0 : Hp} {q : Unit × Hp} (hf : f_X7_notesRow l0 h0 = some q) : Mt 1 yX7_notesRow cX7_notesRow 4 none [.ref l0] h0 none q.2 := by
  refine MtQ.of (by decide) (Nat.le_of_ble_eq_true rfl) (fun X adr hr hn => ?_)
  unfold f_X7_notesRow at hf
  show AW X cX7_notesRow 4 RX7 (rmd 1 0 0) (Qmet X 0 0 (Qe none q.2 adr)) 0 0 adr h0 0 [(0, .ref l0)] []
  obtain ⟨u0, e0, hf⟩ := b_some hf
  refine aw_iconst (v := 0) dX7_notesRow_0 (by decide) ?_
  refine aw_istore_n (L' := [(1, .int (0 : Int32)), (0, .ref l0)]) dX7_notesRow_1 rfl (by decide) rfl ?_
  exact aw_sub [1, 0] rfl (c_X7_notesRow_2 hr 600 _ _ hf)
theorem k_X7_notesRow {l0 : Nat} {h0 : Hp} {q : Unit × Hp} (hf : f_X7_notesRow l0 h0 = some q) : ck h0 l0 7 = some () := by
  unfold f_X7_notesRow at hf
  obtain ⟨u0, e0, hf⟩ := b_some hf
  exact e0
theorem dX7_pattern_0 : decode cX7_pattern 0 = .ok (.aload_n 0, 1) := by decide +kernel
theorem dX7_pattern_1 : decode cX7_pattern 1 = .ok (.iload_n 1, 1) := by decide +kernel
theorem dX7_pattern_2 : decode cX7_pattern 2 = .ok (.invokevirtual 205, 3) := by decide +kernel
theorem dX7_pattern_5 : decode cX7_pattern 5 = .ok (.ifCond .ne 6, 3) := by decide +kernel
theorem dX7_pattern_8 : decode cX7_pattern 8 = .ok (.bipush (-2), 2) := by decide +kernel
theorem dX7_pattern_10 : decode cX7_pattern 10 = .ok (.ireturn, 1) := by decide +kernel
theorem dX7_pattern_11 : decode cX7_pattern 11 = .ok (.aload_n 0, 1) := by decide +kernel
theorem dX7_pattern_12 : decode cX7_pattern 12 = .ok (.invokevirtual 61, 3) := by decide +kernel
theorem dX7_pattern_15 : decode cX7_pattern 15 = .ok (.aload_n 0, 1) := by decide +kernel
theorem dX7_pattern_16 : decode cX7_pattern 16 = .ok (.iload_n 1, 1) := by decide +kernel
theorem dX7_pattern_17 : decode cX7_pattern 17 = .ok (.iconst 1, 1) := by decide +kernel
theorem dX7_pattern_18 : decode cX7_pattern 18 = .ok (.invokevirtual 114, 3) := by decide +kernel
theorem dX7_pattern_21 : decode cX7_pattern 21 = .ok (.istore_n 2, 1) := by decide +kernel
theorem dX7_pattern_22 : decode cX7_pattern 22 = .ok (.aload_n 0, 1) := by decide +kernel
theorem dX7_pattern_23 : decode cX7_pattern 23 = .ok (.getfield 82, 3) := by decide +kernel
theorem dX7_pattern_26 : decode cX7_pattern 26 = .ok (.ireturn, 1) := by decide +kernel
def f_X7_pattern (l0 : Nat) (l1 : Int32) (h0 : Hp) : Option (Int32 × Hp) :=
  (ck h0 l0 7).bind fun _ => (f_X7_isTeam l0 l1 h0).bind fun q1 => if q1.1 = 0 then (some ((-2 : Int32), q1.2)) else ((f_X7_looks l0 q1.2).bind fun q3 => (f_X7_isInNow l0 l1 (1 : Int32) q3.2).bind fun q4 => (gI q4.2 l0 7 8).bind fun x5 => some (x5, q4.2))
set_option maxRecDepth 100000 in
set_option maxHeartbeats 4000000 in
theorem c_X7_pattern {l0 : Nat} {l1 : Int32} {h0 : Hp} {q : Int32 × Hp} (hf : f_X7_pattern l0 l1 h0 = some q) : Mt 16 yX7_pattern cX7_pattern 3 (some .int) [.ref l0, .int l1] h0 (some (.int q.1)) q.2 := by
  refine MtQ.of (by decide) (Nat.le_of_ble_eq_true rfl) (fun X adr hr hn => ?_)
  unfold f_X7_pattern at hf
  show AW X cX7_pattern 3 RX7 (rmd 16 0 0) (Qmet X 0 0 (Qe (some (.int q.1)) q.2 adr)) 0 0 adr h0 0 [(0, .ref l0), (1, .int l1)] []
  obtain ⟨u0, e0, hf⟩ := b_some hf
  refine aw_aload_n 0 dX7_pattern_0 rfl rfl ?_
  refine aw_iload_n 1 dX7_pattern_1 rfl rfl ?_
  obtain ⟨q1, eq1, hf⟩ := b_some hf
  refine aw_cV (as := [.int l1]) dX7_pattern_2 moX7_isTeam voX7_isTeam mlX7_205 (k_X7_isTeam eq1) rfl (rm_ok (by omega) (by decide)) ⟨Nat.le_refl _, Nat.le_refl _⟩ (Nat.le_of_ble_eq_true rfl) rfl (c_X7_isTeam eq1) ?_
  refine aw_if_ne (tgt := 11) dX7_pattern_5 (by decide) (fun c2 => ?_) (fun c2 => ?_)
  · have hf := i_neg c2 hf
    refine aw_aload_n 0 dX7_pattern_11 rfl rfl ?_
    obtain ⟨q3, eq3, hf⟩ := b_some hf
    refine aw_cV0 (as := []) dX7_pattern_12 moX7_looks voX7_looks mlX7_61 (k_X7_looks eq3) rfl (rm_ok (by omega) (by decide)) ⟨Nat.le_refl _, Nat.le_refl _⟩ (Nat.le_of_ble_eq_true rfl) rfl (c_X7_looks eq3) ?_
    refine aw_aload_n 0 dX7_pattern_15 rfl rfl ?_
    refine aw_iload_n 1 dX7_pattern_16 rfl rfl ?_
    refine aw_iconst (v := 1) dX7_pattern_17 (by decide) ?_
    obtain ⟨q4, eq4, hf⟩ := b_some hf
    refine aw_cV (as := [.int l1, .int (1 : Int32)]) dX7_pattern_18 moX7_isInNow voX7_isInNow mlX7_114 (k_X7_isInNow eq4) rfl (rm_ok (by omega) (by decide)) ⟨Nat.le_refl _, Nat.le_refl _⟩ (Nat.le_of_ble_eq_true rfl) rfl (c_X7_isInNow eq4) ?_
    refine aw_istore_n (L' := [(2, .int q4.1), (0, .ref l0), (1, .int l1)]) dX7_pattern_21 rfl (by decide) rfl ?_
    refine aw_aload_n 1 dX7_pattern_22 rfl rfl ?_
    obtain ⟨x5, ex5, hf⟩ := b_some hf
    refine aw_getI dX7_pattern_23 gfX7_82 ex5 ?_
    have hq := Option.some.inj hf
    subst hq
    exact aw_iret hr dX7_pattern_26 ⟨rfl, rfl, rfl⟩
  · have hf := i_pos c2 hf
    refine aw_bipush (v := -2) dX7_pattern_8 (by decide) ?_
    have hq := Option.some.inj hf
    subst hq
    exact aw_iret hr dX7_pattern_10 ⟨rfl, rfl, rfl⟩
theorem k_X7_pattern {l0 : Nat} {l1 : Int32} {h0 : Hp} {q : Int32 × Hp} (hf : f_X7_pattern l0 l1 h0 = some q) : ck h0 l0 7 = some () := by
  unfold f_X7_pattern at hf
  obtain ⟨u0, e0, hf⟩ := b_some hf
  exact e0
theorem dX7_play_0 : decode cX7_play 0 = .ok (.aload_n 0, 1) := by decide +kernel
theorem dX7_play_1 : decode cX7_play 1 = .ok (.iload_n 1, 1) := by decide +kernel
theorem dX7_play_2 : decode cX7_play 2 = .ok (.invokevirtual 202, 3) := by decide +kernel
theorem dX7_play_5 : decode cX7_play 5 = .ok (.ifCond .eq 15, 3) := by decide +kernel
theorem dX7_play_8 : decode cX7_play 8 = .ok (.iload_n 2, 1) := by decide +kernel
theorem dX7_play_9 : decode cX7_play 9 = .ok (.i2l, 1) := by decide +kernel
theorem dX7_play_10 : decode cX7_play 10 = .ok (.lconst 0, 1) := by decide +kernel
theorem dX7_play_11 : decode cX7_play 11 = .ok (.ldc2_w 200, 3) := by decide +kernel
theorem dX7_play_14 : decode cX7_play 14 = .ok (.invokestatic 43, 3) := by decide +kernel
theorem dX7_play_17 : decode cX7_play 17 = .ok (.ifCond .ne 6, 3) := by decide +kernel
theorem dX7_play_20 : decode cX7_play 20 = .ok (.bipush (-2), 2) := by decide +kernel
theorem dX7_play_22 : decode cX7_play 22 = .ok (.ireturn, 1) := by decide +kernel
theorem dX7_play_23 : decode cX7_play 23 = .ok (.aload_n 0, 1) := by decide +kernel
theorem dX7_play_24 : decode cX7_play 24 = .ok (.getfield 9, 3) := by decide +kernel
theorem dX7_play_27 : decode cX7_play 27 = .ok (.bipush 78, 2) := by decide +kernel
theorem dX7_play_29 : decode cX7_play 29 = .ok (.iload_n 1, 1) := by decide +kernel
theorem dX7_play_30 : decode cX7_play 30 = .ok (.iadd, 1) := by decide +kernel
theorem dX7_play_31 : decode cX7_play 31 = .ok (.iaload, 1) := by decide +kernel
theorem dX7_play_32 : decode cX7_play 32 = .ok (.iconst (-1), 1) := by decide +kernel
theorem dX7_play_33 : decode cX7_play 33 = .ok (.if_icmp .eq 6, 3) := by decide +kernel
theorem dX7_play_36 : decode cX7_play 36 = .ok (.bipush (-3), 2) := by decide +kernel
theorem dX7_play_38 : decode cX7_play 38 = .ok (.ireturn, 1) := by decide +kernel
theorem dX7_play_39 : decode cX7_play 39 = .ok (.aload_n 0, 1) := by decide +kernel
theorem dX7_play_40 : decode cX7_play 40 = .ok (.getfield 9, 3) := by decide +kernel
theorem dX7_play_43 : decode cX7_play 43 = .ok (.bipush 78, 2) := by decide +kernel
theorem dX7_play_45 : decode cX7_play 45 = .ok (.iload_n 1, 1) := by decide +kernel
theorem dX7_play_46 : decode cX7_play 46 = .ok (.iadd, 1) := by decide +kernel
theorem dX7_play_47 : decode cX7_play 47 = .ok (.iload_n 2, 1) := by decide +kernel
theorem dX7_play_48 : decode cX7_play 48 = .ok (.iastore, 1) := by decide +kernel
theorem dX7_play_49 : decode cX7_play 49 = .ok (.iconst 1, 1) := by decide +kernel
theorem dX7_play_50 : decode cX7_play 50 = .ok (.ireturn, 1) := by decide +kernel
def f_X7_play (l0 : Nat) (l1 : Int32) (l2 : Int32) (h0 : Hp) : Option (Int32 × Hp) :=
  (ck h0 l0 7).bind fun _ => (f_X7_isGame l0 l1 h0).bind fun q1 => if q1.1 = 0 then (some ((-2 : Int32), q1.2)) else ((f_X7_in (Int32.toInt64 l2) (0 : Int64) (2 : Int64) q1.2).bind fun q3 => if q3.1 = 0 then (some ((-2 : Int32), q3.2)) else ((gR q3.2 l0 7 0).bind fun r5 => (aL q3.2 r5 ((78 : Int32) + l1)).bind fun x6 => if x6 = (-1 : Int32) then ((gR q3.2 l0 7 0).bind fun r8 => (aS q3.2 r8 ((78 : Int32) + l1) l2).bind fun h9 => some ((1 : Int32), h9)) else (some ((-3 : Int32), q3.2))))
set_option maxRecDepth 100000 in
set_option maxHeartbeats 4000000 in
theorem c_X7_play {l0 : Nat} {l1 : Int32} {l2 : Int32} {h0 : Hp} {q : Int32 × Hp} (hf : f_X7_play l0 l1 l2 h0 = some q) : Mt 3 yX7_play cX7_play 3 (some .int) [.ref l0, .int l1, .int l2] h0 (some (.int q.1)) q.2 := by
  refine MtQ.of (by decide) (Nat.le_of_ble_eq_true rfl) (fun X adr hr hn => ?_)
  unfold f_X7_play at hf
  show AW X cX7_play 3 RX7 (rmd 3 0 0) (Qmet X 0 0 (Qe (some (.int q.1)) q.2 adr)) 0 0 adr h0 0 [(0, .ref l0), (1, .int l1), (2, .int l2)] []
  obtain ⟨u0, e0, hf⟩ := b_some hf
  refine aw_aload_n 0 dX7_play_0 rfl rfl ?_
  refine aw_iload_n 1 dX7_play_1 rfl rfl ?_
  obtain ⟨q1, eq1, hf⟩ := b_some hf
  refine aw_cV (as := [.int l1]) dX7_play_2 moX7_isGame voX7_isGame mlX7_202 (k_X7_isGame eq1) rfl (rm_ok (by omega) (by decide)) ⟨Nat.le_refl _, Nat.le_refl _⟩ (Nat.le_of_ble_eq_true rfl) rfl (c_X7_isGame eq1) ?_
  refine aw_if_eq (tgt := 20) dX7_play_5 (by decide) (fun c2 => ?_) (fun c2 => ?_)
  · have hf := i_pos c2 hf
    refine aw_bipush (v := -2) dX7_play_20 (by decide) ?_
    have hq := Option.some.inj hf
    subst hq
    exact aw_iret hr dX7_play_22 ⟨rfl, rfl, rfl⟩
  · have hf := i_neg c2 hf
    refine aw_iload_n 2 dX7_play_8 rfl rfl ?_
    refine aw_i2l dX7_play_9 ?_
    refine aw_lconst (v := 0) dX7_play_10 (by decide) ?_
    refine aw_ldc2 dX7_play_11 klX7_200 ?_
    obtain ⟨q3, eq3, hf⟩ := b_some hf
    refine aw_cS (as := [.long (Int32.toInt64 l2), .long (0 : Int64), .long (2 : Int64)]) dX7_play_14 moX7_in soX7_in mlX7_43 (rm_ok (by omega) (by decide)) ⟨Nat.le_refl _, Nat.le_refl _⟩ (Nat.le_of_ble_eq_true rfl) rfl (c_X7_in eq3) ?_
    refine aw_if_ne (tgt := 23) dX7_play_17 (by decide) (fun c4 => ?_) (fun c4 => ?_)
    · have hf := i_neg c4 hf
      refine aw_aload_n 0 dX7_play_23 rfl rfl ?_
      obtain ⟨r5, er5, hf⟩ := b_some hf
      refine aw_getR dX7_play_24 gfX7_9 er5 ?_
      refine aw_bipush (v := 78) dX7_play_27 (by decide) ?_
      refine aw_iload_n 1 dX7_play_29 rfl rfl ?_
      refine aw_iadd dX7_play_30 ?_
      obtain ⟨x6, ex6, hf⟩ := b_some hf
      refine aw_iald dX7_play_31 ex6 ?_
      refine aw_iconst (v := -1) dX7_play_32 (by decide) ?_
      refine aw_icmp_eq (tgt := 39) dX7_play_33 (by decide) (fun c7 => ?_) (fun c7 => ?_)
      · have hf := i_pos c7 hf
        refine aw_aload_n 0 dX7_play_39 rfl rfl ?_
        obtain ⟨r8, er8, hf⟩ := b_some hf
        refine aw_getR dX7_play_40 gfX7_9 er8 ?_
        refine aw_bipush (v := 78) dX7_play_43 (by decide) ?_
        refine aw_iload_n 1 dX7_play_45 rfl rfl ?_
        refine aw_iadd dX7_play_46 ?_
        refine aw_iload_n 2 dX7_play_47 rfl rfl ?_
        obtain ⟨h9, eh9, hf⟩ := b_some hf
        refine aw_iast dX7_play_48 eh9 ?_
        refine aw_iconst (v := 1) dX7_play_49 (by decide) ?_
        have hq := Option.some.inj hf
        subst hq
        exact aw_iret hr dX7_play_50 ⟨rfl, rfl, rfl⟩
      · have hf := i_neg c7 hf
        refine aw_bipush (v := -3) dX7_play_36 (by decide) ?_
        have hq := Option.some.inj hf
        subst hq
        exact aw_iret hr dX7_play_38 ⟨rfl, rfl, rfl⟩
    · have hf := i_pos c4 hf
      refine aw_bipush (v := -2) dX7_play_20 (by decide) ?_
      have hq := Option.some.inj hf
      subst hq
      exact aw_iret hr dX7_play_22 ⟨rfl, rfl, rfl⟩
theorem k_X7_play {l0 : Nat} {l1 : Int32} {l2 : Int32} {h0 : Hp} {q : Int32 × Hp} (hf : f_X7_play l0 l1 l2 h0 = some q) : ck h0 l0 7 = some () := by
  unfold f_X7_play at hf
  obtain ⟨u0, e0, hf⟩ := b_some hf
  exact e0
theorem dX7_put_0 : decode cX7_put 0 = .ok (.iload_n 1, 1) := by decide +kernel
theorem dX7_put_1 : decode cX7_put 1 = .ok (.invokestatic 253, 3) := by decide +kernel
theorem dX7_put_4 : decode cX7_put 4 = .ok (.ifCond .ne 6, 3) := by decide +kernel
theorem dX7_put_7 : decode cX7_put 7 = .ok (.bipush (-2), 2) := by decide +kernel
theorem dX7_put_9 : decode cX7_put 9 = .ok (.ireturn, 1) := by decide +kernel
theorem dX7_put_10 : decode cX7_put 10 = .ok (.aload_n 0, 1) := by decide +kernel
theorem dX7_put_11 : decode cX7_put 11 = .ok (.getfield 34, 3) := by decide +kernel
theorem dX7_put_14 : decode cX7_put 14 = .ok (.iload_n 1, 1) := by decide +kernel
theorem dX7_put_15 : decode cX7_put 15 = .ok (.iaload, 1) := by decide +kernel
theorem dX7_put_16 : decode cX7_put 16 = .ok (.ifCond .ge 6, 3) := by decide +kernel
theorem dX7_put_19 : decode cX7_put 19 = .ok (.bipush (-11), 2) := by decide +kernel
theorem dX7_put_21 : decode cX7_put 21 = .ok (.ireturn, 1) := by decide +kernel
theorem dX7_put_22 : decode cX7_put 22 = .ok (.iload_n 2, 1) := by decide +kernel
theorem dX7_put_23 : decode cX7_put 23 = .ok (.i2l, 1) := by decide +kernel
theorem dX7_put_24 : decode cX7_put 24 = .ok (.lconst 0, 1) := by decide +kernel
theorem dX7_put_25 : decode cX7_put 25 = .ok (.aload_n 0, 1) := by decide +kernel
theorem dX7_put_26 : decode cX7_put 26 = .ok (.getfield 37, 3) := by decide +kernel
theorem dX7_put_29 : decode cX7_put 29 = .ok (.iload_n 1, 1) := by decide +kernel
theorem dX7_put_30 : decode cX7_put 30 = .ok (.iaload, 1) := by decide +kernel
theorem dX7_put_31 : decode cX7_put 31 = .ok (.iconst 1, 1) := by decide +kernel
theorem dX7_put_32 : decode cX7_put 32 = .ok (.isub, 1) := by decide +kernel
theorem dX7_put_33 : decode cX7_put 33 = .ok (.i2l, 1) := by decide +kernel
theorem dX7_put_34 : decode cX7_put 34 = .ok (.invokestatic 43, 3) := by decide +kernel
theorem dX7_put_37 : decode cX7_put 37 = .ok (.ifCond .ne 6, 3) := by decide +kernel
theorem dX7_put_40 : decode cX7_put 40 = .ok (.bipush (-12), 2) := by decide +kernel
theorem dX7_put_42 : decode cX7_put 42 = .ok (.ireturn, 1) := by decide +kernel
theorem dX7_put_43 : decode cX7_put 43 = .ok (.aload_n 0, 1) := by decide +kernel
theorem dX7_put_44 : decode cX7_put 44 = .ok (.getfield 40, 3) := by decide +kernel
theorem dX7_put_47 : decode cX7_put 47 = .ok (.bipush 40, 2) := by decide +kernel
theorem dX7_put_49 : decode cX7_put 49 = .ok (.iload_n 1, 1) := by decide +kernel
theorem dX7_put_50 : decode cX7_put 50 = .ok (.imul, 1) := by decide +kernel
theorem dX7_put_51 : decode cX7_put 51 = .ok (.iload_n 2, 1) := by decide +kernel
theorem dX7_put_52 : decode cX7_put 52 = .ok (.iadd, 1) := by decide +kernel
theorem dX7_put_53 : decode cX7_put 53 = .ok (.aload_n 0, 1) := by decide +kernel
theorem dX7_put_54 : decode cX7_put 54 = .ok (.getfield 34, 3) := by decide +kernel
theorem dX7_put_57 : decode cX7_put 57 = .ok (.iload_n 1, 1) := by decide +kernel
theorem dX7_put_58 : decode cX7_put 58 = .ok (.iaload, 1) := by decide +kernel
theorem dX7_put_59 : decode cX7_put 59 = .ok (.ifCond .ne 8, 3) := by decide +kernel
theorem dX7_put_62 : decode cX7_put 62 = .ok (.iload_n 3, 1) := by decide +kernel
theorem dX7_put_63 : decode cX7_put 63 = .ok (.i2b, 1) := by decide +kernel
theorem dX7_put_64 : decode cX7_put 64 = .ok (.goto 4, 3) := by decide +kernel
theorem dX7_put_67 : decode cX7_put 67 = .ok (.iload_n 3, 1) := by decide +kernel
theorem dX7_put_68 : decode cX7_put 68 = .ok (.iastore, 1) := by decide +kernel
theorem dX7_put_69 : decode cX7_put 69 = .ok (.iconst 1, 1) := by decide +kernel
theorem dX7_put_70 : decode cX7_put 70 = .ok (.ireturn, 1) := by decide +kernel
def f_X7_put_68 (s0 : Int32) (s1 : Int32) (s2 : Nat) (h0 : Hp) : Option (Int32 × Hp) :=
  (aS h0 s2 s1 s0).bind fun h1 => some ((1 : Int32), h1)
set_option maxRecDepth 100000 in
set_option maxHeartbeats 4000000 in
theorem c_X7_put_68 {X : Cx} {adr : Nat → Nat} {q : Int32 × Hp} (hr : (mth X).sig.returnType = (some .int)) {s0 : Int32} {s1 : Int32} {s2 : Nat} {h0 : Hp} (hf : f_X7_put_68 s0 s1 s2 h0 = some q) : AW X cX7_put 4 RX7 (rmd 3 0 0) (Qmet X 0 0 (Qe (some (.int q.1)) q.2 adr)) 0 0 adr h0 68 [] [.int s0, .int s1, .ref s2] := by
  unfold f_X7_put_68 at hf
  obtain ⟨h1, eh1, hf⟩ := b_some hf
  refine aw_iast dX7_put_68 eh1 ?_
  refine aw_iconst (v := 1) dX7_put_69 (by decide) ?_
  have hq := Option.some.inj hf
  subst hq
  exact aw_iret hr dX7_put_70 ⟨rfl, rfl, rfl⟩
def f_X7_put (l0 : Nat) (l1 : Int32) (l2 : Int32) (l3 : Int32) (h0 : Hp) : Option (Int32 × Hp) :=
  (ck h0 l0 7).bind fun _ => (f_X7_isSheet l1 h0).bind fun q1 => if q1.1 = 0 then (some ((-2 : Int32), q1.2)) else ((gR q1.2 l0 7 18).bind fun r3 => (aL q1.2 r3 l1).bind fun x4 => if 0 ≤ x4 then ((gR q1.2 l0 7 19).bind fun r6 => (aL q1.2 r6 l1).bind fun x7 => (f_X7_in (Int32.toInt64 l2) (0 : Int64) (Int32.toInt64 (x7 - (1 : Int32))) q1.2).bind fun q8 => if q8.1 = 0 then (some ((-12 : Int32), q8.2)) else ((gR q8.2 l0 7 20).bind fun r10 => (gR q8.2 l0 7 18).bind fun r11 => (aL q8.2 r11 l1).bind fun x12 => if x12 = 0 then (f_X7_put_68 (l3.toInt8.toInt32) (((40 : Int32) * l1) + l2) r10 q8.2) else (f_X7_put_68 l3 (((40 : Int32) * l1) + l2) r10 q8.2))) else (some ((-11 : Int32), q1.2)))
set_option maxRecDepth 100000 in
set_option maxHeartbeats 4000000 in
theorem c_X7_put {l0 : Nat} {l1 : Int32} {l2 : Int32} {l3 : Int32} {h0 : Hp} {q : Int32 × Hp} (hf : f_X7_put l0 l1 l2 l3 h0 = some q) : Mt 3 yX7_put cX7_put 4 (some .int) [.ref l0, .int l1, .int l2, .int l3] h0 (some (.int q.1)) q.2 := by
  refine MtQ.of (by decide) (Nat.le_of_ble_eq_true rfl) (fun X adr hr hn => ?_)
  unfold f_X7_put at hf
  show AW X cX7_put 4 RX7 (rmd 3 0 0) (Qmet X 0 0 (Qe (some (.int q.1)) q.2 adr)) 0 0 adr h0 0 [(0, .ref l0), (1, .int l1), (2, .int l2), (3, .int l3)] []
  obtain ⟨u0, e0, hf⟩ := b_some hf
  refine aw_iload_n 1 dX7_put_0 rfl rfl ?_
  obtain ⟨q1, eq1, hf⟩ := b_some hf
  refine aw_cS (as := [.int l1]) dX7_put_1 moX7_isSheet soX7_isSheet mlX7_253 (rm_ok (by omega) (by decide)) ⟨Nat.le_refl _, Nat.le_refl _⟩ (Nat.le_of_ble_eq_true rfl) rfl (c_X7_isSheet eq1) ?_
  refine aw_if_ne (tgt := 10) dX7_put_4 (by decide) (fun c2 => ?_) (fun c2 => ?_)
  · have hf := i_neg c2 hf
    refine aw_aload_n 0 dX7_put_10 rfl rfl ?_
    obtain ⟨r3, er3, hf⟩ := b_some hf
    refine aw_getR dX7_put_11 gfX7_34 er3 ?_
    refine aw_iload_n 1 dX7_put_14 rfl rfl ?_
    obtain ⟨x4, ex4, hf⟩ := b_some hf
    refine aw_iald dX7_put_15 ex4 ?_
    refine aw_if_ge (tgt := 22) dX7_put_16 (by decide) (fun c5 => ?_) (fun c5 => ?_)
    · have hf := i_pos c5 hf
      refine aw_iload_n 2 dX7_put_22 rfl rfl ?_
      refine aw_i2l dX7_put_23 ?_
      refine aw_lconst (v := 0) dX7_put_24 (by decide) ?_
      refine aw_aload_n 0 dX7_put_25 rfl rfl ?_
      obtain ⟨r6, er6, hf⟩ := b_some hf
      refine aw_getR dX7_put_26 gfX7_37 er6 ?_
      refine aw_iload_n 1 dX7_put_29 rfl rfl ?_
      obtain ⟨x7, ex7, hf⟩ := b_some hf
      refine aw_iald dX7_put_30 ex7 ?_
      refine aw_iconst (v := 1) dX7_put_31 (by decide) ?_
      refine aw_isub dX7_put_32 ?_
      refine aw_i2l dX7_put_33 ?_
      obtain ⟨q8, eq8, hf⟩ := b_some hf
      refine aw_cS (as := [.long (Int32.toInt64 l2), .long (0 : Int64), .long (Int32.toInt64 (x7 - (1 : Int32)))]) dX7_put_34 moX7_in soX7_in mlX7_43 (rm_ok (by omega) (by decide)) ⟨Nat.le_refl _, Nat.le_refl _⟩ (Nat.le_of_ble_eq_true rfl) rfl (c_X7_in eq8) ?_
      refine aw_if_ne (tgt := 43) dX7_put_37 (by decide) (fun c9 => ?_) (fun c9 => ?_)
      · have hf := i_neg c9 hf
        refine aw_aload_n 0 dX7_put_43 rfl rfl ?_
        obtain ⟨r10, er10, hf⟩ := b_some hf
        refine aw_getR dX7_put_44 gfX7_40 er10 ?_
        refine aw_bipush (v := 40) dX7_put_47 (by decide) ?_
        refine aw_iload_n 1 dX7_put_49 rfl rfl ?_
        refine aw_imul dX7_put_50 ?_
        refine aw_iload_n 2 dX7_put_51 rfl rfl ?_
        refine aw_iadd dX7_put_52 ?_
        refine aw_aload_n 0 dX7_put_53 rfl rfl ?_
        obtain ⟨r11, er11, hf⟩ := b_some hf
        refine aw_getR dX7_put_54 gfX7_34 er11 ?_
        refine aw_iload_n 1 dX7_put_57 rfl rfl ?_
        obtain ⟨x12, ex12, hf⟩ := b_some hf
        refine aw_iald dX7_put_58 ex12 ?_
        refine aw_if_ne (tgt := 67) dX7_put_59 (by decide) (fun c13 => ?_) (fun c13 => ?_)
        · have hf := i_neg c13 hf
          refine aw_iload_n 3 dX7_put_67 rfl rfl ?_
          exact aw_sub [] rfl (c_X7_put_68 hr hf)
        · have hf := i_pos c13 hf
          refine aw_iload_n 3 dX7_put_62 rfl rfl ?_
          refine aw_i2b dX7_put_63 ?_
          refine aw_goto (tgt := 68) dX7_put_64 (by decide) ?_
          exact aw_sub [] rfl (c_X7_put_68 hr hf)
      · have hf := i_pos c9 hf
        refine aw_bipush (v := -12) dX7_put_40 (by decide) ?_
        have hq := Option.some.inj hf
        subst hq
        exact aw_iret hr dX7_put_42 ⟨rfl, rfl, rfl⟩
    · have hf := i_neg c5 hf
      refine aw_bipush (v := -11) dX7_put_19 (by decide) ?_
      have hq := Option.some.inj hf
      subst hq
      exact aw_iret hr dX7_put_21 ⟨rfl, rfl, rfl⟩
  · have hf := i_pos c2 hf
    refine aw_bipush (v := -2) dX7_put_7 (by decide) ?_
    have hq := Option.some.inj hf
    subst hq
    exact aw_iret hr dX7_put_9 ⟨rfl, rfl, rfl⟩
theorem k_X7_put {l0 : Nat} {l1 : Int32} {l2 : Int32} {l3 : Int32} {h0 : Hp} {q : Int32 × Hp} (hf : f_X7_put l0 l1 l2 l3 h0 = some q) : ck h0 l0 7 = some () := by
  unfold f_X7_put at hf
  obtain ⟨u0, e0, hf⟩ := b_some hf
  exact e0
theorem dX7_run_0 : decode cX7_run 0 = .ok (.aload_n 0, 1) := by decide +kernel
theorem dX7_run_1 : decode cX7_run 1 = .ok (.iload_n 1, 1) := by decide +kernel
theorem dX7_run_2 : decode cX7_run 2 = .ok (.invokevirtual 205, 3) := by decide +kernel
theorem dX7_run_5 : decode cX7_run 5 = .ok (.ifCond .eq 11, 3) := by decide +kernel
theorem dX7_run_8 : decode cX7_run 8 = .ok (.aload_n 0, 1) := by decide +kernel
theorem dX7_run_9 : decode cX7_run 9 = .ok (.iload_n 2, 1) := by decide +kernel
theorem dX7_run_10 : decode cX7_run 10 = .ok (.invokevirtual 202, 3) := by decide +kernel
theorem dX7_run_13 : decode cX7_run 13 = .ok (.ifCond .ne 6, 3) := by decide +kernel
theorem dX7_run_16 : decode cX7_run 16 = .ok (.bipush (-2), 2) := by decide +kernel
theorem dX7_run_18 : decode cX7_run 18 = .ok (.ireturn, 1) := by decide +kernel
theorem dX7_run_19 : decode cX7_run 19 = .ok (.aload_n 0, 1) := by decide +kernel
theorem dX7_run_20 : decode cX7_run 20 = .ok (.getfield 9, 3) := by decide +kernel
theorem dX7_run_23 : decode cX7_run 23 = .ok (.bipush 78, 2) := by decide +kernel
theorem dX7_run_25 : decode cX7_run 25 = .ok (.iload_n 2, 1) := by decide +kernel
theorem dX7_run_26 : decode cX7_run 26 = .ok (.iadd, 1) := by decide +kernel
theorem dX7_run_27 : decode cX7_run 27 = .ok (.iaload, 1) := by decide +kernel
theorem dX7_run_28 : decode cX7_run 28 = .ok (.iconst (-1), 1) := by decide +kernel
theorem dX7_run_29 : decode cX7_run 29 = .ok (.if_icmp .eq 6, 3) := by decide +kernel
theorem dX7_run_32 : decode cX7_run 32 = .ok (.bipush (-3), 2) := by decide +kernel
theorem dX7_run_34 : decode cX7_run 34 = .ok (.ireturn, 1) := by decide +kernel
theorem dX7_run_35 : decode cX7_run 35 = .ok (.aload_n 0, 1) := by decide +kernel
theorem dX7_run_36 : decode cX7_run 36 = .ok (.invokevirtual 61, 3) := by decide +kernel
theorem dX7_run_39 : decode cX7_run 39 = .ok (.aload_n 0, 1) := by decide +kernel
theorem dX7_run_40 : decode cX7_run 40 = .ok (.iload_n 1, 1) := by decide +kernel
theorem dX7_run_41 : decode cX7_run 41 = .ok (.iconst 0, 1) := by decide +kernel
theorem dX7_run_42 : decode cX7_run 42 = .ok (.invokevirtual 114, 3) := by decide +kernel
theorem dX7_run_45 : decode cX7_run 45 = .ok (.ifCond .eq 12, 3) := by decide +kernel
theorem dX7_run_48 : decode cX7_run 48 = .ok (.aload_n 0, 1) := by decide +kernel
theorem dX7_run_49 : decode cX7_run 49 = .ok (.getfield 22, 3) := by decide +kernel
theorem dX7_run_52 : decode cX7_run 52 = .ok (.iload_n 2, 1) := by decide +kernel
theorem dX7_run_53 : decode cX7_run 53 = .ok (.iaload, 1) := by decide +kernel
theorem dX7_run_54 : decode cX7_run 54 = .ok (.goto 4, 3) := by decide +kernel
theorem dX7_run_57 : decode cX7_run 57 = .ok (.iconst (-1), 1) := by decide +kernel
theorem dX7_run_58 : decode cX7_run 58 = .ok (.ireturn, 1) := by decide +kernel
def f_X7_run (l0 : Nat) (l1 : Int32) (l2 : Int32) (h0 : Hp) : Option (Int32 × Hp) :=
  (ck h0 l0 7).bind fun _ => (f_X7_isTeam l0 l1 h0).bind fun q1 => if q1.1 = 0 then (some ((-2 : Int32), q1.2)) else ((f_X7_isGame l0 l2 q1.2).bind fun q3 => if q3.1 = 0 then (some ((-2 : Int32), q3.2)) else ((gR q3.2 l0 7 0).bind fun r5 => (aL q3.2 r5 ((78 : Int32) + l2)).bind fun x6 => if x6 = (-1 : Int32) then ((f_X7_looks l0 q3.2).bind fun q8 => (f_X7_isInNow l0 l1 (0 : Int32) q8.2).bind fun q9 => if q9.1 = 0 then (some ((-1 : Int32), q9.2)) else ((gR q9.2 l0 7 7).bind fun r11 => (aL q9.2 r11 l2).bind fun x12 => some (x12, q9.2))) else (some ((-3 : Int32), q3.2))))
set_option maxRecDepth 100000 in
set_option maxHeartbeats 4000000 in
theorem c_X7_run {l0 : Nat} {l1 : Int32} {l2 : Int32} {h0 : Hp} {q : Int32 × Hp} (hf : f_X7_run l0 l1 l2 h0 = some q) : Mt 16 yX7_run cX7_run 3 (some .int) [.ref l0, .int l1, .int l2] h0 (some (.int q.1)) q.2 := by
  refine MtQ.of (by decide) (Nat.le_of_ble_eq_true rfl) (fun X adr hr hn => ?_)
  unfold f_X7_run at hf
  show AW X cX7_run 3 RX7 (rmd 16 0 0) (Qmet X 0 0 (Qe (some (.int q.1)) q.2 adr)) 0 0 adr h0 0 [(0, .ref l0), (1, .int l1), (2, .int l2)] []
  obtain ⟨u0, e0, hf⟩ := b_some hf
  refine aw_aload_n 0 dX7_run_0 rfl rfl ?_
  refine aw_iload_n 1 dX7_run_1 rfl rfl ?_
  obtain ⟨q1, eq1, hf⟩ := b_some hf
  refine aw_cV (as := [.int l1]) dX7_run_2 moX7_isTeam voX7_isTeam mlX7_205 (k_X7_isTeam eq1) rfl (rm_ok (by omega) (by decide)) ⟨Nat.le_refl _, Nat.le_refl _⟩ (Nat.le_of_ble_eq_true rfl) rfl (c_X7_isTeam eq1) ?_
  refine aw_if_eq (tgt := 16) dX7_run_5 (by decide) (fun c2 => ?_) (fun c2 => ?_)
  · have hf := i_pos c2 hf
    refine aw_bipush (v := -2) dX7_run_16 (by decide) ?_
    have hq := Option.some.inj hf
    subst hq
    exact aw_iret hr dX7_run_18 ⟨rfl, rfl, rfl⟩
  · have hf := i_neg c2 hf
    refine aw_aload_n 0 dX7_run_8 rfl rfl ?_
    refine aw_iload_n 2 dX7_run_9 rfl rfl ?_
    obtain ⟨q3, eq3, hf⟩ := b_some hf
    refine aw_cV (as := [.int l2]) dX7_run_10 moX7_isGame voX7_isGame mlX7_202 (k_X7_isGame eq3) rfl (rm_ok (by omega) (by decide)) ⟨Nat.le_refl _, Nat.le_refl _⟩ (Nat.le_of_ble_eq_true rfl) rfl (c_X7_isGame eq3) ?_
    refine aw_if_ne (tgt := 19) dX7_run_13 (by decide) (fun c4 => ?_) (fun c4 => ?_)
    · have hf := i_neg c4 hf
      refine aw_aload_n 0 dX7_run_19 rfl rfl ?_
      obtain ⟨r5, er5, hf⟩ := b_some hf
      refine aw_getR dX7_run_20 gfX7_9 er5 ?_
      refine aw_bipush (v := 78) dX7_run_23 (by decide) ?_
      refine aw_iload_n 2 dX7_run_25 rfl rfl ?_
      refine aw_iadd dX7_run_26 ?_
      obtain ⟨x6, ex6, hf⟩ := b_some hf
      refine aw_iald dX7_run_27 ex6 ?_
      refine aw_iconst (v := -1) dX7_run_28 (by decide) ?_
      refine aw_icmp_eq (tgt := 35) dX7_run_29 (by decide) (fun c7 => ?_) (fun c7 => ?_)
      · have hf := i_pos c7 hf
        refine aw_aload_n 0 dX7_run_35 rfl rfl ?_
        obtain ⟨q8, eq8, hf⟩ := b_some hf
        refine aw_cV0 (as := []) dX7_run_36 moX7_looks voX7_looks mlX7_61 (k_X7_looks eq8) rfl (rm_ok (by omega) (by decide)) ⟨Nat.le_refl _, Nat.le_refl _⟩ (Nat.le_of_ble_eq_true rfl) rfl (c_X7_looks eq8) ?_
        refine aw_aload_n 0 dX7_run_39 rfl rfl ?_
        refine aw_iload_n 1 dX7_run_40 rfl rfl ?_
        refine aw_iconst (v := 0) dX7_run_41 (by decide) ?_
        obtain ⟨q9, eq9, hf⟩ := b_some hf
        refine aw_cV (as := [.int l1, .int (0 : Int32)]) dX7_run_42 moX7_isInNow voX7_isInNow mlX7_114 (k_X7_isInNow eq9) rfl (rm_ok (by omega) (by decide)) ⟨Nat.le_refl _, Nat.le_refl _⟩ (Nat.le_of_ble_eq_true rfl) rfl (c_X7_isInNow eq9) ?_
        refine aw_if_eq (tgt := 57) dX7_run_45 (by decide) (fun c10 => ?_) (fun c10 => ?_)
        · have hf := i_pos c10 hf
          refine aw_iconst (v := -1) dX7_run_57 (by decide) ?_
          have hq := Option.some.inj hf
          subst hq
          exact aw_iret hr dX7_run_58 ⟨rfl, rfl, rfl⟩
        · have hf := i_neg c10 hf
          refine aw_aload_n 0 dX7_run_48 rfl rfl ?_
          obtain ⟨r11, er11, hf⟩ := b_some hf
          refine aw_getR dX7_run_49 gfX7_22 er11 ?_
          refine aw_iload_n 2 dX7_run_52 rfl rfl ?_
          obtain ⟨x12, ex12, hf⟩ := b_some hf
          refine aw_iald dX7_run_53 ex12 ?_
          refine aw_goto (tgt := 58) dX7_run_54 (by decide) ?_
          have hq := Option.some.inj hf
          subst hq
          exact aw_iret hr dX7_run_58 ⟨rfl, rfl, rfl⟩
      · have hf := i_neg c7 hf
        refine aw_bipush (v := -3) dX7_run_32 (by decide) ?_
        have hq := Option.some.inj hf
        subst hq
        exact aw_iret hr dX7_run_34 ⟨rfl, rfl, rfl⟩
    · have hf := i_pos c4 hf
      refine aw_bipush (v := -2) dX7_run_16 (by decide) ?_
      have hq := Option.some.inj hf
      subst hq
      exact aw_iret hr dX7_run_18 ⟨rfl, rfl, rfl⟩
theorem k_X7_run {l0 : Nat} {l1 : Int32} {l2 : Int32} {h0 : Hp} {q : Int32 × Hp} (hf : f_X7_run l0 l1 l2 h0 = some q) : ck h0 l0 7 = some () := by
  unfold f_X7_run at hf
  obtain ⟨u0, e0, hf⟩ := b_some hf
  exact e0
theorem dX7_runsSo_0 : decode cX7_runsSo 0 = .ok (.iload_n 2, 1) := by decide +kernel
theorem dX7_runsSo_1 : decode cX7_runsSo 1 = .ok (.aload_n 0, 1) := by decide +kernel
theorem dX7_runsSo_2 : decode cX7_runsSo 2 = .ok (.getfield 9, 3) := by decide +kernel
theorem dX7_runsSo_5 : decode cX7_runsSo 5 = .ok (.iconst 1, 1) := by decide +kernel
theorem dX7_runsSo_6 : decode cX7_runsSo 6 = .ok (.iaload, 1) := by decide +kernel
theorem dX7_runsSo_7 : decode cX7_runsSo 7 = .ok (.if_icmp .ne 45, 3) := by decide +kernel
theorem dX7_runsSo_10 : decode cX7_runsSo 10 = .ok (.iconst 0, 1) := by decide +kernel
theorem dX7_runsSo_11 : decode cX7_runsSo 11 = .ok (.istore_n 3, 1) := by decide +kernel
theorem dX7_runsSo_12 : decode cX7_runsSo 12 = .ok (.iload_n 3, 1) := by decide +kernel
theorem dX7_runsSo_13 : decode cX7_runsSo 13 = .ok (.aload_n 0, 1) := by decide +kernel
theorem dX7_runsSo_14 : decode cX7_runsSo 14 = .ok (.getfield 37, 3) := by decide +kernel
theorem dX7_runsSo_17 : decode cX7_runsSo 17 = .ok (.iload_n 1, 1) := by decide +kernel
theorem dX7_runsSo_18 : decode cX7_runsSo 18 = .ok (.iaload, 1) := by decide +kernel
theorem dX7_runsSo_19 : decode cX7_runsSo 19 = .ok (.if_icmp .ge 31, 3) := by decide +kernel
theorem dX7_runsSo_22 : decode cX7_runsSo 22 = .ok (.aload_n 0, 1) := by decide +kernel
theorem dX7_runsSo_23 : decode cX7_runsSo 23 = .ok (.getfield 40, 3) := by decide +kernel
theorem dX7_runsSo_26 : decode cX7_runsSo 26 = .ok (.bipush 40, 2) := by decide +kernel
theorem dX7_runsSo_28 : decode cX7_runsSo 28 = .ok (.iload_n 1, 1) := by decide +kernel
theorem dX7_runsSo_29 : decode cX7_runsSo 29 = .ok (.imul, 1) := by decide +kernel
theorem dX7_runsSo_30 : decode cX7_runsSo 30 = .ok (.iload_n 3, 1) := by decide +kernel
theorem dX7_runsSo_31 : decode cX7_runsSo 31 = .ok (.iadd, 1) := by decide +kernel
theorem dX7_runsSo_32 : decode cX7_runsSo 32 = .ok (.iaload, 1) := by decide +kernel
theorem dX7_runsSo_33 : decode cX7_runsSo 33 = .ok (.aload_n 0, 1) := by decide +kernel
theorem dX7_runsSo_34 : decode cX7_runsSo 34 = .ok (.getfield 19, 3) := by decide +kernel
theorem dX7_runsSo_37 : decode cX7_runsSo 37 = .ok (.iload_n 3, 1) := by decide +kernel
theorem dX7_runsSo_38 : decode cX7_runsSo 38 = .ok (.iaload, 1) := by decide +kernel
theorem dX7_runsSo_39 : decode cX7_runsSo 39 = .ok (.if_icmp .eq 5, 3) := by decide +kernel
theorem dX7_runsSo_42 : decode cX7_runsSo 42 = .ok (.iconst 0, 1) := by decide +kernel
theorem dX7_runsSo_43 : decode cX7_runsSo 43 = .ok (.ireturn, 1) := by decide +kernel
theorem dX7_runsSo_44 : decode cX7_runsSo 44 = .ok (.iinc 3 1, 3) := by decide +kernel
theorem dX7_runsSo_47 : decode cX7_runsSo 47 = .ok (.goto (-35), 3) := by decide +kernel
theorem dX7_runsSo_50 : decode cX7_runsSo 50 = .ok (.iconst 1, 1) := by decide +kernel
theorem dX7_runsSo_51 : decode cX7_runsSo 51 = .ok (.ireturn, 1) := by decide +kernel
theorem dX7_runsSo_52 : decode cX7_runsSo 52 = .ok (.aload_n 0, 1) := by decide +kernel
theorem dX7_runsSo_53 : decode cX7_runsSo 53 = .ok (.getfield 16, 3) := by decide +kernel
theorem dX7_runsSo_56 : decode cX7_runsSo 56 = .ok (.iload_n 2, 1) := by decide +kernel
theorem dX7_runsSo_57 : decode cX7_runsSo 57 = .ok (.iaload, 1) := by decide +kernel
theorem dX7_runsSo_58 : decode cX7_runsSo 58 = .ok (.iconst (-1), 1) := by decide +kernel
theorem dX7_runsSo_59 : decode cX7_runsSo 59 = .ok (.if_icmp .eq 12, 3) := by decide +kernel
theorem dX7_runsSo_62 : decode cX7_runsSo 62 = .ok (.aload_n 0, 1) := by decide +kernel
theorem dX7_runsSo_63 : decode cX7_runsSo 63 = .ok (.iload_n 1, 1) := by decide +kernel
theorem dX7_runsSo_64 : decode cX7_runsSo 64 = .ok (.iload_n 2, 1) := by decide +kernel
theorem dX7_runsSo_65 : decode cX7_runsSo 65 = .ok (.iconst 1, 1) := by decide +kernel
theorem dX7_runsSo_66 : decode cX7_runsSo 66 = .ok (.iadd, 1) := by decide +kernel
theorem dX7_runsSo_67 : decode cX7_runsSo 67 = .ok (.invokevirtual 250, 3) := by decide +kernel
theorem dX7_runsSo_70 : decode cX7_runsSo 70 = .ok (.ireturn, 1) := by decide +kernel
theorem dX7_runsSo_71 : decode cX7_runsSo 71 = .ok (.iconst 0, 1) := by decide +kernel
theorem dX7_runsSo_72 : decode cX7_runsSo 72 = .ok (.istore_n 3, 1) := by decide +kernel
theorem dX7_runsSo_73 : decode cX7_runsSo 73 = .ok (.iconst 0, 1) := by decide +kernel
theorem dX7_runsSo_74 : decode cX7_runsSo 74 = .ok (.istore 4, 2) := by decide +kernel
theorem dX7_runsSo_76 : decode cX7_runsSo 76 = .ok (.iload 4, 2) := by decide +kernel
theorem dX7_runsSo_78 : decode cX7_runsSo 78 = .ok (.aload_n 0, 1) := by decide +kernel
theorem dX7_runsSo_79 : decode cX7_runsSo 79 = .ok (.invokevirtual 98, 3) := by decide +kernel
theorem dX7_runsSo_82 : decode cX7_runsSo 82 = .ok (.if_icmp .ge 42, 3) := by decide +kernel
theorem dX7_runsSo_85 : decode cX7_runsSo 85 = .ok (.aload_n 0, 1) := by decide +kernel
theorem dX7_runsSo_86 : decode cX7_runsSo 86 = .ok (.iload_n 2, 1) := by decide +kernel
theorem dX7_runsSo_87 : decode cX7_runsSo 87 = .ok (.iload 4, 2) := by decide +kernel
theorem dX7_runsSo_89 : decode cX7_runsSo 89 = .ok (.invokestatic 105, 3) := by decide +kernel
theorem dX7_runsSo_92 : decode cX7_runsSo 92 = .ok (.iconst 1, 1) := by decide +kernel
theorem dX7_runsSo_93 : decode cX7_runsSo 93 = .ok (.invokevirtual 54, 3) := by decide +kernel
theorem dX7_runsSo_96 : decode cX7_runsSo 96 = .ok (.iload_n 3, 1) := by decide +kernel
theorem dX7_runsSo_97 : decode cX7_runsSo 97 = .ok (.aload_n 0, 1) := by decide +kernel
theorem dX7_runsSo_98 : decode cX7_runsSo 98 = .ok (.iload_n 1, 1) := by decide +kernel
theorem dX7_runsSo_99 : decode cX7_runsSo 99 = .ok (.iload_n 2, 1) := by decide +kernel
theorem dX7_runsSo_100 : decode cX7_runsSo 100 = .ok (.iconst 1, 1) := by decide +kernel
theorem dX7_runsSo_101 : decode cX7_runsSo 101 = .ok (.iadd, 1) := by decide +kernel
theorem dX7_runsSo_102 : decode cX7_runsSo 102 = .ok (.invokevirtual 250, 3) := by decide +kernel
theorem dX7_runsSo_105 : decode cX7_runsSo 105 = .ok (.iadd, 1) := by decide +kernel
theorem dX7_runsSo_106 : decode cX7_runsSo 106 = .ok (.istore_n 3, 1) := by decide +kernel
theorem dX7_runsSo_107 : decode cX7_runsSo 107 = .ok (.aload_n 0, 1) := by decide +kernel
theorem dX7_runsSo_108 : decode cX7_runsSo 108 = .ok (.iload_n 2, 1) := by decide +kernel
theorem dX7_runsSo_109 : decode cX7_runsSo 109 = .ok (.iload 4, 2) := by decide +kernel
theorem dX7_runsSo_111 : decode cX7_runsSo 111 = .ok (.invokestatic 105, 3) := by decide +kernel
theorem dX7_runsSo_114 : decode cX7_runsSo 114 = .ok (.iconst (-1), 1) := by decide +kernel
theorem dX7_runsSo_115 : decode cX7_runsSo 115 = .ok (.invokevirtual 54, 3) := by decide +kernel
theorem dX7_runsSo_118 : decode cX7_runsSo 118 = .ok (.iinc 4 1, 3) := by decide +kernel
theorem dX7_runsSo_121 : decode cX7_runsSo 121 = .ok (.goto (-45), 3) := by decide +kernel
theorem dX7_runsSo_124 : decode cX7_runsSo 124 = .ok (.iload_n 3, 1) := by decide +kernel
theorem dX7_runsSo_125 : decode cX7_runsSo 125 = .ok (.ireturn, 1) := by decide +kernel
def f_X7_runsSo_12 (ks : Nat × Int32 × Int32 → Hp → Option (Int32 × Hp)) (k12 : Nat × Int32 × Int32 → Hp → Option (Int32 × Hp)) (v : Nat × Int32 × Int32) (h0 : Hp) : Option (Int32 × Hp) :=
  match v with
  | (l0, l1, l3) => (gR h0 l0 7 19).bind fun r1 => (aL h0 r1 l1).bind fun x2 => if x2 ≤ l3 then (some ((1 : Int32), h0)) else ((gR h0 l0 7 20).bind fun r4 => (aL h0 r4 (((40 : Int32) * l1) + l3)).bind fun x5 => (gR h0 l0 7 4).bind fun r6 => (aL h0 r6 l3).bind fun x7 => if x5 = x7 then ((some (l3 + 1)).bind fun x9 => k12 (l0, l1, x9) h0) else (some ((0 : Int32), h0)))
set_option maxRecDepth 100000 in
set_option maxHeartbeats 4000000 in
theorem c_X7_runsSo_12 {X : Cx} {adr : Nat → Nat} {q : Int32 × Hp} {d : Nat} (hdd : 2 ≤ d) {ks : Nat × Int32 × Int32 → Hp → Option (Int32 × Hp)} (hks : ∀ a h p, ks a h = some p → Mt d yX7_runsSo cX7_runsSo 5 (some .int) [.ref a.1, .int a.2.1, .int a.2.2] h (some (.int p.1)) p.2) (hr : (mth X).sig.returnType = (some .int)) (n : Nat) : ∀ v h0, lp (f_X7_runsSo_12 ks) n v h0 = some q → AW X cX7_runsSo 5 RX7 (rmd (d + 1) 0 0) (Qmet X 0 0 (Qe (some (.int q.1)) q.2 adr)) 0 0 adr h0 12 [(0, .ref v.1), (1, .int v.2.1), (3, .int v.2.2)] [] := by
  refine aw_lp (fun k12 hk12 v h0 hf => ?_) n
  obtain ⟨l0, l1, l3⟩ := v
  unfold f_X7_runsSo_12 at hf
  dsimp only at hf
  show AW X cX7_runsSo 5 RX7 (rmd (d + 1) 0 0) (Qmet X 0 0 (Qe (some (.int q.1)) q.2 adr)) 0 0 adr h0 12 [(0, .ref l0), (1, .int l1), (3, .int l3)] []
  refine aw_iload_n 2 dX7_runsSo_12 rfl rfl ?_
  refine aw_aload_n 0 dX7_runsSo_13 rfl rfl ?_
  obtain ⟨r1, er1, hf⟩ := b_some hf
  refine aw_getR dX7_runsSo_14 gfX7_37 er1 ?_
  refine aw_iload_n 1 dX7_runsSo_17 rfl rfl ?_
  obtain ⟨x2, ex2, hf⟩ := b_some hf
  refine aw_iald dX7_runsSo_18 ex2 ?_
  refine aw_icmp_ge (tgt := 50) dX7_runsSo_19 (by decide) (fun c3 => ?_) (fun c3 => ?_)
  · have hf := i_pos c3 hf
    refine aw_iconst (v := 1) dX7_runsSo_50 (by decide) ?_
    have hq := Option.some.inj hf
    subst hq
    exact aw_iret hr dX7_runsSo_51 ⟨rfl, rfl, rfl⟩
  · have hf := i_neg c3 hf
    refine aw_aload_n 0 dX7_runsSo_22 rfl rfl ?_
    obtain ⟨r4, er4, hf⟩ := b_some hf
    refine aw_getR dX7_runsSo_23 gfX7_40 er4 ?_
    refine aw_bipush (v := 40) dX7_runsSo_26 (by decide) ?_
    refine aw_iload_n 1 dX7_runsSo_28 rfl rfl ?_
    refine aw_imul dX7_runsSo_29 ?_
    refine aw_iload_n 2 dX7_runsSo_30 rfl rfl ?_
    refine aw_iadd dX7_runsSo_31 ?_
    obtain ⟨x5, ex5, hf⟩ := b_some hf
    refine aw_iald dX7_runsSo_32 ex5 ?_
    refine aw_aload_n 0 dX7_runsSo_33 rfl rfl ?_
    obtain ⟨r6, er6, hf⟩ := b_some hf
    refine aw_getR dX7_runsSo_34 gfX7_19 er6 ?_
    refine aw_iload_n 2 dX7_runsSo_37 rfl rfl ?_
    obtain ⟨x7, ex7, hf⟩ := b_some hf
    refine aw_iald dX7_runsSo_38 ex7 ?_
    refine aw_icmp_eq (tgt := 44) dX7_runsSo_39 (by decide) (fun c8 => ?_) (fun c8 => ?_)
    · have hf := i_pos c8 hf
      obtain ⟨x9, ex9, hf⟩ := b_some hf
      refine aw_iinc (v := x9) (L' := [(3, .int x9), (0, .ref l0), (1, .int l1)]) 2 dX7_runsSo_44 rfl (Option.some.inj ex9) (by decide) rfl ?_
      refine aw_goto (tgt := 12) dX7_runsSo_47 (by decide) ?_
      exact aw_sub [1, 2, 0] rfl (hk12 _ _ hf)
    · have hf := i_neg c8 hf
      refine aw_iconst (v := 0) dX7_runsSo_42 (by decide) ?_
      have hq := Option.some.inj hf
      subst hq
      exact aw_iret hr dX7_runsSo_43 ⟨rfl, rfl, rfl⟩
def f_X7_runsSo_76 (ks : Nat × Int32 × Int32 → Hp → Option (Int32 × Hp)) (k76 : Nat × Int32 × Int32 × Int32 × Int32 → Hp → Option (Int32 × Hp)) (v : Nat × Int32 × Int32 × Int32 × Int32) (h0 : Hp) : Option (Int32 × Hp) :=
  match v with
  | (l0, l1, l2, l3, l4) => (f_X7_results l0 h0).bind fun q1 => if q1.1 ≤ l4 then (some (l3, q1.2)) else ((f_X7_resultAt l4 q1.2).bind fun q3 => (f_X7_brings l0 l2 q3.1 (1 : Int32) q3.2).bind fun q4 => (ck q4.2 l0 7).bind fun u6 => (ks (l0, l1, (l2 + (1 : Int32))) q4.2).bind fun q5 => (some (l3 + q5.1)).bind fun x7 => (f_X7_resultAt l4 q5.2).bind fun q8 => (f_X7_brings l0 l2 q8.1 (-1 : Int32) q8.2).bind fun q9 => (some (l4 + 1)).bind fun x10 => k76 (l0, l1, l2, x7, x10) q9.2)
set_option maxRecDepth 100000 in
set_option maxHeartbeats 4000000 in
theorem c_X7_runsSo_76 {X : Cx} {adr : Nat → Nat} {q : Int32 × Hp} {d : Nat} (hdd : 2 ≤ d) {ks : Nat × Int32 × Int32 → Hp → Option (Int32 × Hp)} (hks : ∀ a h p, ks a h = some p → Mt d yX7_runsSo cX7_runsSo 5 (some .int) [.ref a.1, .int a.2.1, .int a.2.2] h (some (.int p.1)) p.2) (hr : (mth X).sig.returnType = (some .int)) (n : Nat) : ∀ v h0, lp (f_X7_runsSo_76 ks) n v h0 = some q → AW X cX7_runsSo 5 RX7 (rmd (d + 1) 0 0) (Qmet X 0 0 (Qe (some (.int q.1)) q.2 adr)) 0 0 adr h0 76 [(0, .ref v.1), (1, .int v.2.1), (2, .int v.2.2.1), (3, .int v.2.2.2.1), (4, .int v.2.2.2.2)] [] := by
  refine aw_lp (fun k76 hk76 v h0 hf => ?_) n
  obtain ⟨l0, l1, l2, l3, l4⟩ := v
  unfold f_X7_runsSo_76 at hf
  dsimp only at hf
  show AW X cX7_runsSo 5 RX7 (rmd (d + 1) 0 0) (Qmet X 0 0 (Qe (some (.int q.1)) q.2 adr)) 0 0 adr h0 76 [(0, .ref l0), (1, .int l1), (2, .int l2), (3, .int l3), (4, .int l4)] []
  refine aw_iload 4 dX7_runsSo_76 rfl ?_
  refine aw_aload_n 0 dX7_runsSo_78 rfl rfl ?_
  obtain ⟨q1, eq1, hf⟩ := b_some hf
  refine aw_cV (as := []) dX7_runsSo_79 moX7_results voX7_results mlX7_98 (k_X7_results eq1) rfl (rm_ok (by omega) (by decide)) ⟨Nat.le_refl _, Nat.le_refl _⟩ (Nat.le_of_ble_eq_true rfl) rfl (c_X7_results eq1) ?_
  refine aw_icmp_ge (tgt := 124) dX7_runsSo_82 (by decide) (fun c2 => ?_) (fun c2 => ?_)
  · have hf := i_pos c2 hf
    refine aw_iload_n 3 dX7_runsSo_124 rfl rfl ?_
    have hq := Option.some.inj hf
    subst hq
    exact aw_iret hr dX7_runsSo_125 ⟨rfl, rfl, rfl⟩
  · have hf := i_neg c2 hf
    refine aw_aload_n 0 dX7_runsSo_85 rfl rfl ?_
    refine aw_iload_n 2 dX7_runsSo_86 rfl rfl ?_
    refine aw_iload 4 dX7_runsSo_87 rfl ?_
    obtain ⟨q3, eq3, hf⟩ := b_some hf
    refine aw_cS (as := [.int l4]) dX7_runsSo_89 moX7_resultAt soX7_resultAt mlX7_105 (rm_ok (by omega) (by decide)) ⟨Nat.le_refl _, Nat.le_refl _⟩ (Nat.le_of_ble_eq_true rfl) rfl (c_X7_resultAt eq3) ?_
    refine aw_iconst (v := 1) dX7_runsSo_92 (by decide) ?_
    obtain ⟨q4, eq4, hf⟩ := b_some hf
    refine aw_cV0 (as := [.int l2, .int q3.1, .int (1 : Int32)]) dX7_runsSo_93 moX7_brings voX7_brings mlX7_54 (k_X7_brings eq4) rfl (rm_ok (by omega) (by decide)) ⟨Nat.le_refl _, Nat.le_refl _⟩ (Nat.le_of_ble_eq_true rfl) rfl (c_X7_brings eq4) ?_
    refine aw_iload_n 3 dX7_runsSo_96 rfl rfl ?_
    refine aw_aload_n 0 dX7_runsSo_97 rfl rfl ?_
    refine aw_iload_n 1 dX7_runsSo_98 rfl rfl ?_
    refine aw_iload_n 2 dX7_runsSo_99 rfl rfl ?_
    refine aw_iconst (v := 1) dX7_runsSo_100 (by decide) ?_
    refine aw_iadd dX7_runsSo_101 ?_
    obtain ⟨u6, eu6, hf⟩ := b_some hf
    obtain ⟨q5, eq5, hf⟩ := b_some hf
    refine aw_cV (as := [.int l1, .int (l2 + (1 : Int32))]) dX7_runsSo_102 moX7_runsSo voX7_runsSo mlX7_250 eu6 rfl (rm_ok (by omega) (by decide)) ⟨Nat.le_refl _, Nat.le_refl _⟩ (Nat.le_of_ble_eq_true rfl) rfl (hks _ _ _ eq5) ?_
    refine aw_iadd dX7_runsSo_105 ?_
    obtain ⟨x7, ex7, hf⟩ := b_some hf
    refine aw_nm ex7 ?_
    refine aw_istore_n (L' := [(3, .int x7), (0, .ref l0), (1, .int l1), (2, .int l2), (4, .int l4)]) dX7_runsSo_106 rfl (by decide) rfl ?_
    refine aw_aload_n 1 dX7_runsSo_107 rfl rfl ?_
    refine aw_iload_n 3 dX7_runsSo_108 rfl rfl ?_
    refine aw_iload 4 dX7_runsSo_109 rfl ?_
    obtain ⟨q8, eq8, hf⟩ := b_some hf
    refine aw_cS (as := [.int l4]) dX7_runsSo_111 moX7_resultAt soX7_resultAt mlX7_105 (rm_ok (by omega) (by decide)) ⟨Nat.le_refl _, Nat.le_refl _⟩ (Nat.le_of_ble_eq_true rfl) rfl (c_X7_resultAt eq8) ?_
    refine aw_iconst (v := -1) dX7_runsSo_114 (by decide) ?_
    obtain ⟨q9, eq9, hf⟩ := b_some hf
    refine aw_cV0 (as := [.int l2, .int q8.1, .int (-1 : Int32)]) dX7_runsSo_115 moX7_brings voX7_brings mlX7_54 (k_X7_brings eq9) rfl (rm_ok (by omega) (by decide)) ⟨Nat.le_refl _, Nat.le_refl _⟩ (Nat.le_of_ble_eq_true rfl) rfl (c_X7_brings eq9) ?_
    obtain ⟨x10, ex10, hf⟩ := b_some hf
    refine aw_iinc (v := x10) (L' := [(4, .int x10), (3, .int x7), (0, .ref l0), (1, .int l1), (2, .int l2)]) 4 dX7_runsSo_118 rfl (Option.some.inj ex10) (by decide) rfl ?_
    refine aw_goto (tgt := 76) dX7_runsSo_121 (by decide) ?_
    exact aw_sub [2, 3, 4, 1, 0] rfl (hk76 _ _ hf)
def f_X7_runsSo_r (ks : Nat × Int32 × Int32 → Hp → Option (Int32 × Hp)) (l0 : Nat) (l1 : Int32) (l2 : Int32) (h0 : Hp) : Option (Int32 × Hp) :=
  (ck h0 l0 7).bind fun _ => (gR h0 l0 7 0).bind fun r1 => (aL h0 r1 (1 : Int32)).bind fun x2 => if l2 = x2 then (lp (f_X7_runsSo_12 ks) 600 (l0, l1, (0 : Int32)) h0) else ((gR h0 l0 7 3).bind fun r4 => (aL h0 r4 l2).bind fun x5 => if x5 = (-1 : Int32) then (lp (f_X7_runsSo_76 ks) 600 (l0, l1, l2, (0 : Int32), (0 : Int32)) h0) else ((ck h0 l0 7).bind fun u8 => (ks (l0, l1, (l2 + (1 : Int32))) h0).bind fun q7 => some (q7.1, q7.2)))
set_option maxRecDepth 100000 in
set_option maxHeartbeats 4000000 in
theorem c_X7_runsSo_r {d : Nat} (hdd : 2 ≤ d) {ks : Nat × Int32 × Int32 → Hp → Option (Int32 × Hp)} (hks : ∀ a h p, ks a h = some p → Mt d yX7_runsSo cX7_runsSo 5 (some .int) [.ref a.1, .int a.2.1, .int a.2.2] h (some (.int p.1)) p.2) {l0 : Nat} {l1 : Int32} {l2 : Int32} {h0 : Hp} {q : Int32 × Hp} (hf : f_X7_runsSo_r ks l0 l1 l2 h0 = some q) : Mt (d + 1) yX7_runsSo cX7_runsSo 5 (some .int) [.ref l0, .int l1, .int l2] h0 (some (.int q.1)) q.2 := by
  refine MtQ.of (by decide) (Nat.le_of_ble_eq_true rfl) (fun X adr hr hn => ?_)
  unfold f_X7_runsSo_r at hf
  show AW X cX7_runsSo 5 RX7 (rmd (d + 1) 0 0) (Qmet X 0 0 (Qe (some (.int q.1)) q.2 adr)) 0 0 adr h0 0 [(0, .ref l0), (1, .int l1), (2, .int l2)] []
  obtain ⟨u0, e0, hf⟩ := b_some hf
  refine aw_iload_n 2 dX7_runsSo_0 rfl rfl ?_
  refine aw_aload_n 0 dX7_runsSo_1 rfl rfl ?_
  obtain ⟨r1, er1, hf⟩ := b_some hf
  refine aw_getR dX7_runsSo_2 gfX7_9 er1 ?_
  refine aw_iconst (v := 1) dX7_runsSo_5 (by decide) ?_
  obtain ⟨x2, ex2, hf⟩ := b_some hf
  refine aw_iald dX7_runsSo_6 ex2 ?_
  refine aw_icmp_ne (tgt := 52) dX7_runsSo_7 (by decide) (fun c3 => ?_) (fun c3 => ?_)
  · have hf := i_neg c3 hf
    refine aw_aload_n 0 dX7_runsSo_52 rfl rfl ?_
    obtain ⟨r4, er4, hf⟩ := b_some hf
    refine aw_getR dX7_runsSo_53 gfX7_16 er4 ?_
    refine aw_iload_n 2 dX7_runsSo_56 rfl rfl ?_
    obtain ⟨x5, ex5, hf⟩ := b_some hf
    refine aw_iald dX7_runsSo_57 ex5 ?_
    refine aw_iconst (v := -1) dX7_runsSo_58 (by decide) ?_
    refine aw_icmp_eq (tgt := 71) dX7_runsSo_59 (by decide) (fun c6 => ?_) (fun c6 => ?_)
    · have hf := i_pos c6 hf
      refine aw_iconst (v := 0) dX7_runsSo_71 (by decide) ?_
      refine aw_istore_n (L' := [(3, .int (0 : Int32)), (0, .ref l0), (1, .int l1), (2, .int l2)]) dX7_runsSo_72 rfl (by decide) rfl ?_
      refine aw_iconst (v := 0) dX7_runsSo_73 (by decide) ?_
      refine aw_istore (L' := [(4, .int (0 : Int32)), (3, .int (0 : Int32)), (0, .ref l0), (1, .int l1), (2, .int l2)]) dX7_runsSo_74 (by decide) rfl ?_
      exact aw_sub [2, 3, 4, 1, 0] rfl (c_X7_runsSo_76 hdd hks hr 600 _ _ hf)
    · have hf := i_neg c6 hf
      refine aw_aload_n 0 dX7_runsSo_62 rfl rfl ?_
      refine aw_iload_n 1 dX7_runsSo_63 rfl rfl ?_
      refine aw_iload_n 2 dX7_runsSo_64 rfl rfl ?_
      refine aw_iconst (v := 1) dX7_runsSo_65 (by decide) ?_
      refine aw_iadd dX7_runsSo_66 ?_
      obtain ⟨u8, eu8, hf⟩ := b_some hf
      obtain ⟨q7, eq7, hf⟩ := b_some hf
      refine aw_cV (as := [.int l1, .int (l2 + (1 : Int32))]) dX7_runsSo_67 moX7_runsSo voX7_runsSo mlX7_250 eu8 rfl (rm_ok (by omega) (by decide)) ⟨Nat.le_refl _, Nat.le_refl _⟩ (Nat.le_of_ble_eq_true rfl) rfl (hks _ _ _ eq7) ?_
      have hq := Option.some.inj hf
      subst hq
      exact aw_iret hr dX7_runsSo_70 ⟨rfl, rfl, rfl⟩
  · have hf := i_pos c3 hf
    refine aw_iconst (v := 0) dX7_runsSo_10 (by decide) ?_
    refine aw_istore_n (L' := [(3, .int (0 : Int32)), (0, .ref l0), (1, .int l1), (2, .int l2)]) dX7_runsSo_11 rfl (by decide) rfl ?_
    exact aw_sub [1, 2, 0] rfl (c_X7_runsSo_12 hdd hks hr 600 _ _ hf)
def f_X7_runsSo (n : Nat) (l0 : Nat) (l1 : Int32) (l2 : Int32) (h0 : Hp) : Option (Int32 × Hp) := lp (fun ks a h => f_X7_runsSo_r ks a.1 a.2.1 a.2.2 h) n (l0, l1, l2) h0
theorem c_X7_runsSo_l : ∀ (n : Nat) (a : Nat × Int32 × Int32) (h : Hp) (p : Int32 × Hp), lp (fun ks a h => f_X7_runsSo_r ks a.1 a.2.1 a.2.2 h) n a h = some p → Mt (2 + 1 * n) yX7_runsSo cX7_runsSo 5 (some .int) [.ref a.1, .int a.2.1, .int a.2.2] h (some (.int p.1)) p.2
  | 0, _, _, _, hf => by cases hf
  | n + 1, a, h, p, hf => c_X7_runsSo_r (d := 2 + 1 * n) (Nat.le_add_right _ _) (c_X7_runsSo_l n) hf
theorem c_X7_runsSo (n : Nat) {l0 : Nat} {l1 : Int32} {l2 : Int32} {h0 : Hp} {q : Int32 × Hp} (hf : f_X7_runsSo n l0 l1 l2 h0 = some q) : Mt (2 + 1 * n) yX7_runsSo cX7_runsSo 5 (some .int) [.ref l0, .int l1, .int l2] h0 (some (.int q.1)) q.2 := c_X7_runsSo_l n _ h0 q hf
theorem k_X7_runsSo {n : Nat} {l0 : Nat} {l1 : Int32} {l2 : Int32} {h0 : Hp} {q : Int32 × Hp} (hf : f_X7_runsSo n l0 l1 l2 h0 = some q) : ck h0 l0 7 = some () := by
  cases n with
  | zero => cases hf
  | succ n =>
    obtain ⟨u0, e0, hf⟩ := b_some (show (ck h0 l0 7).bind _ = some q from hf)
    exact e0
theorem dX7_set_0 : decode cX7_set 0 = .ok (.aload_n 0, 1) := by decide +kernel
theorem dX7_set_1 : decode cX7_set 1 = .ok (.iload_n 1, 1) := by decide +kernel
theorem dX7_set_2 : decode cX7_set 2 = .ok (.invokevirtual 205, 3) := by decide +kernel
theorem dX7_set_5 : decode cX7_set 5 = .ok (.ifCond .eq 13, 3) := by decide +kernel
theorem dX7_set_8 : decode cX7_set 8 = .ok (.iload_n 2, 1) := by decide +kernel
theorem dX7_set_9 : decode cX7_set 9 = .ok (.i2l, 1) := by decide +kernel
theorem dX7_set_10 : decode cX7_set 10 = .ok (.lconst 0, 1) := by decide +kernel
theorem dX7_set_11 : decode cX7_set 11 = .ok (.lconst 1, 1) := by decide +kernel
theorem dX7_set_12 : decode cX7_set 12 = .ok (.invokestatic 43, 3) := by decide +kernel
theorem dX7_set_15 : decode cX7_set 15 = .ok (.ifCond .ne 6, 3) := by decide +kernel
theorem dX7_set_18 : decode cX7_set 18 = .ok (.bipush (-2), 2) := by decide +kernel
theorem dX7_set_20 : decode cX7_set 20 = .ok (.ireturn, 1) := by decide +kernel
theorem dX7_set_21 : decode cX7_set 21 = .ok (.aload_n 0, 1) := by decide +kernel
theorem dX7_set_22 : decode cX7_set 22 = .ok (.invokevirtual 61, 3) := by decide +kernel
theorem dX7_set_25 : decode cX7_set 25 = .ok (.iconst 0, 1) := by decide +kernel
theorem dX7_set_26 : decode cX7_set 26 = .ok (.istore_n 3, 1) := by decide +kernel
theorem dX7_set_27 : decode cX7_set 27 = .ok (.iconst 0, 1) := by decide +kernel
theorem dX7_set_28 : decode cX7_set 28 = .ok (.istore 4, 2) := by decide +kernel
theorem dX7_set_30 : decode cX7_set 30 = .ok (.iconst 1, 1) := by decide +kernel
theorem dX7_set_31 : decode cX7_set 31 = .ok (.istore 5, 2) := by decide +kernel
theorem dX7_set_33 : decode cX7_set 33 = .ok (.iload 5, 2) := by decide +kernel
theorem dX7_set_35 : decode cX7_set 35 = .ok (.iconst 1, 1) := by decide +kernel
theorem dX7_set_36 : decode cX7_set 36 = .ok (.aload_n 0, 1) := by decide +kernel
theorem dX7_set_37 : decode cX7_set 37 = .ok (.getfield 9, 3) := by decide +kernel
theorem dX7_set_40 : decode cX7_set 40 = .ok (.iconst 0, 1) := by decide +kernel
theorem dX7_set_41 : decode cX7_set 41 = .ok (.iaload, 1) := by decide +kernel
theorem dX7_set_42 : decode cX7_set 42 = .ok (.ishl, 1) := by decide +kernel
theorem dX7_set_43 : decode cX7_set 43 = .ok (.if_icmp .ge 86, 3) := by decide +kernel
theorem dX7_set_46 : decode cX7_set 46 = .ok (.iload 5, 2) := by decide +kernel
theorem dX7_set_48 : decode cX7_set 48 = .ok (.iload_n 1, 1) := by decide +kernel
theorem dX7_set_49 : decode cX7_set 49 = .ok (.invokestatic 92, 3) := by decide +kernel
theorem dX7_set_52 : decode cX7_set 52 = .ok (.ifCond .ne 71, 3) := by decide +kernel
theorem dX7_set_55 : decode cX7_set 55 = .ok (.aload_n 0, 1) := by decide +kernel
theorem dX7_set_56 : decode cX7_set 56 = .ok (.iload 5, 2) := by decide +kernel
theorem dX7_set_58 : decode cX7_set 58 = .ok (.iload_n 1, 1) := by decide +kernel
theorem dX7_set_59 : decode cX7_set 59 = .ok (.invokevirtual 217, 3) := by decide +kernel
theorem dX7_set_62 : decode cX7_set 62 = .ok (.istore 6, 2) := by decide +kernel
theorem dX7_set_64 : decode cX7_set 64 = .ok (.iload 6, 2) := by decide +kernel
theorem dX7_set_66 : decode cX7_set 66 = .ok (.iload 4, 2) := by decide +kernel
theorem dX7_set_68 : decode cX7_set 68 = .ok (.if_icmp .gt 22, 3) := by decide +kernel
theorem dX7_set_71 : decode cX7_set 71 = .ok (.iload 6, 2) := by decide +kernel
theorem dX7_set_73 : decode cX7_set 73 = .ok (.iload 4, 2) := by decide +kernel
theorem dX7_set_75 : decode cX7_set 75 = .ok (.if_icmp .ne 19, 3) := by decide +kernel
theorem dX7_set_78 : decode cX7_set 78 = .ok (.iload 5, 2) := by decide +kernel
theorem dX7_set_80 : decode cX7_set 80 = .ok (.invokestatic 72, 3) := by decide +kernel
theorem dX7_set_83 : decode cX7_set 83 = .ok (.iload_n 3, 1) := by decide +kernel
theorem dX7_set_84 : decode cX7_set 84 = .ok (.invokestatic 72, 3) := by decide +kernel
theorem dX7_set_87 : decode cX7_set 87 = .ok (.if_icmp .ge 7, 3) := by decide +kernel
theorem dX7_set_90 : decode cX7_set 90 = .ok (.iconst 1, 1) := by decide +kernel
theorem dX7_set_91 : decode cX7_set 91 = .ok (.goto 4, 3) := by decide +kernel
theorem dX7_set_94 : decode cX7_set 94 = .ok (.iconst 0, 1) := by decide +kernel
theorem dX7_set_95 : decode cX7_set 95 = .ok (.istore 7, 2) := by decide +kernel
theorem dX7_set_97 : decode cX7_set 97 = .ok (.iload 7, 2) := by decide +kernel
theorem dX7_set_99 : decode cX7_set 99 = .ok (.ifCond .eq 8, 3) := by decide +kernel
theorem dX7_set_102 : decode cX7_set 102 = .ok (.iload 5, 2) := by decide +kernel
theorem dX7_set_104 : decode cX7_set 104 = .ok (.goto 4, 3) := by decide +kernel
theorem dX7_set_107 : decode cX7_set 107 = .ok (.iload_n 3, 1) := by decide +kernel
theorem dX7_set_108 : decode cX7_set 108 = .ok (.istore_n 3, 1) := by decide +kernel
theorem dX7_set_109 : decode cX7_set 109 = .ok (.iload 7, 2) := by decide +kernel
theorem dX7_set_111 : decode cX7_set 111 = .ok (.ifCond .eq 8, 3) := by decide +kernel
theorem dX7_set_114 : decode cX7_set 114 = .ok (.iload 6, 2) := by decide +kernel
theorem dX7_set_116 : decode cX7_set 116 = .ok (.goto 5, 3) := by decide +kernel
theorem dX7_set_119 : decode cX7_set 119 = .ok (.iload 4, 2) := by decide +kernel
theorem dX7_set_121 : decode cX7_set 121 = .ok (.istore 4, 2) := by decide +kernel
theorem dX7_set_123 : decode cX7_set 123 = .ok (.iinc 5 1, 3) := by decide +kernel
theorem dX7_set_126 : decode cX7_set 126 = .ok (.goto (-93), 3) := by decide +kernel
theorem dX7_set_129 : decode cX7_set 129 = .ok (.iload_n 2, 1) := by decide +kernel
theorem dX7_set_130 : decode cX7_set 130 = .ok (.ifCond .ne 7, 3) := by decide +kernel
theorem dX7_set_133 : decode cX7_set 133 = .ok (.iload_n 3, 1) := by decide +kernel
theorem dX7_set_134 : decode cX7_set 134 = .ok (.goto 5, 3) := by decide +kernel
theorem dX7_set_137 : decode cX7_set 137 = .ok (.iload 4, 2) := by decide +kernel
theorem dX7_set_139 : decode cX7_set 139 = .ok (.ireturn, 1) := by decide +kernel
def f_X7_set_108 (k33 : Nat × Int32 × Int32 × Int32 × Int32 × Int32 → Hp → Option (Int32 × Hp)) (l0 : Nat) (l1 : Int32) (l2 : Int32) (l4 : Int32) (l5 : Int32) (l6 : Int32) (l7 : Int32) (s0 : Int32) (h0 : Hp) : Option (Int32 × Hp) :=
  if l7 = 0 then ((some (l5 + 1)).bind fun x2 => k33 (l0, l1, l2, s0, l4, x2) h0) else ((some (l5 + 1)).bind fun x3 => k33 (l0, l1, l2, s0, l6, x3) h0)
set_option maxRecDepth 100000 in
set_option maxHeartbeats 4000000 in
theorem c_X7_set_108 {X : Cx} {adr : Nat → Nat} {q : Int32 × Hp} (hr : (mth X).sig.returnType = (some .int)) {k33 : Nat × Int32 × Int32 × Int32 × Int32 × Int32 → Hp → Option (Int32 × Hp)} (hk33 : ∀ v h, k33 v h = some q → AW X cX7_set 8 RX7 (rmd 5 0 0) (Qmet X 0 0 (Qe (some (.int q.1)) q.2 adr)) 0 0 adr h 33 [(0, .ref v.1), (1, .int v.2.1), (2, .int v.2.2.1), (3, .int v.2.2.2.1), (4, .int v.2.2.2.2.1), (5, .int v.2.2.2.2.2)] []) {l0 : Nat} {l1 : Int32} {l2 : Int32} {l4 : Int32} {l5 : Int32} {l6 : Int32} {l7 : Int32} {s0 : Int32} {h0 : Hp} (hf : f_X7_set_108 k33 l0 l1 l2 l4 l5 l6 l7 s0 h0 = some q) : AW X cX7_set 8 RX7 (rmd 5 0 0) (Qmet X 0 0 (Qe (some (.int q.1)) q.2 adr)) 0 0 adr h0 108 [(0, .ref l0), (1, .int l1), (2, .int l2), (4, .int l4), (5, .int l5), (6, .int l6), (7, .int l7)] [.int s0] := by
  unfold f_X7_set_108 at hf
  refine aw_istore_n (L' := [(3, .int s0), (0, .ref l0), (1, .int l1), (2, .int l2), (4, .int l4), (5, .int l5), (6, .int l6), (7, .int l7)]) dX7_set_108 rfl (by decide) rfl ?_
  refine aw_iload 7 dX7_set_109 rfl ?_
  refine aw_if_eq (tgt := 119) dX7_set_111 (by decide) (fun c1 => ?_) (fun c1 => ?_)
  · have hf := i_pos c1 hf
    refine aw_iload 4 dX7_set_119 rfl ?_
    refine aw_istore (L' := [(4, .int l4), (3, .int s0), (0, .ref l0), (1, .int l1), (2, .int l2), (5, .int l5), (6, .int l6), (7, .int l7)]) dX7_set_121 (by decide) rfl ?_
    obtain ⟨x2, ex2, hf⟩ := b_some hf
    refine aw_iinc (v := x2) (L' := [(5, .int x2), (4, .int l4), (3, .int s0), (0, .ref l0), (1, .int l1), (2, .int l2), (6, .int l6), (7, .int l7)]) 5 dX7_set_123 rfl (Option.some.inj ex2) (by decide) rfl ?_
    refine aw_goto (tgt := 33) dX7_set_126 (by decide) ?_
    exact aw_sub [3, 4, 5, 2, 1, 0] rfl (hk33 _ _ hf)
  · have hf := i_neg c1 hf
    refine aw_iload 6 dX7_set_114 rfl ?_
    refine aw_goto (tgt := 121) dX7_set_116 (by decide) ?_
    refine aw_istore (L' := [(4, .int l6), (3, .int s0), (0, .ref l0), (1, .int l1), (2, .int l2), (5, .int l5), (6, .int l6), (7, .int l7)]) dX7_set_121 (by decide) rfl ?_
    obtain ⟨x3, ex3, hf⟩ := b_some hf
    refine aw_iinc (v := x3) (L' := [(5, .int x3), (4, .int l6), (3, .int s0), (0, .ref l0), (1, .int l1), (2, .int l2), (6, .int l6), (7, .int l7)]) 5 dX7_set_123 rfl (Option.some.inj ex3) (by decide) rfl ?_
    refine aw_goto (tgt := 33) dX7_set_126 (by decide) ?_
    exact aw_sub [3, 4, 5, 2, 1, 0] rfl (hk33 _ _ hf)
def f_X7_set_95 (k33 : Nat × Int32 × Int32 × Int32 × Int32 × Int32 → Hp → Option (Int32 × Hp)) (l0 : Nat) (l1 : Int32) (l2 : Int32) (l3 : Int32) (l4 : Int32) (l5 : Int32) (l6 : Int32) (s0 : Int32) (h0 : Hp) : Option (Int32 × Hp) :=
  if s0 = 0 then (f_X7_set_108 k33 l0 l1 l2 l4 l5 l6 s0 l3 h0) else (f_X7_set_108 k33 l0 l1 l2 l4 l5 l6 s0 l5 h0)
set_option maxRecDepth 100000 in
set_option maxHeartbeats 4000000 in
theorem c_X7_set_95 {X : Cx} {adr : Nat → Nat} {q : Int32 × Hp} (hr : (mth X).sig.returnType = (some .int)) {k33 : Nat × Int32 × Int32 × Int32 × Int32 × Int32 → Hp → Option (Int32 × Hp)} (hk33 : ∀ v h, k33 v h = some q → AW X cX7_set 8 RX7 (rmd 5 0 0) (Qmet X 0 0 (Qe (some (.int q.1)) q.2 adr)) 0 0 adr h 33 [(0, .ref v.1), (1, .int v.2.1), (2, .int v.2.2.1), (3, .int v.2.2.2.1), (4, .int v.2.2.2.2.1), (5, .int v.2.2.2.2.2)] []) {l0 : Nat} {l1 : Int32} {l2 : Int32} {l3 : Int32} {l4 : Int32} {l5 : Int32} {l6 : Int32} {s0 : Int32} {h0 : Hp} (hf : f_X7_set_95 k33 l0 l1 l2 l3 l4 l5 l6 s0 h0 = some q) : AW X cX7_set 8 RX7 (rmd 5 0 0) (Qmet X 0 0 (Qe (some (.int q.1)) q.2 adr)) 0 0 adr h0 95 [(0, .ref l0), (1, .int l1), (2, .int l2), (3, .int l3), (4, .int l4), (5, .int l5), (6, .int l6)] [.int s0] := by
  unfold f_X7_set_95 at hf
  refine aw_istore (L' := [(7, .int s0), (0, .ref l0), (1, .int l1), (2, .int l2), (3, .int l3), (4, .int l4), (5, .int l5), (6, .int l6)]) dX7_set_95 (by decide) rfl ?_
  refine aw_iload 0 dX7_set_97 rfl ?_
  refine aw_if_eq (tgt := 107) dX7_set_99 (by decide) (fun c1 => ?_) (fun c1 => ?_)
  · have hf := i_pos c1 hf
    refine aw_iload_n 4 dX7_set_107 rfl rfl ?_
    exact aw_sub [1, 2, 3, 5, 6, 7, 0] rfl (c_X7_set_108 hr hk33 hf)
  · have hf := i_neg c1 hf
    refine aw_iload 6 dX7_set_102 rfl ?_
    refine aw_goto (tgt := 108) dX7_set_104 (by decide) ?_
    exact aw_sub [1, 2, 3, 5, 6, 7, 0] rfl (c_X7_set_108 hr hk33 hf)
def f_X7_set_90 (k33 : Nat × Int32 × Int32 × Int32 × Int32 × Int32 → Hp → Option (Int32 × Hp)) (l0 : Nat) (l1 : Int32) (l2 : Int32) (l3 : Int32) (l4 : Int32) (l5 : Int32) (l6 : Int32) (h0 : Hp) : Option (Int32 × Hp) :=
  f_X7_set_95 k33 l0 l1 l2 l3 l4 l5 l6 (1 : Int32) h0
set_option maxRecDepth 100000 in
set_option maxHeartbeats 4000000 in
theorem c_X7_set_90 {X : Cx} {adr : Nat → Nat} {q : Int32 × Hp} (hr : (mth X).sig.returnType = (some .int)) {k33 : Nat × Int32 × Int32 × Int32 × Int32 × Int32 → Hp → Option (Int32 × Hp)} (hk33 : ∀ v h, k33 v h = some q → AW X cX7_set 8 RX7 (rmd 5 0 0) (Qmet X 0 0 (Qe (some (.int q.1)) q.2 adr)) 0 0 adr h 33 [(0, .ref v.1), (1, .int v.2.1), (2, .int v.2.2.1), (3, .int v.2.2.2.1), (4, .int v.2.2.2.2.1), (5, .int v.2.2.2.2.2)] []) {l0 : Nat} {l1 : Int32} {l2 : Int32} {l3 : Int32} {l4 : Int32} {l5 : Int32} {l6 : Int32} {h0 : Hp} (hf : f_X7_set_90 k33 l0 l1 l2 l3 l4 l5 l6 h0 = some q) : AW X cX7_set 8 RX7 (rmd 5 0 0) (Qmet X 0 0 (Qe (some (.int q.1)) q.2 adr)) 0 0 adr h0 90 [(0, .ref l0), (1, .int l1), (2, .int l2), (3, .int l3), (4, .int l4), (5, .int l5), (6, .int l6)] [] := by
  unfold f_X7_set_90 at hf
  refine aw_iconst (v := 1) dX7_set_90 (by decide) ?_
  refine aw_goto (tgt := 95) dX7_set_91 (by decide) ?_
  exact aw_sub [0, 1, 2, 3, 4, 5, 6] rfl (c_X7_set_95 hr hk33 hf)
def f_X7_set_94 (k33 : Nat × Int32 × Int32 × Int32 × Int32 × Int32 → Hp → Option (Int32 × Hp)) (l0 : Nat) (l1 : Int32) (l2 : Int32) (l3 : Int32) (l4 : Int32) (l5 : Int32) (l6 : Int32) (h0 : Hp) : Option (Int32 × Hp) :=
  f_X7_set_95 k33 l0 l1 l2 l3 l4 l5 l6 (0 : Int32) h0
set_option maxRecDepth 100000 in
set_option maxHeartbeats 4000000 in
theorem c_X7_set_94 {X : Cx} {adr : Nat → Nat} {q : Int32 × Hp} (hr : (mth X).sig.returnType = (some .int)) {k33 : Nat × Int32 × Int32 × Int32 × Int32 × Int32 → Hp → Option (Int32 × Hp)} (hk33 : ∀ v h, k33 v h = some q → AW X cX7_set 8 RX7 (rmd 5 0 0) (Qmet X 0 0 (Qe (some (.int q.1)) q.2 adr)) 0 0 adr h 33 [(0, .ref v.1), (1, .int v.2.1), (2, .int v.2.2.1), (3, .int v.2.2.2.1), (4, .int v.2.2.2.2.1), (5, .int v.2.2.2.2.2)] []) {l0 : Nat} {l1 : Int32} {l2 : Int32} {l3 : Int32} {l4 : Int32} {l5 : Int32} {l6 : Int32} {h0 : Hp} (hf : f_X7_set_94 k33 l0 l1 l2 l3 l4 l5 l6 h0 = some q) : AW X cX7_set 8 RX7 (rmd 5 0 0) (Qmet X 0 0 (Qe (some (.int q.1)) q.2 adr)) 0 0 adr h0 94 [(0, .ref l0), (1, .int l1), (2, .int l2), (3, .int l3), (4, .int l4), (5, .int l5), (6, .int l6)] [] := by
  unfold f_X7_set_94 at hf
  refine aw_iconst (v := 0) dX7_set_94 (by decide) ?_
  exact aw_sub [0, 1, 2, 3, 4, 5, 6] rfl (c_X7_set_95 hr hk33 hf)
def f_X7_set_33 (k33 : Nat × Int32 × Int32 × Int32 × Int32 × Int32 → Hp → Option (Int32 × Hp)) (v : Nat × Int32 × Int32 × Int32 × Int32 × Int32) (h0 : Hp) : Option (Int32 × Hp) :=
  match v with
  | (l0, l1, l2, l3, l4, l5) => (gR h0 l0 7 0).bind fun r1 => (aL h0 r1 (0 : Int32)).bind fun x2 => if ((1 : Int32) <<< (x2 &&& 31)) ≤ l5 then (if l2 = 0 then (some (l3, h0)) else (some (l4, h0))) else ((f_X7_has l5 l1 h0).bind fun q5 => if q5.1 = 0 then ((f_X7_aboveOf l0 l5 l1 q5.2).bind fun q8 => if l4 < q8.1 then (f_X7_set_90 k33 l0 l1 l2 l3 l4 l5 q8.1 q8.2) else (if q8.1 = l4 then ((f_X7_ones l5 q8.2).bind fun q11 => (f_X7_ones l3 q11.2).bind fun q12 => if q12.1 ≤ q11.1 then (f_X7_set_94 k33 l0 l1 l2 l3 l4 l5 q8.1 q12.2) else (f_X7_set_90 k33 l0 l1 l2 l3 l4 l5 q8.1 q12.2)) else (f_X7_set_94 k33 l0 l1 l2 l3 l4 l5 q8.1 q8.2))) else ((some (l5 + 1)).bind fun x7 => k33 (l0, l1, l2, l3, l4, x7) q5.2))
set_option maxRecDepth 100000 in
set_option maxHeartbeats 4000000 in
theorem c_X7_set_33 {X : Cx} {adr : Nat → Nat} {q : Int32 × Hp} (hr : (mth X).sig.returnType = (some .int)) (n : Nat) : ∀ v h0, lp (f_X7_set_33) n v h0 = some q → AW X cX7_set 8 RX7 (rmd 5 0 0) (Qmet X 0 0 (Qe (some (.int q.1)) q.2 adr)) 0 0 adr h0 33 [(0, .ref v.1), (1, .int v.2.1), (2, .int v.2.2.1), (3, .int v.2.2.2.1), (4, .int v.2.2.2.2.1), (5, .int v.2.2.2.2.2)] [] := by
  refine aw_lp (fun k33 hk33 v h0 hf => ?_) n
  obtain ⟨l0, l1, l2, l3, l4, l5⟩ := v
  unfold f_X7_set_33 at hf
  dsimp only at hf
  show AW X cX7_set 8 RX7 (rmd 5 0 0) (Qmet X 0 0 (Qe (some (.int q.1)) q.2 adr)) 0 0 adr h0 33 [(0, .ref l0), (1, .int l1), (2, .int l2), (3, .int l3), (4, .int l4), (5, .int l5)] []
  refine aw_iload 5 dX7_set_33 rfl ?_
  refine aw_iconst (v := 1) dX7_set_35 (by decide) ?_
  refine aw_aload_n 0 dX7_set_36 rfl rfl ?_
  obtain ⟨r1, er1, hf⟩ := b_some hf
  refine aw_getR dX7_set_37 gfX7_9 er1 ?_
  refine aw_iconst (v := 0) dX7_set_40 (by decide) ?_
  obtain ⟨x2, ex2, hf⟩ := b_some hf
  refine aw_iald dX7_set_41 ex2 ?_
  refine aw_ishl dX7_set_42 ?_
  refine aw_icmp_ge (tgt := 129) dX7_set_43 (by decide) (fun c3 => ?_) (fun c3 => ?_)
  · have hf := i_pos c3 hf
    refine aw_iload_n 2 dX7_set_129 rfl rfl ?_
    refine aw_if_ne (tgt := 137) dX7_set_130 (by decide) (fun c4 => ?_) (fun c4 => ?_)
    · have hf := i_neg c4 hf
      refine aw_iload 4 dX7_set_137 rfl ?_
      have hq := Option.some.inj hf
      subst hq
      exact aw_iret hr dX7_set_139 ⟨rfl, rfl, rfl⟩
    · have hf := i_pos c4 hf
      refine aw_iload_n 3 dX7_set_133 rfl rfl ?_
      refine aw_goto (tgt := 139) dX7_set_134 (by decide) ?_
      have hq := Option.some.inj hf
      subst hq
      exact aw_iret hr dX7_set_139 ⟨rfl, rfl, rfl⟩
  · have hf := i_neg c3 hf
    refine aw_iload 5 dX7_set_46 rfl ?_
    refine aw_iload_n 1 dX7_set_48 rfl rfl ?_
    obtain ⟨q5, eq5, hf⟩ := b_some hf
    refine aw_cS (as := [.int l5, .int l1]) dX7_set_49 moX7_has soX7_has mlX7_92 (rm_ok (by omega) (by decide)) ⟨Nat.le_refl _, Nat.le_refl _⟩ (Nat.le_of_ble_eq_true rfl) rfl (c_X7_has eq5) ?_
    refine aw_if_ne (tgt := 123) dX7_set_52 (by decide) (fun c6 => ?_) (fun c6 => ?_)
    · have hf := i_neg c6 hf
      obtain ⟨x7, ex7, hf⟩ := b_some hf
      refine aw_iinc (v := x7) (L' := [(5, .int x7), (0, .ref l0), (1, .int l1), (2, .int l2), (3, .int l3), (4, .int l4)]) 5 dX7_set_123 rfl (Option.some.inj ex7) (by decide) rfl ?_
      refine aw_goto (tgt := 33) dX7_set_126 (by decide) ?_
      exact aw_sub [1, 2, 3, 4, 5, 0] rfl (hk33 _ _ hf)
    · have hf := i_pos c6 hf
      refine aw_aload_n 0 dX7_set_55 rfl rfl ?_
      refine aw_iload 5 dX7_set_56 rfl ?_
      refine aw_iload_n 1 dX7_set_58 rfl rfl ?_
      obtain ⟨q8, eq8, hf⟩ := b_some hf
      refine aw_cV (as := [.int l5, .int l1]) dX7_set_59 moX7_aboveOf voX7_aboveOf mlX7_217 (k_X7_aboveOf eq8) rfl (rm_ok (by omega) (by decide)) ⟨Nat.le_refl _, Nat.le_refl _⟩ (Nat.le_of_ble_eq_true rfl) rfl (c_X7_aboveOf eq8) ?_
      refine aw_istore (L' := [(6, .int q8.1), (0, .ref l0), (1, .int l1), (2, .int l2), (3, .int l3), (4, .int l4), (5, .int l5)]) dX7_set_62 (by decide) rfl ?_
      refine aw_iload 0 dX7_set_64 rfl ?_
      refine aw_iload 5 dX7_set_66 rfl ?_
      refine aw_icmp_gt (tgt := 90) dX7_set_68 (by decide) (fun c9 => ?_) (fun c9 => ?_)
      · have hf := i_pos c9 hf
        exact aw_sub [1, 2, 3, 4, 5, 6, 0] rfl (c_X7_set_90 hr hk33 hf)
      · have hf := i_neg c9 hf
        refine aw_iload 0 dX7_set_71 rfl ?_
        refine aw_iload 5 dX7_set_73 rfl ?_
        refine aw_icmp_ne (tgt := 94) dX7_set_75 (by decide) (fun c10 => ?_) (fun c10 => ?_)
        · have hf := i_neg c10 hf
          exact aw_sub [1, 2, 3, 4, 5, 6, 0] rfl (c_X7_set_94 hr hk33 hf)
        · have hf := i_pos c10 hf
          refine aw_iload 6 dX7_set_78 rfl ?_
          obtain ⟨q11, eq11, hf⟩ := b_some hf
          refine aw_cS (as := [.int l5]) dX7_set_80 moX7_ones soX7_ones mlX7_72 (rm_ok (by omega) (by decide)) ⟨Nat.le_refl _, Nat.le_refl _⟩ (Nat.le_of_ble_eq_true rfl) rfl (c_X7_ones eq11) ?_
          refine aw_iload_n 4 dX7_set_83 rfl rfl ?_
          obtain ⟨q12, eq12, hf⟩ := b_some hf
          refine aw_cS (as := [.int l3]) dX7_set_84 moX7_ones soX7_ones mlX7_72 (rm_ok (by omega) (by decide)) ⟨Nat.le_refl _, Nat.le_refl _⟩ (Nat.le_of_ble_eq_true rfl) rfl (c_X7_ones eq12) ?_
          refine aw_icmp_ge (tgt := 94) dX7_set_87 (by decide) (fun c13 => ?_) (fun c13 => ?_)
          · have hf := i_pos c13 hf
            exact aw_sub [1, 2, 3, 4, 5, 6, 0] rfl (c_X7_set_94 hr hk33 hf)
          · have hf := i_neg c13 hf
            exact aw_sub [1, 2, 3, 4, 5, 6, 0] rfl (c_X7_set_90 hr hk33 hf)
def f_X7_set (l0 : Nat) (l1 : Int32) (l2 : Int32) (h0 : Hp) : Option (Int32 × Hp) :=
  (ck h0 l0 7).bind fun _ => (f_X7_isTeam l0 l1 h0).bind fun q1 => if q1.1 = 0 then (some ((-2 : Int32), q1.2)) else ((f_X7_in (Int32.toInt64 l2) (0 : Int64) (1 : Int64) q1.2).bind fun q3 => if q3.1 = 0 then (some ((-2 : Int32), q3.2)) else ((f_X7_looks l0 q3.2).bind fun q5 => lp (f_X7_set_33) 600 (l0, l1, l2, (0 : Int32), (0 : Int32), (1 : Int32)) q5.2))
set_option maxRecDepth 100000 in
set_option maxHeartbeats 4000000 in
theorem c_X7_set {l0 : Nat} {l1 : Int32} {l2 : Int32} {h0 : Hp} {q : Int32 × Hp} (hf : f_X7_set l0 l1 l2 h0 = some q) : Mt 5 yX7_set cX7_set 8 (some .int) [.ref l0, .int l1, .int l2] h0 (some (.int q.1)) q.2 := by
  refine MtQ.of (by decide) (Nat.le_of_ble_eq_true rfl) (fun X adr hr hn => ?_)
  unfold f_X7_set at hf
  show AW X cX7_set 8 RX7 (rmd 5 0 0) (Qmet X 0 0 (Qe (some (.int q.1)) q.2 adr)) 0 0 adr h0 0 [(0, .ref l0), (1, .int l1), (2, .int l2)] []
  obtain ⟨u0, e0, hf⟩ := b_some hf
  refine aw_aload_n 0 dX7_set_0 rfl rfl ?_
  refine aw_iload_n 1 dX7_set_1 rfl rfl ?_
  obtain ⟨q1, eq1, hf⟩ := b_some hf
  refine aw_cV (as := [.int l1]) dX7_set_2 moX7_isTeam voX7_isTeam mlX7_205 (k_X7_isTeam eq1) rfl (rm_ok (by omega) (by decide)) ⟨Nat.le_refl _, Nat.le_refl _⟩ (Nat.le_of_ble_eq_true rfl) rfl (c_X7_isTeam eq1) ?_
  refine aw_if_eq (tgt := 18) dX7_set_5 (by decide) (fun c2 => ?_) (fun c2 => ?_)
  · have hf := i_pos c2 hf
    refine aw_bipush (v := -2) dX7_set_18 (by decide) ?_
    have hq := Option.some.inj hf
    subst hq
    exact aw_iret hr dX7_set_20 ⟨rfl, rfl, rfl⟩
  · have hf := i_neg c2 hf
    refine aw_iload_n 2 dX7_set_8 rfl rfl ?_
    refine aw_i2l dX7_set_9 ?_
    refine aw_lconst (v := 0) dX7_set_10 (by decide) ?_
    refine aw_lconst (v := 1) dX7_set_11 (by decide) ?_
    obtain ⟨q3, eq3, hf⟩ := b_some hf
    refine aw_cS (as := [.long (Int32.toInt64 l2), .long (0 : Int64), .long (1 : Int64)]) dX7_set_12 moX7_in soX7_in mlX7_43 (rm_ok (by omega) (by decide)) ⟨Nat.le_refl _, Nat.le_refl _⟩ (Nat.le_of_ble_eq_true rfl) rfl (c_X7_in eq3) ?_
    refine aw_if_ne (tgt := 21) dX7_set_15 (by decide) (fun c4 => ?_) (fun c4 => ?_)
    · have hf := i_neg c4 hf
      refine aw_aload_n 0 dX7_set_21 rfl rfl ?_
      obtain ⟨q5, eq5, hf⟩ := b_some hf
      refine aw_cV0 (as := []) dX7_set_22 moX7_looks voX7_looks mlX7_61 (k_X7_looks eq5) rfl (rm_ok (by omega) (by decide)) ⟨Nat.le_refl _, Nat.le_refl _⟩ (Nat.le_of_ble_eq_true rfl) rfl (c_X7_looks eq5) ?_
      refine aw_iconst (v := 0) dX7_set_25 (by decide) ?_
      refine aw_istore_n (L' := [(3, .int (0 : Int32)), (0, .ref l0), (1, .int l1), (2, .int l2)]) dX7_set_26 rfl (by decide) rfl ?_
      refine aw_iconst (v := 0) dX7_set_27 (by decide) ?_
      refine aw_istore (L' := [(4, .int (0 : Int32)), (3, .int (0 : Int32)), (0, .ref l0), (1, .int l1), (2, .int l2)]) dX7_set_28 (by decide) rfl ?_
      refine aw_iconst (v := 1) dX7_set_30 (by decide) ?_
      refine aw_istore (L' := [(5, .int (1 : Int32)), (4, .int (0 : Int32)), (3, .int (0 : Int32)), (0, .ref l0), (1, .int l1), (2, .int l2)]) dX7_set_31 (by decide) rfl ?_
      exact aw_sub [3, 4, 5, 2, 1, 0] rfl (c_X7_set_33 hr 600 _ _ hf)
    · have hf := i_pos c4 hf
      refine aw_bipush (v := -2) dX7_set_18 (by decide) ?_
      have hq := Option.some.inj hf
      subst hq
      exact aw_iret hr dX7_set_20 ⟨rfl, rfl, rfl⟩
theorem k_X7_set {l0 : Nat} {l1 : Int32} {l2 : Int32} {h0 : Hp} {q : Int32 × Hp} (hf : f_X7_set l0 l1 l2 h0 = some q) : ck h0 l0 7 = some () := by
  unfold f_X7_set at hf
  obtain ⟨u0, e0, hf⟩ := b_some hf
  exact e0
theorem dX7_since_0 : decode cX7_since 0 = .ok (.aload_n 0, 1) := by decide +kernel
theorem dX7_since_1 : decode cX7_since 1 = .ok (.iload_n 1, 1) := by decide +kernel
theorem dX7_since_2 : decode cX7_since 2 = .ok (.invokevirtual 205, 3) := by decide +kernel
theorem dX7_since_5 : decode cX7_since 5 = .ok (.ifCond .eq 13, 3) := by decide +kernel
theorem dX7_since_8 : decode cX7_since 8 = .ok (.iload_n 2, 1) := by decide +kernel
theorem dX7_since_9 : decode cX7_since 9 = .ok (.i2l, 1) := by decide +kernel
theorem dX7_since_10 : decode cX7_since 10 = .ok (.lconst 0, 1) := by decide +kernel
theorem dX7_since_11 : decode cX7_since 11 = .ok (.lconst 1, 1) := by decide +kernel
theorem dX7_since_12 : decode cX7_since 12 = .ok (.invokestatic 43, 3) := by decide +kernel
theorem dX7_since_15 : decode cX7_since 15 = .ok (.ifCond .ne 6, 3) := by decide +kernel
theorem dX7_since_18 : decode cX7_since 18 = .ok (.bipush (-2), 2) := by decide +kernel
theorem dX7_since_20 : decode cX7_since 20 = .ok (.ireturn, 1) := by decide +kernel
theorem dX7_since_21 : decode cX7_since 21 = .ok (.iconst 0, 1) := by decide +kernel
theorem dX7_since_22 : decode cX7_since 22 = .ok (.istore_n 3, 1) := by decide +kernel
theorem dX7_since_23 : decode cX7_since 23 = .ok (.iload_n 3, 1) := by decide +kernel
theorem dX7_since_24 : decode cX7_since 24 = .ok (.bipush 30, 2) := by decide +kernel
theorem dX7_since_26 : decode cX7_since 26 = .ok (.if_icmp .gt 41, 3) := by decide +kernel
theorem dX7_since_29 : decode cX7_since 29 = .ok (.aload_n 0, 1) := by decide +kernel
theorem dX7_since_30 : decode cX7_since 30 = .ok (.iload_n 3, 1) := by decide +kernel
theorem dX7_since_31 : decode cX7_since 31 = .ok (.invokevirtual 224, 3) := by decide +kernel
theorem dX7_since_34 : decode cX7_since 34 = .ok (.iload_n 2, 1) := by decide +kernel
theorem dX7_since_35 : decode cX7_since 35 = .ok (.ifCond .ne 15, 3) := by decide +kernel
theorem dX7_since_38 : decode cX7_since 38 = .ok (.aload_n 0, 1) := by decide +kernel
theorem dX7_since_39 : decode cX7_since 39 = .ok (.iload_n 1, 1) := by decide +kernel
theorem dX7_since_40 : decode cX7_since 40 = .ok (.iconst 0, 1) := by decide +kernel
theorem dX7_since_41 : decode cX7_since 41 = .ok (.invokevirtual 114, 3) := by decide +kernel
theorem dX7_since_44 : decode cX7_since 44 = .ok (.ifCond .ne 17, 3) := by decide +kernel
theorem dX7_since_47 : decode cX7_since 47 = .ok (.goto 12, 3) := by decide +kernel
theorem dX7_since_50 : decode cX7_since 50 = .ok (.aload_n 0, 1) := by decide +kernel
theorem dX7_since_51 : decode cX7_since 51 = .ok (.iload_n 1, 1) := by decide +kernel
theorem dX7_since_52 : decode cX7_since 52 = .ok (.iconst 0, 1) := by decide +kernel
theorem dX7_since_53 : decode cX7_since 53 = .ok (.invokevirtual 118, 3) := by decide +kernel
theorem dX7_since_56 : decode cX7_since 56 = .ok (.ifCond .ne 5, 3) := by decide +kernel
theorem dX7_since_59 : decode cX7_since 59 = .ok (.iload_n 3, 1) := by decide +kernel
theorem dX7_since_60 : decode cX7_since 60 = .ok (.ireturn, 1) := by decide +kernel
theorem dX7_since_61 : decode cX7_since 61 = .ok (.iinc 3 1, 3) := by decide +kernel
theorem dX7_since_64 : decode cX7_since 64 = .ok (.goto (-41), 3) := by decide +kernel
theorem dX7_since_67 : decode cX7_since 67 = .ok (.iconst (-1), 1) := by decide +kernel
theorem dX7_since_68 : decode cX7_since 68 = .ok (.ireturn, 1) := by decide +kernel
def f_X7_since_23 (k23 : Nat × Int32 × Int32 × Int32 → Hp → Option (Int32 × Hp)) (v : Nat × Int32 × Int32 × Int32) (h0 : Hp) : Option (Int32 × Hp) :=
  match v with
  | (l0, l1, l2, l3) => if (30 : Int32) < l3 then (some ((-1 : Int32), h0)) else ((f_X7_looksAsOf l0 l3 h0).bind fun q2 => if l2 = 0 then ((f_X7_isInNow l0 l1 (0 : Int32) q2.2).bind fun q7 => if q7.1 = 0 then (some (l3, q7.2)) else ((some (l3 + 1)).bind fun x9 => k23 (l0, l1, l2, x9) q7.2)) else ((f_X7_canBePassed 12 l0 l1 (0 : Int32) q2.2).bind fun q4 => if q4.1 = 0 then (some (l3, q4.2)) else ((some (l3 + 1)).bind fun x6 => k23 (l0, l1, l2, x6) q4.2)))
set_option maxRecDepth 100000 in
set_option maxHeartbeats 4000000 in
theorem c_X7_since_23 {X : Cx} {adr : Nat → Nat} {q : Int32 × Hp} (hr : (mth X).sig.returnType = (some .int)) (n : Nat) : ∀ v h0, lp (f_X7_since_23) n v h0 = some q → AW X cX7_since 4 RX7 (rmd 16 0 0) (Qmet X 0 0 (Qe (some (.int q.1)) q.2 adr)) 0 0 adr h0 23 [(0, .ref v.1), (1, .int v.2.1), (2, .int v.2.2.1), (3, .int v.2.2.2)] [] := by
  refine aw_lp (fun k23 hk23 v h0 hf => ?_) n
  obtain ⟨l0, l1, l2, l3⟩ := v
  unfold f_X7_since_23 at hf
  dsimp only at hf
  show AW X cX7_since 4 RX7 (rmd 16 0 0) (Qmet X 0 0 (Qe (some (.int q.1)) q.2 adr)) 0 0 adr h0 23 [(0, .ref l0), (1, .int l1), (2, .int l2), (3, .int l3)] []
  refine aw_iload_n 3 dX7_since_23 rfl rfl ?_
  refine aw_bipush (v := 30) dX7_since_24 (by decide) ?_
  refine aw_icmp_gt (tgt := 67) dX7_since_26 (by decide) (fun c1 => ?_) (fun c1 => ?_)
  · have hf := i_pos c1 hf
    refine aw_iconst (v := -1) dX7_since_67 (by decide) ?_
    have hq := Option.some.inj hf
    subst hq
    exact aw_iret hr dX7_since_68 ⟨rfl, rfl, rfl⟩
  · have hf := i_neg c1 hf
    refine aw_aload_n 0 dX7_since_29 rfl rfl ?_
    refine aw_iload_n 3 dX7_since_30 rfl rfl ?_
    obtain ⟨q2, eq2, hf⟩ := b_some hf
    refine aw_cV0 (as := [.int l3]) dX7_since_31 moX7_looksAsOf voX7_looksAsOf mlX7_224 (k_X7_looksAsOf eq2) rfl (rm_ok (by omega) (by decide)) ⟨Nat.le_refl _, Nat.le_refl _⟩ (Nat.le_of_ble_eq_true rfl) rfl (c_X7_looksAsOf eq2) ?_
    refine aw_iload_n 2 dX7_since_34 rfl rfl ?_
    refine aw_if_ne (tgt := 50) dX7_since_35 (by decide) (fun c3 => ?_) (fun c3 => ?_)
    · have hf := i_neg c3 hf
      refine aw_aload_n 0 dX7_since_50 rfl rfl ?_
      refine aw_iload_n 1 dX7_since_51 rfl rfl ?_
      refine aw_iconst (v := 0) dX7_since_52 (by decide) ?_
      obtain ⟨q4, eq4, hf⟩ := b_some hf
      refine aw_cV (as := [.int l1, .int (0 : Int32)]) dX7_since_53 moX7_canBePassed voX7_canBePassed mlX7_118 (k_X7_canBePassed eq4) rfl (rm_ok (by omega) (by decide)) ⟨Nat.le_refl _, Nat.le_refl _⟩ (Nat.le_of_ble_eq_true rfl) rfl (c_X7_canBePassed 12 eq4) ?_
      refine aw_if_ne (tgt := 61) dX7_since_56 (by decide) (fun c5 => ?_) (fun c5 => ?_)
      · have hf := i_neg c5 hf
        obtain ⟨x6, ex6, hf⟩ := b_some hf
        refine aw_iinc (v := x6) (L' := [(3, .int x6), (0, .ref l0), (1, .int l1), (2, .int l2)]) 3 dX7_since_61 rfl (Option.some.inj ex6) (by decide) rfl ?_
        refine aw_goto (tgt := 23) dX7_since_64 (by decide) ?_
        exact aw_sub [1, 2, 3, 0] rfl (hk23 _ _ hf)
      · have hf := i_pos c5 hf
        refine aw_iload_n 3 dX7_since_59 rfl rfl ?_
        have hq := Option.some.inj hf
        subst hq
        exact aw_iret hr dX7_since_60 ⟨rfl, rfl, rfl⟩
    · have hf := i_pos c3 hf
      refine aw_aload_n 0 dX7_since_38 rfl rfl ?_
      refine aw_iload_n 1 dX7_since_39 rfl rfl ?_
      refine aw_iconst (v := 0) dX7_since_40 (by decide) ?_
      obtain ⟨q7, eq7, hf⟩ := b_some hf
      refine aw_cV (as := [.int l1, .int (0 : Int32)]) dX7_since_41 moX7_isInNow voX7_isInNow mlX7_114 (k_X7_isInNow eq7) rfl (rm_ok (by omega) (by decide)) ⟨Nat.le_refl _, Nat.le_refl _⟩ (Nat.le_of_ble_eq_true rfl) rfl (c_X7_isInNow eq7) ?_
      refine aw_if_ne (tgt := 61) dX7_since_44 (by decide) (fun c8 => ?_) (fun c8 => ?_)
      · have hf := i_neg c8 hf
        obtain ⟨x9, ex9, hf⟩ := b_some hf
        refine aw_iinc (v := x9) (L' := [(3, .int x9), (0, .ref l0), (1, .int l1), (2, .int l2)]) 3 dX7_since_61 rfl (Option.some.inj ex9) (by decide) rfl ?_
        refine aw_goto (tgt := 23) dX7_since_64 (by decide) ?_
        exact aw_sub [1, 2, 3, 0] rfl (hk23 _ _ hf)
      · have hf := i_pos c8 hf
        refine aw_goto (tgt := 59) dX7_since_47 (by decide) ?_
        refine aw_iload_n 3 dX7_since_59 rfl rfl ?_
        have hq := Option.some.inj hf
        subst hq
        exact aw_iret hr dX7_since_60 ⟨rfl, rfl, rfl⟩
def f_X7_since (l0 : Nat) (l1 : Int32) (l2 : Int32) (h0 : Hp) : Option (Int32 × Hp) :=
  (ck h0 l0 7).bind fun _ => (f_X7_isTeam l0 l1 h0).bind fun q1 => if q1.1 = 0 then (some ((-2 : Int32), q1.2)) else ((f_X7_in (Int32.toInt64 l2) (0 : Int64) (1 : Int64) q1.2).bind fun q3 => if q3.1 = 0 then (some ((-2 : Int32), q3.2)) else (lp (f_X7_since_23) 600 (l0, l1, l2, (0 : Int32)) q3.2))
set_option maxRecDepth 100000 in
set_option maxHeartbeats 4000000 in
theorem c_X7_since {l0 : Nat} {l1 : Int32} {l2 : Int32} {h0 : Hp} {q : Int32 × Hp} (hf : f_X7_since l0 l1 l2 h0 = some q) : Mt 16 yX7_since cX7_since 4 (some .int) [.ref l0, .int l1, .int l2] h0 (some (.int q.1)) q.2 := by
  refine MtQ.of (by decide) (Nat.le_of_ble_eq_true rfl) (fun X adr hr hn => ?_)
  unfold f_X7_since at hf
  show AW X cX7_since 4 RX7 (rmd 16 0 0) (Qmet X 0 0 (Qe (some (.int q.1)) q.2 adr)) 0 0 adr h0 0 [(0, .ref l0), (1, .int l1), (2, .int l2)] []
  obtain ⟨u0, e0, hf⟩ := b_some hf
  refine aw_aload_n 0 dX7_since_0 rfl rfl ?_
  refine aw_iload_n 1 dX7_since_1 rfl rfl ?_
  obtain ⟨q1, eq1, hf⟩ := b_some hf
  refine aw_cV (as := [.int l1]) dX7_since_2 moX7_isTeam voX7_isTeam mlX7_205 (k_X7_isTeam eq1) rfl (rm_ok (by omega) (by decide)) ⟨Nat.le_refl _, Nat.le_refl _⟩ (Nat.le_of_ble_eq_true rfl) rfl (c_X7_isTeam eq1) ?_
  refine aw_if_eq (tgt := 18) dX7_since_5 (by decide) (fun c2 => ?_) (fun c2 => ?_)
  · have hf := i_pos c2 hf
    refine aw_bipush (v := -2) dX7_since_18 (by decide) ?_
    have hq := Option.some.inj hf
    subst hq
    exact aw_iret hr dX7_since_20 ⟨rfl, rfl, rfl⟩
  · have hf := i_neg c2 hf
    refine aw_iload_n 2 dX7_since_8 rfl rfl ?_
    refine aw_i2l dX7_since_9 ?_
    refine aw_lconst (v := 0) dX7_since_10 (by decide) ?_
    refine aw_lconst (v := 1) dX7_since_11 (by decide) ?_
    obtain ⟨q3, eq3, hf⟩ := b_some hf
    refine aw_cS (as := [.long (Int32.toInt64 l2), .long (0 : Int64), .long (1 : Int64)]) dX7_since_12 moX7_in soX7_in mlX7_43 (rm_ok (by omega) (by decide)) ⟨Nat.le_refl _, Nat.le_refl _⟩ (Nat.le_of_ble_eq_true rfl) rfl (c_X7_in eq3) ?_
    refine aw_if_ne (tgt := 21) dX7_since_15 (by decide) (fun c4 => ?_) (fun c4 => ?_)
    · have hf := i_neg c4 hf
      refine aw_iconst (v := 0) dX7_since_21 (by decide) ?_
      refine aw_istore_n (L' := [(3, .int (0 : Int32)), (0, .ref l0), (1, .int l1), (2, .int l2)]) dX7_since_22 rfl (by decide) rfl ?_
      exact aw_sub [1, 2, 3, 0] rfl (c_X7_since_23 hr 600 _ _ hf)
    · have hf := i_pos c4 hf
      refine aw_bipush (v := -2) dX7_since_18 (by decide) ?_
      have hq := Option.some.inj hf
      subst hq
      exact aw_iret hr dX7_since_20 ⟨rfl, rfl, rfl⟩
theorem k_X7_since {l0 : Nat} {l1 : Int32} {l2 : Int32} {h0 : Hp} {q : Int32 × Hp} (hf : f_X7_since l0 l1 l2 h0 = some q) : ck h0 l0 7 = some () := by
  unfold f_X7_since at hf
  obtain ⟨u0, e0, hf⟩ := b_some hf
  exact e0
theorem dX7_starts_0 : decode cX7_starts 0 = .ok (.aload_n 0, 1) := by decide +kernel
theorem dX7_starts_1 : decode cX7_starts 1 = .ok (.aload_n 0, 1) := by decide +kernel
theorem dX7_starts_2 : decode cX7_starts 2 = .ok (.getfield 146, 3) := by decide +kernel
theorem dX7_starts_5 : decode cX7_starts 5 = .ok (.aload_n 0, 1) := by decide +kernel
theorem dX7_starts_6 : decode cX7_starts 6 = .ok (.getfield 149, 3) := by decide +kernel
theorem dX7_starts_9 : decode cX7_starts 9 = .ok (.invokevirtual 173, 3) := by decide +kernel
theorem dX7_starts_12 : decode cX7_starts 12 = .ok (.istore_n 1, 1) := by decide +kernel
theorem dX7_starts_13 : decode cX7_starts 13 = .ok (.aload_n 0, 1) := by decide +kernel
theorem dX7_starts_14 : decode cX7_starts 14 = .ok (.invokevirtual 164, 3) := by decide +kernel
theorem dX7_starts_17 : decode cX7_starts 17 = .ok (.aload_n 0, 1) := by decide +kernel
theorem dX7_starts_18 : decode cX7_starts 18 = .ok (.iconst 0, 1) := by decide +kernel
theorem dX7_starts_19 : decode cX7_starts 19 = .ok (.bipush 9, 2) := by decide +kernel
theorem dX7_starts_21 : decode cX7_starts 21 = .ok (.invokevirtual 189, 3) := by decide +kernel
theorem dX7_starts_24 : decode cX7_starts 24 = .ok (.istore_n 2, 1) := by decide +kernel
theorem dX7_starts_25 : decode cX7_starts 25 = .ok (.iload_n 2, 1) := by decide +kernel
theorem dX7_starts_26 : decode cX7_starts 26 = .ok (.ifCond .lt 10, 3) := by decide +kernel
theorem dX7_starts_29 : decode cX7_starts 29 = .ok (.aload_n 0, 1) := by decide +kernel
theorem dX7_starts_30 : decode cX7_starts 30 = .ok (.invokevirtual 186, 3) := by decide +kernel
theorem dX7_starts_33 : decode cX7_starts 33 = .ok (.ifCond .ne 8, 3) := by decide +kernel
theorem dX7_starts_36 : decode cX7_starts 36 = .ok (.aload_n 0, 1) := by decide +kernel
theorem dX7_starts_37 : decode cX7_starts 37 = .ok (.invokevirtual 167, 3) := by decide +kernel
theorem dX7_starts_40 : decode cX7_starts 40 = .ok (.ireturn, 1) := by decide +kernel
theorem dX7_starts_41 : decode cX7_starts 41 = .ok (.aload_n 0, 1) := by decide +kernel
theorem dX7_starts_42 : decode cX7_starts 42 = .ok (.iconst 0, 1) := by decide +kernel
theorem dX7_starts_43 : decode cX7_starts 43 = .ok (.putfield 129, 3) := by decide +kernel
theorem dX7_starts_46 : decode cX7_starts 46 = .ok (.aload_n 0, 1) := by decide +kernel
theorem dX7_starts_47 : decode cX7_starts 47 = .ok (.getfield 9, 3) := by decide +kernel
theorem dX7_starts_50 : decode cX7_starts 50 = .ok (.iconst 3, 1) := by decide +kernel
theorem dX7_starts_51 : decode cX7_starts 51 = .ok (.iload_n 1, 1) := by decide +kernel
theorem dX7_starts_52 : decode cX7_starts 52 = .ok (.iadd, 1) := by decide +kernel
theorem dX7_starts_53 : decode cX7_starts 53 = .ok (.iload_n 2, 1) := by decide +kernel
theorem dX7_starts_54 : decode cX7_starts 54 = .ok (.iastore, 1) := by decide +kernel
theorem dX7_starts_55 : decode cX7_starts 55 = .ok (.iload_n 1, 1) := by decide +kernel
theorem dX7_starts_56 : decode cX7_starts 56 = .ok (.ireturn, 1) := by decide +kernel
def f_X7_starts_36 (l0 : Nat) (h0 : Hp) : Option (Int32 × Hp) :=
  (f_X7_faults l0 h0).bind fun q1 => some (q1.1, q1.2)
set_option maxRecDepth 100000 in
set_option maxHeartbeats 4000000 in
theorem c_X7_starts_36 {X : Cx} {adr : Nat → Nat} {q : Int32 × Hp} (hr : (mth X).sig.returnType = (some .int)) {l0 : Nat} {h0 : Hp} (hf : f_X7_starts_36 l0 h0 = some q) : AW X cX7_starts 3 RX7 (rmd 5 0 0) (Qmet X 0 0 (Qe (some (.int q.1)) q.2 adr)) 0 0 adr h0 36 [(0, .ref l0)] [] := by
  unfold f_X7_starts_36 at hf
  refine aw_aload_n 0 dX7_starts_36 rfl rfl ?_
  obtain ⟨q1, eq1, hf⟩ := b_some hf
  refine aw_cV (as := []) dX7_starts_37 moX7_faults voX7_faults mlX7_167 (k_X7_faults eq1) rfl (rm_ok (by omega) (by decide)) ⟨Nat.le_refl _, Nat.le_refl _⟩ (Nat.le_of_ble_eq_true rfl) rfl (c_X7_faults eq1) ?_
  have hq := Option.some.inj hf
  subst hq
  exact aw_iret hr dX7_starts_40 ⟨rfl, rfl, rfl⟩
def f_X7_starts (l0 : Nat) (h0 : Hp) : Option (Int32 × Hp) :=
  (ck h0 l0 7).bind fun _ => (gI h0 l0 7 13).bind fun x1 => (gI h0 l0 7 14).bind fun x2 => (f_X7_whose l0 x1 x2 h0).bind fun q3 => (f_X7_next l0 q3.2).bind fun q4 => (f_X7_number l0 (0 : Int32) (9 : Int32) q4.2).bind fun q5 => if q5.1 < 0 then (f_X7_starts_36 l0 q5.2) else ((f_X7_isOver l0 q5.2).bind fun q7 => if q7.1 = 0 then (f_X7_starts_36 l0 q7.2) else ((pI q7.2 l0 7 11 (0 : Int32)).bind fun h9 => (gR h9 l0 7 0).bind fun r10 => (aS h9 r10 ((3 : Int32) + q3.1) q5.1).bind fun h11 => some (q3.1, h11)))
set_option maxRecDepth 100000 in
set_option maxHeartbeats 4000000 in
theorem c_X7_starts {l0 : Nat} {h0 : Hp} {q : Int32 × Hp} (hf : f_X7_starts l0 h0 = some q) : Mt 5 yX7_starts cX7_starts 3 (some .int) [.ref l0] h0 (some (.int q.1)) q.2 := by
  refine MtQ.of (by decide) (Nat.le_of_ble_eq_true rfl) (fun X adr hr hn => ?_)
  unfold f_X7_starts at hf
  show AW X cX7_starts 3 RX7 (rmd 5 0 0) (Qmet X 0 0 (Qe (some (.int q.1)) q.2 adr)) 0 0 adr h0 0 [(0, .ref l0)] []
  obtain ⟨u0, e0, hf⟩ := b_some hf
  refine aw_aload_n 0 dX7_starts_0 rfl rfl ?_
  refine aw_aload_n 0 dX7_starts_1 rfl rfl ?_
  obtain ⟨x1, ex1, hf⟩ := b_some hf
  refine aw_getI dX7_starts_2 gfX7_146 ex1 ?_
  refine aw_aload_n 0 dX7_starts_5 rfl rfl ?_
  obtain ⟨x2, ex2, hf⟩ := b_some hf
  refine aw_getI dX7_starts_6 gfX7_149 ex2 ?_
  obtain ⟨q3, eq3, hf⟩ := b_some hf
  refine aw_cV (as := [.int x1, .int x2]) dX7_starts_9 moX7_whose voX7_whose mlX7_173 (k_X7_whose eq3) rfl (rm_ok (by omega) (by decide)) ⟨Nat.le_refl _, Nat.le_refl _⟩ (Nat.le_of_ble_eq_true rfl) rfl (c_X7_whose eq3) ?_
  refine aw_istore_n (L' := [(1, .int q3.1), (0, .ref l0)]) dX7_starts_12 rfl (by decide) rfl ?_
  refine aw_aload_n 1 dX7_starts_13 rfl rfl ?_
  obtain ⟨q4, eq4, hf⟩ := b_some hf
  refine aw_cV0 (as := []) dX7_starts_14 moX7_next voX7_next mlX7_164 (k_X7_next eq4) rfl (rm_ok (by omega) (by decide)) ⟨Nat.le_refl _, Nat.le_refl _⟩ (Nat.le_of_ble_eq_true rfl) rfl (c_X7_next eq4) ?_
  refine aw_aload_n 1 dX7_starts_17 rfl rfl ?_
  refine aw_iconst (v := 0) dX7_starts_18 (by decide) ?_
  refine aw_bipush (v := 9) dX7_starts_19 (by decide) ?_
  obtain ⟨q5, eq5, hf⟩ := b_some hf
  refine aw_cV (as := [.int (0 : Int32), .int (9 : Int32)]) dX7_starts_21 moX7_number voX7_number mlX7_189 (k_X7_number eq5) rfl (rm_ok (by omega) (by decide)) ⟨Nat.le_refl _, Nat.le_refl _⟩ (Nat.le_of_ble_eq_true rfl) rfl (c_X7_number eq5) ?_
  refine aw_istore_n (L' := [(2, .int q5.1), (1, .int q3.1), (0, .ref l0)]) dX7_starts_24 rfl (by decide) rfl ?_
  refine aw_iload_n 0 dX7_starts_25 rfl rfl ?_
  refine aw_if_lt (tgt := 36) dX7_starts_26 (by decide) (fun c6 => ?_) (fun c6 => ?_)
  · have hf := i_pos c6 hf
    exact aw_sub [2] rfl (c_X7_starts_36 hr hf)
  · have hf := i_neg c6 hf
    refine aw_aload_n 2 dX7_starts_29 rfl rfl ?_
    obtain ⟨q7, eq7, hf⟩ := b_some hf
    refine aw_cV (as := []) dX7_starts_30 moX7_isOver voX7_isOver mlX7_186 (k_X7_isOver eq7) rfl (rm_ok (by omega) (by decide)) ⟨Nat.le_refl _, Nat.le_refl _⟩ (Nat.le_of_ble_eq_true rfl) rfl (c_X7_isOver eq7) ?_
    refine aw_if_ne (tgt := 41) dX7_starts_33 (by decide) (fun c8 => ?_) (fun c8 => ?_)
    · have hf := i_neg c8 hf
      refine aw_aload_n 2 dX7_starts_41 rfl rfl ?_
      refine aw_iconst (v := 0) dX7_starts_42 (by decide) ?_
      obtain ⟨h9, eh9, hf⟩ := b_some hf
      refine aw_putI dX7_starts_43 pfX7_129 eh9 ?_
      refine aw_aload_n 2 dX7_starts_46 rfl rfl ?_
      obtain ⟨r10, er10, hf⟩ := b_some hf
      refine aw_getR dX7_starts_47 gfX7_9 er10 ?_
      refine aw_iconst (v := 3) dX7_starts_50 (by decide) ?_
      refine aw_iload_n 1 dX7_starts_51 rfl rfl ?_
      refine aw_iadd dX7_starts_52 ?_
      refine aw_iload_n 0 dX7_starts_53 rfl rfl ?_
      obtain ⟨h11, eh11, hf⟩ := b_some hf
      refine aw_iast dX7_starts_54 eh11 ?_
      refine aw_iload_n 1 dX7_starts_55 rfl rfl ?_
      have hq := Option.some.inj hf
      subst hq
      exact aw_iret hr dX7_starts_56 ⟨rfl, rfl, rfl⟩
    · have hf := i_pos c8 hf
      exact aw_sub [2] rfl (c_X7_starts_36 hr hf)
theorem k_X7_starts {l0 : Nat} {h0 : Hp} {q : Int32 × Hp} (hf : f_X7_starts l0 h0 = some q) : ck h0 l0 7 = some () := by
  unfold f_X7_starts at hf
  obtain ⟨u0, e0, hf⟩ := b_some hf
  exact e0
theorem dX7_system_0 : decode cX7_system 0 = .ok (.iload_n 1, 1) := by decide +kernel
theorem dX7_system_1 : decode cX7_system 1 = .ok (.i2l, 1) := by decide +kernel
theorem dX7_system_2 : decode cX7_system 2 = .ok (.lconst 0, 1) := by decide +kernel
theorem dX7_system_3 : decode cX7_system 3 = .ok (.ldc2_w 200, 3) := by decide +kernel
theorem dX7_system_6 : decode cX7_system 6 = .ok (.invokestatic 43, 3) := by decide +kernel
theorem dX7_system_9 : decode cX7_system 9 = .ok (.ifCond .ne 6, 3) := by decide +kernel
theorem dX7_system_12 : decode cX7_system 12 = .ok (.bipush (-2), 2) := by decide +kernel
theorem dX7_system_14 : decode cX7_system 14 = .ok (.ireturn, 1) := by decide +kernel
theorem dX7_system_15 : decode cX7_system 15 = .ok (.aload_n 0, 1) := by decide +kernel
theorem dX7_system_16 : decode cX7_system 16 = .ok (.getfield 9, 3) := by decide +kernel
theorem dX7_system_19 : decode cX7_system 19 = .ok (.iconst 2, 1) := by decide +kernel
theorem dX7_system_20 : decode cX7_system 20 = .ok (.iaload, 1) := by decide +kernel
theorem dX7_system_21 : decode cX7_system 21 = .ok (.istore_n 2, 1) := by decide +kernel
theorem dX7_system_22 : decode cX7_system 22 = .ok (.aload_n 0, 1) := by decide +kernel
theorem dX7_system_23 : decode cX7_system 23 = .ok (.getfield 9, 3) := by decide +kernel
theorem dX7_system_26 : decode cX7_system 26 = .ok (.iconst 2, 1) := by decide +kernel
theorem dX7_system_27 : decode cX7_system 27 = .ok (.iload_n 1, 1) := by decide +kernel
theorem dX7_system_28 : decode cX7_system 28 = .ok (.iastore, 1) := by decide +kernel
theorem dX7_system_29 : decode cX7_system 29 = .ok (.iload_n 2, 1) := by decide +kernel
theorem dX7_system_30 : decode cX7_system 30 = .ok (.ireturn, 1) := by decide +kernel
def f_X7_system (l0 : Nat) (l1 : Int32) (h0 : Hp) : Option (Int32 × Hp) :=
  (ck h0 l0 7).bind fun _ => (f_X7_in (Int32.toInt64 l1) (0 : Int64) (2 : Int64) h0).bind fun q1 => if q1.1 = 0 then (some ((-2 : Int32), q1.2)) else ((gR q1.2 l0 7 0).bind fun r3 => (aL q1.2 r3 (2 : Int32)).bind fun x4 => (gR q1.2 l0 7 0).bind fun r5 => (aS q1.2 r5 (2 : Int32) l1).bind fun h6 => some (x4, h6))
set_option maxRecDepth 100000 in
set_option maxHeartbeats 4000000 in
theorem c_X7_system {l0 : Nat} {l1 : Int32} {h0 : Hp} {q : Int32 × Hp} (hf : f_X7_system l0 l1 h0 = some q) : Mt 2 yX7_system cX7_system 3 (some .int) [.ref l0, .int l1] h0 (some (.int q.1)) q.2 := by
  refine MtQ.of (by decide) (Nat.le_of_ble_eq_true rfl) (fun X adr hr hn => ?_)
  unfold f_X7_system at hf
  show AW X cX7_system 3 RX7 (rmd 2 0 0) (Qmet X 0 0 (Qe (some (.int q.1)) q.2 adr)) 0 0 adr h0 0 [(0, .ref l0), (1, .int l1)] []
  obtain ⟨u0, e0, hf⟩ := b_some hf
  refine aw_iload_n 1 dX7_system_0 rfl rfl ?_
  refine aw_i2l dX7_system_1 ?_
  refine aw_lconst (v := 0) dX7_system_2 (by decide) ?_
  refine aw_ldc2 dX7_system_3 klX7_200 ?_
  obtain ⟨q1, eq1, hf⟩ := b_some hf
  refine aw_cS (as := [.long (Int32.toInt64 l1), .long (0 : Int64), .long (2 : Int64)]) dX7_system_6 moX7_in soX7_in mlX7_43 (rm_ok (by omega) (by decide)) ⟨Nat.le_refl _, Nat.le_refl _⟩ (Nat.le_of_ble_eq_true rfl) rfl (c_X7_in eq1) ?_
  refine aw_if_ne (tgt := 15) dX7_system_9 (by decide) (fun c2 => ?_) (fun c2 => ?_)
  · have hf := i_neg c2 hf
    refine aw_aload_n 0 dX7_system_15 rfl rfl ?_
    obtain ⟨r3, er3, hf⟩ := b_some hf
    refine aw_getR dX7_system_16 gfX7_9 er3 ?_
    refine aw_iconst (v := 2) dX7_system_19 (by decide) ?_
    obtain ⟨x4, ex4, hf⟩ := b_some hf
    refine aw_iald dX7_system_20 ex4 ?_
    refine aw_istore_n (L' := [(2, .int x4), (0, .ref l0), (1, .int l1)]) dX7_system_21 rfl (by decide) rfl ?_
    refine aw_aload_n 1 dX7_system_22 rfl rfl ?_
    obtain ⟨r5, er5, hf⟩ := b_some hf
    refine aw_getR dX7_system_23 gfX7_9 er5 ?_
    refine aw_iconst (v := 2) dX7_system_26 (by decide) ?_
    refine aw_iload_n 2 dX7_system_27 rfl rfl ?_
    obtain ⟨h6, eh6, hf⟩ := b_some hf
    refine aw_iast dX7_system_28 eh6 ?_
    refine aw_iload_n 0 dX7_system_29 rfl rfl ?_
    have hq := Option.some.inj hf
    subst hq
    exact aw_iret hr dX7_system_30 ⟨rfl, rfl, rfl⟩
  · have hf := i_pos c2 hf
    refine aw_bipush (v := -2) dX7_system_12 (by decide) ?_
    have hq := Option.some.inj hf
    subst hq
    exact aw_iret hr dX7_system_14 ⟨rfl, rfl, rfl⟩
theorem k_X7_system {l0 : Nat} {l1 : Int32} {h0 : Hp} {q : Int32 × Hp} (hf : f_X7_system l0 l1 h0 = some q) : ck h0 l0 7 = some () := by
  unfold f_X7_system at hf
  obtain ⟨u0, e0, hf⟩ := b_some hf
  exact e0
theorem dX7_tablesFrom_0 : decode cX7_tablesFrom 0 = .ok (.iload_n 1, 1) := by decide +kernel
theorem dX7_tablesFrom_1 : decode cX7_tablesFrom 1 = .ok (.aload_n 0, 1) := by decide +kernel
theorem dX7_tablesFrom_2 : decode cX7_tablesFrom 2 = .ok (.getfield 9, 3) := by decide +kernel
theorem dX7_tablesFrom_5 : decode cX7_tablesFrom 5 = .ok (.iconst 1, 1) := by decide +kernel
theorem dX7_tablesFrom_6 : decode cX7_tablesFrom 6 = .ok (.iaload, 1) := by decide +kernel
theorem dX7_tablesFrom_7 : decode cX7_tablesFrom 7 = .ok (.if_icmp .ne 8, 3) := by decide +kernel
theorem dX7_tablesFrom_10 : decode cX7_tablesFrom 10 = .ok (.aload_n 0, 1) := by decide +kernel
theorem dX7_tablesFrom_11 : decode cX7_tablesFrom 11 = .ok (.invokevirtual 235, 3) := by decide +kernel
theorem dX7_tablesFrom_14 : decode cX7_tablesFrom 14 = .ok (.return_, 1) := by decide +kernel
theorem dX7_tablesFrom_15 : decode cX7_tablesFrom 15 = .ok (.aload_n 0, 1) := by decide +kernel
theorem dX7_tablesFrom_16 : decode cX7_tablesFrom 16 = .ok (.getfield 16, 3) := by decide +kernel
theorem dX7_tablesFrom_19 : decode cX7_tablesFrom 19 = .ok (.iload_n 1, 1) := by decide +kernel
theorem dX7_tablesFrom_20 : decode cX7_tablesFrom 20 = .ok (.iaload, 1) := by decide +kernel
theorem dX7_tablesFrom_21 : decode cX7_tablesFrom 21 = .ok (.iconst (-1), 1) := by decide +kernel
theorem dX7_tablesFrom_22 : decode cX7_tablesFrom 22 = .ok (.if_icmp .eq 11, 3) := by decide +kernel
theorem dX7_tablesFrom_25 : decode cX7_tablesFrom 25 = .ok (.aload_n 0, 1) := by decide +kernel
theorem dX7_tablesFrom_26 : decode cX7_tablesFrom 26 = .ok (.iload_n 1, 1) := by decide +kernel
theorem dX7_tablesFrom_27 : decode cX7_tablesFrom 27 = .ok (.iconst 1, 1) := by decide +kernel
theorem dX7_tablesFrom_28 : decode cX7_tablesFrom 28 = .ok (.iadd, 1) := by decide +kernel
theorem dX7_tablesFrom_29 : decode cX7_tablesFrom 29 = .ok (.invokevirtual 238, 3) := by decide +kernel
theorem dX7_tablesFrom_32 : decode cX7_tablesFrom 32 = .ok (.return_, 1) := by decide +kernel
theorem dX7_tablesFrom_33 : decode cX7_tablesFrom 33 = .ok (.iconst 0, 1) := by decide +kernel
theorem dX7_tablesFrom_34 : decode cX7_tablesFrom 34 = .ok (.istore_n 2, 1) := by decide +kernel
theorem dX7_tablesFrom_35 : decode cX7_tablesFrom 35 = .ok (.iload_n 2, 1) := by decide +kernel
theorem dX7_tablesFrom_36 : decode cX7_tablesFrom 36 = .ok (.aload_n 0, 1) := by decide +kernel
theorem dX7_tablesFrom_37 : decode cX7_tablesFrom 37 = .ok (.invokevirtual 98, 3) := by decide +kernel
theorem dX7_tablesFrom_40 : decode cX7_tablesFrom 40 = .ok (.if_icmp .ge 36, 3) := by decide +kernel
theorem dX7_tablesFrom_43 : decode cX7_tablesFrom 43 = .ok (.aload_n 0, 1) := by decide +kernel
theorem dX7_tablesFrom_44 : decode cX7_tablesFrom 44 = .ok (.iload_n 1, 1) := by decide +kernel
theorem dX7_tablesFrom_45 : decode cX7_tablesFrom 45 = .ok (.iload_n 2, 1) := by decide +kernel
theorem dX7_tablesFrom_46 : decode cX7_tablesFrom 46 = .ok (.invokestatic 105, 3) := by decide +kernel
theorem dX7_tablesFrom_49 : decode cX7_tablesFrom 49 = .ok (.iconst 1, 1) := by decide +kernel
theorem dX7_tablesFrom_50 : decode cX7_tablesFrom 50 = .ok (.invokevirtual 54, 3) := by decide +kernel
theorem dX7_tablesFrom_53 : decode cX7_tablesFrom 53 = .ok (.aload_n 0, 1) := by decide +kernel
theorem dX7_tablesFrom_54 : decode cX7_tablesFrom 54 = .ok (.iload_n 1, 1) := by decide +kernel
theorem dX7_tablesFrom_55 : decode cX7_tablesFrom 55 = .ok (.iconst 1, 1) := by decide +kernel
theorem dX7_tablesFrom_56 : decode cX7_tablesFrom 56 = .ok (.iadd, 1) := by decide +kernel
theorem dX7_tablesFrom_57 : decode cX7_tablesFrom 57 = .ok (.invokevirtual 238, 3) := by decide +kernel
theorem dX7_tablesFrom_60 : decode cX7_tablesFrom 60 = .ok (.aload_n 0, 1) := by decide +kernel
theorem dX7_tablesFrom_61 : decode cX7_tablesFrom 61 = .ok (.iload_n 1, 1) := by decide +kernel
theorem dX7_tablesFrom_62 : decode cX7_tablesFrom 62 = .ok (.iload_n 2, 1) := by decide +kernel
theorem dX7_tablesFrom_63 : decode cX7_tablesFrom 63 = .ok (.invokestatic 105, 3) := by decide +kernel
theorem dX7_tablesFrom_66 : decode cX7_tablesFrom 66 = .ok (.iconst (-1), 1) := by decide +kernel
theorem dX7_tablesFrom_67 : decode cX7_tablesFrom 67 = .ok (.invokevirtual 54, 3) := by decide +kernel
theorem dX7_tablesFrom_70 : decode cX7_tablesFrom 70 = .ok (.iinc 2 1, 3) := by decide +kernel
theorem dX7_tablesFrom_73 : decode cX7_tablesFrom 73 = .ok (.goto (-38), 3) := by decide +kernel
theorem dX7_tablesFrom_76 : decode cX7_tablesFrom 76 = .ok (.return_, 1) := by decide +kernel
def f_X7_tablesFrom_35 (ks : Nat × Int32 → Hp → Option (Unit × Hp)) (k35 : Nat × Int32 × Int32 → Hp → Option (Unit × Hp)) (v : Nat × Int32 × Int32) (h0 : Hp) : Option (Unit × Hp) :=
  match v with
  | (l0, l1, l2) => (f_X7_results l0 h0).bind fun q1 => if q1.1 ≤ l2 then (some ((), q1.2)) else ((f_X7_resultAt l2 q1.2).bind fun q3 => (f_X7_brings l0 l1 q3.1 (1 : Int32) q3.2).bind fun q4 => (ck q4.2 l0 7).bind fun u6 => (ks (l0, (l1 + (1 : Int32))) q4.2).bind fun q5 => (f_X7_resultAt l2 q5.2).bind fun q7 => (f_X7_brings l0 l1 q7.1 (-1 : Int32) q7.2).bind fun q8 => (some (l2 + 1)).bind fun x9 => k35 (l0, l1, x9) q8.2)
set_option maxRecDepth 100000 in
set_option maxHeartbeats 4000000 in
theorem c_X7_tablesFrom_35 {X : Cx} {adr : Nat → Nat} {q : Unit × Hp} {d : Nat} (hdd : 2 ≤ d) {ks : Nat × Int32 → Hp → Option (Unit × Hp)} (hks : ∀ a h p, ks a h = some p → Mt d yX7_tablesFrom cX7_tablesFrom 3 none [.ref a.1, .int a.2] h none p.2) (hr : (mth X).sig.returnType = none) (n : Nat) : ∀ v h0, lp (f_X7_tablesFrom_35 ks) n v h0 = some q → AW X cX7_tablesFrom 3 RX7 (rmd (d + 1) 0 0) (Qmet X 0 0 (Qe none q.2 adr)) 0 0 adr h0 35 [(0, .ref v.1), (1, .int v.2.1), (2, .int v.2.2)] [] := by
  refine aw_lp (fun k35 hk35 v h0 hf => ?_) n
  obtain ⟨l0, l1, l2⟩ := v
  unfold f_X7_tablesFrom_35 at hf
  dsimp only at hf
  show AW X cX7_tablesFrom 3 RX7 (rmd (d + 1) 0 0) (Qmet X 0 0 (Qe none q.2 adr)) 0 0 adr h0 35 [(0, .ref l0), (1, .int l1), (2, .int l2)] []
  refine aw_iload_n 2 dX7_tablesFrom_35 rfl rfl ?_
  refine aw_aload_n 0 dX7_tablesFrom_36 rfl rfl ?_
  obtain ⟨q1, eq1, hf⟩ := b_some hf
  refine aw_cV (as := []) dX7_tablesFrom_37 moX7_results voX7_results mlX7_98 (k_X7_results eq1) rfl (rm_ok (by omega) (by decide)) ⟨Nat.le_refl _, Nat.le_refl _⟩ (Nat.le_of_ble_eq_true rfl) rfl (c_X7_results eq1) ?_
  refine aw_icmp_ge (tgt := 76) dX7_tablesFrom_40 (by decide) (fun c2 => ?_) (fun c2 => ?_)
  · have hf := i_pos c2 hf
    have hq := Option.some.inj hf
    subst hq
    exact aw_vret hr dX7_tablesFrom_76 ⟨rfl, rfl, rfl⟩
  · have hf := i_neg c2 hf
    refine aw_aload_n 0 dX7_tablesFrom_43 rfl rfl ?_
    refine aw_iload_n 1 dX7_tablesFrom_44 rfl rfl ?_
    refine aw_iload_n 2 dX7_tablesFrom_45 rfl rfl ?_
    obtain ⟨q3, eq3, hf⟩ := b_some hf
    refine aw_cS (as := [.int l2]) dX7_tablesFrom_46 moX7_resultAt soX7_resultAt mlX7_105 (rm_ok (by omega) (by decide)) ⟨Nat.le_refl _, Nat.le_refl _⟩ (Nat.le_of_ble_eq_true rfl) rfl (c_X7_resultAt eq3) ?_
    refine aw_iconst (v := 1) dX7_tablesFrom_49 (by decide) ?_
    obtain ⟨q4, eq4, hf⟩ := b_some hf
    refine aw_cV0 (as := [.int l1, .int q3.1, .int (1 : Int32)]) dX7_tablesFrom_50 moX7_brings voX7_brings mlX7_54 (k_X7_brings eq4) rfl (rm_ok (by omega) (by decide)) ⟨Nat.le_refl _, Nat.le_refl _⟩ (Nat.le_of_ble_eq_true rfl) rfl (c_X7_brings eq4) ?_
    refine aw_aload_n 0 dX7_tablesFrom_53 rfl rfl ?_
    refine aw_iload_n 1 dX7_tablesFrom_54 rfl rfl ?_
    refine aw_iconst (v := 1) dX7_tablesFrom_55 (by decide) ?_
    refine aw_iadd dX7_tablesFrom_56 ?_
    obtain ⟨u6, eu6, hf⟩ := b_some hf
    obtain ⟨q5, eq5, hf⟩ := b_some hf
    refine aw_cV0 (as := [.int (l1 + (1 : Int32))]) dX7_tablesFrom_57 moX7_tablesFrom voX7_tablesFrom mlX7_238 eu6 rfl (rm_ok (by omega) (by decide)) ⟨Nat.le_refl _, Nat.le_refl _⟩ (Nat.le_of_ble_eq_true rfl) rfl (hks _ _ _ eq5) ?_
    refine aw_aload_n 0 dX7_tablesFrom_60 rfl rfl ?_
    refine aw_iload_n 1 dX7_tablesFrom_61 rfl rfl ?_
    refine aw_iload_n 2 dX7_tablesFrom_62 rfl rfl ?_
    obtain ⟨q7, eq7, hf⟩ := b_some hf
    refine aw_cS (as := [.int l2]) dX7_tablesFrom_63 moX7_resultAt soX7_resultAt mlX7_105 (rm_ok (by omega) (by decide)) ⟨Nat.le_refl _, Nat.le_refl _⟩ (Nat.le_of_ble_eq_true rfl) rfl (c_X7_resultAt eq7) ?_
    refine aw_iconst (v := -1) dX7_tablesFrom_66 (by decide) ?_
    obtain ⟨q8, eq8, hf⟩ := b_some hf
    refine aw_cV0 (as := [.int l1, .int q7.1, .int (-1 : Int32)]) dX7_tablesFrom_67 moX7_brings voX7_brings mlX7_54 (k_X7_brings eq8) rfl (rm_ok (by omega) (by decide)) ⟨Nat.le_refl _, Nat.le_refl _⟩ (Nat.le_of_ble_eq_true rfl) rfl (c_X7_brings eq8) ?_
    obtain ⟨x9, ex9, hf⟩ := b_some hf
    refine aw_iinc (v := x9) (L' := [(2, .int x9), (0, .ref l0), (1, .int l1)]) 2 dX7_tablesFrom_70 rfl (Option.some.inj ex9) (by decide) rfl ?_
    refine aw_goto (tgt := 35) dX7_tablesFrom_73 (by decide) ?_
    exact aw_sub [1, 2, 0] rfl (hk35 _ _ hf)
def f_X7_tablesFrom_r (ks : Nat × Int32 → Hp → Option (Unit × Hp)) (l0 : Nat) (l1 : Int32) (h0 : Hp) : Option (Unit × Hp) :=
  (ck h0 l0 7).bind fun _ => (gR h0 l0 7 0).bind fun r1 => (aL h0 r1 (1 : Int32)).bind fun x2 => if l1 = x2 then ((f_X7_notesRow l0 h0).bind fun q9 => some ((), q9.2)) else ((gR h0 l0 7 3).bind fun r4 => (aL h0 r4 l1).bind fun x5 => if x5 = (-1 : Int32) then (lp (f_X7_tablesFrom_35 ks) 600 (l0, l1, (0 : Int32)) h0) else ((ck h0 l0 7).bind fun u8 => (ks (l0, (l1 + (1 : Int32))) h0).bind fun q7 => some ((), q7.2)))
set_option maxRecDepth 100000 in
set_option maxHeartbeats 4000000 in
theorem c_X7_tablesFrom_r {d : Nat} (hdd : 2 ≤ d) {ks : Nat × Int32 → Hp → Option (Unit × Hp)} (hks : ∀ a h p, ks a h = some p → Mt d yX7_tablesFrom cX7_tablesFrom 3 none [.ref a.1, .int a.2] h none p.2) {l0 : Nat} {l1 : Int32} {h0 : Hp} {q : Unit × Hp} (hf : f_X7_tablesFrom_r ks l0 l1 h0 = some q) : Mt (d + 1) yX7_tablesFrom cX7_tablesFrom 3 none [.ref l0, .int l1] h0 none q.2 := by
  refine MtQ.of (by decide) (Nat.le_of_ble_eq_true rfl) (fun X adr hr hn => ?_)
  unfold f_X7_tablesFrom_r at hf
  show AW X cX7_tablesFrom 3 RX7 (rmd (d + 1) 0 0) (Qmet X 0 0 (Qe none q.2 adr)) 0 0 adr h0 0 [(0, .ref l0), (1, .int l1)] []
  obtain ⟨u0, e0, hf⟩ := b_some hf
  refine aw_iload_n 1 dX7_tablesFrom_0 rfl rfl ?_
  refine aw_aload_n 0 dX7_tablesFrom_1 rfl rfl ?_
  obtain ⟨r1, er1, hf⟩ := b_some hf
  refine aw_getR dX7_tablesFrom_2 gfX7_9 er1 ?_
  refine aw_iconst (v := 1) dX7_tablesFrom_5 (by decide) ?_
  obtain ⟨x2, ex2, hf⟩ := b_some hf
  refine aw_iald dX7_tablesFrom_6 ex2 ?_
  refine aw_icmp_ne (tgt := 15) dX7_tablesFrom_7 (by decide) (fun c3 => ?_) (fun c3 => ?_)
  · have hf := i_neg c3 hf
    refine aw_aload_n 0 dX7_tablesFrom_15 rfl rfl ?_
    obtain ⟨r4, er4, hf⟩ := b_some hf
    refine aw_getR dX7_tablesFrom_16 gfX7_16 er4 ?_
    refine aw_iload_n 1 dX7_tablesFrom_19 rfl rfl ?_
    obtain ⟨x5, ex5, hf⟩ := b_some hf
    refine aw_iald dX7_tablesFrom_20 ex5 ?_
    refine aw_iconst (v := -1) dX7_tablesFrom_21 (by decide) ?_
    refine aw_icmp_eq (tgt := 33) dX7_tablesFrom_22 (by decide) (fun c6 => ?_) (fun c6 => ?_)
    · have hf := i_pos c6 hf
      refine aw_iconst (v := 0) dX7_tablesFrom_33 (by decide) ?_
      refine aw_istore_n (L' := [(2, .int (0 : Int32)), (0, .ref l0), (1, .int l1)]) dX7_tablesFrom_34 rfl (by decide) rfl ?_
      exact aw_sub [1, 2, 0] rfl (c_X7_tablesFrom_35 hdd hks hr 600 _ _ hf)
    · have hf := i_neg c6 hf
      refine aw_aload_n 0 dX7_tablesFrom_25 rfl rfl ?_
      refine aw_iload_n 1 dX7_tablesFrom_26 rfl rfl ?_
      refine aw_iconst (v := 1) dX7_tablesFrom_27 (by decide) ?_
      refine aw_iadd dX7_tablesFrom_28 ?_
      obtain ⟨u8, eu8, hf⟩ := b_some hf
      obtain ⟨q7, eq7, hf⟩ := b_some hf
      refine aw_cV0 (as := [.int (l1 + (1 : Int32))]) dX7_tablesFrom_29 moX7_tablesFrom voX7_tablesFrom mlX7_238 eu8 rfl (rm_ok (by omega) (by decide)) ⟨Nat.le_refl _, Nat.le_refl _⟩ (Nat.le_of_ble_eq_true rfl) rfl (hks _ _ _ eq7) ?_
      have hq := Option.some.inj hf
      subst hq
      exact aw_vret hr dX7_tablesFrom_32 ⟨rfl, rfl, rfl⟩
  · have hf := i_pos c3 hf
    refine aw_aload_n 0 dX7_tablesFrom_10 rfl rfl ?_
    obtain ⟨q9, eq9, hf⟩ := b_some hf
    refine aw_cV0 (as := []) dX7_tablesFrom_11 moX7_notesRow voX7_notesRow mlX7_235 (k_X7_notesRow eq9) rfl (rm_ok (by omega) (by decide)) ⟨Nat.le_refl _, Nat.le_refl _⟩ (Nat.le_of_ble_eq_true rfl) rfl (c_X7_notesRow eq9) ?_
    have hq := Option.some.inj hf
    subst hq
    exact aw_vret hr dX7_tablesFrom_14 ⟨rfl, rfl, rfl⟩
def f_X7_tablesFrom (n : Nat) (l0 : Nat) (l1 : Int32) (h0 : Hp) : Option (Unit × Hp) := lp (fun ks a h => f_X7_tablesFrom_r ks a.1 a.2 h) n (l0, l1) h0
theorem c_X7_tablesFrom_l : ∀ (n : Nat) (a : Nat × Int32) (h : Hp) (p : Unit × Hp), lp (fun ks a h => f_X7_tablesFrom_r ks a.1 a.2 h) n a h = some p → Mt (2 + 1 * n) yX7_tablesFrom cX7_tablesFrom 3 none [.ref a.1, .int a.2] h none p.2
  | 0, _, _, _, hf => by cases hf
  | n + 1, a, h, p, hf => c_X7_tablesFrom_r (d := 2 + 1 * n) (Nat.le_add_right _ _) (c_X7_tablesFrom_l n) hf
theorem c_X7_tablesFrom (n : Nat) {l0 : Nat} {l1 : Int32} {h0 : Hp} {q : Unit × Hp} (hf : f_X7_tablesFrom n l0 l1 h0 = some q) : Mt (2 + 1 * n) yX7_tablesFrom cX7_tablesFrom 3 none [.ref l0, .int l1] h0 none q.2 := c_X7_tablesFrom_l n _ h0 q hf
theorem k_X7_tablesFrom {n : Nat} {l0 : Nat} {l1 : Int32} {h0 : Hp} {q : Unit × Hp} (hf : f_X7_tablesFrom n l0 l1 h0 = some q) : ck h0 l0 7 = some () := by
  cases n with
  | zero => cases hf
  | succ n =>
    obtain ⟨u0, e0, hf⟩ := b_some (show (ck h0 l0 7).bind _ = some q from hf)
    exact e0
theorem dX7_tables_0 : decode cX7_tables 0 = .ok (.aload_n 0, 1) := by decide +kernel
theorem dX7_tables_1 : decode cX7_tables 1 = .ok (.invokevirtual 61, 3) := by decide +kernel
theorem dX7_tables_4 : decode cX7_tables 4 = .ok (.aload_n 0, 1) := by decide +kernel
theorem dX7_tables_5 : decode cX7_tables 5 = .ok (.invokevirtual 111, 3) := by decide +kernel
theorem dX7_tables_8 : decode cX7_tables 8 = .ok (.invokestatic 72, 3) := by decide +kernel
theorem dX7_tables_11 : decode cX7_tables 11 = .ok (.iconst 4, 1) := by decide +kernel
theorem dX7_tables_12 : decode cX7_tables 12 = .ok (.if_icmp .le 6, 3) := by decide +kernel
theorem dX7_tables_15 : decode cX7_tables 15 = .ok (.bipush (-6), 2) := by decide +kernel
theorem dX7_tables_17 : decode cX7_tables 17 = .ok (.ireturn, 1) := by decide +kernel
theorem dX7_tables_18 : decode cX7_tables 18 = .ok (.aload_n 0, 1) := by decide +kernel
theorem dX7_tables_19 : decode cX7_tables 19 = .ok (.iconst 0, 1) := by decide +kernel
theorem dX7_tables_20 : decode cX7_tables 20 = .ok (.putfield 232, 3) := by decide +kernel
theorem dX7_tables_23 : decode cX7_tables 23 = .ok (.aload_n 0, 1) := by decide +kernel
theorem dX7_tables_24 : decode cX7_tables 24 = .ok (.iconst 0, 1) := by decide +kernel
theorem dX7_tables_25 : decode cX7_tables 25 = .ok (.invokevirtual 238, 3) := by decide +kernel
theorem dX7_tables_28 : decode cX7_tables 28 = .ok (.aload_n 0, 1) := by decide +kernel
theorem dX7_tables_29 : decode cX7_tables 29 = .ok (.getfield 232, 3) := by decide +kernel
theorem dX7_tables_32 : decode cX7_tables 32 = .ok (.ireturn, 1) := by decide +kernel
def f_X7_tables (l0 : Nat) (h0 : Hp) : Option (Int32 × Hp) :=
  (ck h0 l0 7).bind fun _ => (f_X7_looks l0 h0).bind fun q1 => (f_X7_leftSet l0 q1.2).bind fun q2 => (f_X7_ones q2.1 q2.2).bind fun q3 => if q3.1 ≤ (4 : Int32) then ((pI q3.2 l0 7 17 (0 : Int32)).bind fun h5 => (f_X7_tablesFrom 12 l0 (0 : Int32) h5).bind fun q6 => (gI q6.2 l0 7 17).bind fun x7 => some (x7, q6.2)) else (some ((-6 : Int32), q3.2))
set_option maxRecDepth 100000 in
set_option maxHeartbeats 4000000 in
theorem c_X7_tables {l0 : Nat} {h0 : Hp} {q : Int32 × Hp} (hf : f_X7_tables l0 h0 = some q) : Mt 15 yX7_tables cX7_tables 1 (some .int) [.ref l0] h0 (some (.int q.1)) q.2 := by
  refine MtQ.of (by decide) (Nat.le_of_ble_eq_true rfl) (fun X adr hr hn => ?_)
  unfold f_X7_tables at hf
  show AW X cX7_tables 1 RX7 (rmd 15 0 0) (Qmet X 0 0 (Qe (some (.int q.1)) q.2 adr)) 0 0 adr h0 0 [(0, .ref l0)] []
  obtain ⟨u0, e0, hf⟩ := b_some hf
  refine aw_aload_n 0 dX7_tables_0 rfl rfl ?_
  obtain ⟨q1, eq1, hf⟩ := b_some hf
  refine aw_cV0 (as := []) dX7_tables_1 moX7_looks voX7_looks mlX7_61 (k_X7_looks eq1) rfl (rm_ok (by omega) (by decide)) ⟨Nat.le_refl _, Nat.le_refl _⟩ (Nat.le_of_ble_eq_true rfl) rfl (c_X7_looks eq1) ?_
  refine aw_aload_n 0 dX7_tables_4 rfl rfl ?_
  obtain ⟨q2, eq2, hf⟩ := b_some hf
  refine aw_cV (as := []) dX7_tables_5 moX7_leftSet voX7_leftSet mlX7_111 (k_X7_leftSet eq2) rfl (rm_ok (by omega) (by decide)) ⟨Nat.le_refl _, Nat.le_refl _⟩ (Nat.le_of_ble_eq_true rfl) rfl (c_X7_leftSet eq2) ?_
  obtain ⟨q3, eq3, hf⟩ := b_some hf
  refine aw_cS (as := [.int q2.1]) dX7_tables_8 moX7_ones soX7_ones mlX7_72 (rm_ok (by omega) (by decide)) ⟨Nat.le_refl _, Nat.le_refl _⟩ (Nat.le_of_ble_eq_true rfl) rfl (c_X7_ones eq3) ?_
  refine aw_iconst (v := 4) dX7_tables_11 (by decide) ?_
  refine aw_icmp_le (tgt := 18) dX7_tables_12 (by decide) (fun c4 => ?_) (fun c4 => ?_)
  · have hf := i_pos c4 hf
    refine aw_aload_n 0 dX7_tables_18 rfl rfl ?_
    refine aw_iconst (v := 0) dX7_tables_19 (by decide) ?_
    obtain ⟨h5, eh5, hf⟩ := b_some hf
    refine aw_putI dX7_tables_20 pfX7_232 eh5 ?_
    refine aw_aload_n 0 dX7_tables_23 rfl rfl ?_
    refine aw_iconst (v := 0) dX7_tables_24 (by decide) ?_
    obtain ⟨q6, eq6, hf⟩ := b_some hf
    refine aw_cV0 (as := [.int (0 : Int32)]) dX7_tables_25 moX7_tablesFrom voX7_tablesFrom mlX7_238 (k_X7_tablesFrom eq6) rfl (rm_ok (by omega) (by decide)) ⟨Nat.le_refl _, Nat.le_refl _⟩ (Nat.le_of_ble_eq_true rfl) rfl (c_X7_tablesFrom 12 eq6) ?_
    refine aw_aload_n 0 dX7_tables_28 rfl rfl ?_
    obtain ⟨x7, ex7, hf⟩ := b_some hf
    refine aw_getI dX7_tables_29 gfX7_232 ex7 ?_
    have hq := Option.some.inj hf
    subst hq
    exact aw_iret hr dX7_tables_32 ⟨rfl, rfl, rfl⟩
  · have hf := i_neg c4 hf
    refine aw_bipush (v := -6) dX7_tables_15 (by decide) ?_
    have hq := Option.some.inj hf
    subst hq
    exact aw_iret hr dX7_tables_17 ⟨rfl, rfl, rfl⟩
theorem k_X7_tables {l0 : Nat} {h0 : Hp} {q : Int32 × Hp} (hf : f_X7_tables l0 h0 = some q) : ck h0 l0 7 = some () := by
  unfold f_X7_tables at hf
  obtain ⟨u0, e0, hf⟩ := b_some hf
  exact e0
theorem dX7_taken_0 : decode cX7_taken 0 = .ok (.iload_n 1, 1) := by decide +kernel
theorem dX7_taken_1 : decode cX7_taken 1 = .ok (.i2l, 1) := by decide +kernel
theorem dX7_taken_2 : decode cX7_taken 2 = .ok (.lconst 0, 1) := by decide +kernel
theorem dX7_taken_3 : decode cX7_taken 3 = .ok (.ldc2_w 200, 3) := by decide +kernel
theorem dX7_taken_6 : decode cX7_taken 6 = .ok (.invokestatic 43, 3) := by decide +kernel
theorem dX7_taken_9 : decode cX7_taken 9 = .ok (.ifCond .ne 8, 3) := by decide +kernel
theorem dX7_taken_12 : decode cX7_taken 12 = .ok (.bipush (-2), 2) := by decide +kernel
theorem dX7_taken_14 : decode cX7_taken 14 = .ok (.goto 22, 3) := by decide +kernel
theorem dX7_taken_17 : decode cX7_taken 17 = .ok (.iload_n 1, 1) := by decide +kernel
theorem dX7_taken_18 : decode cX7_taken 18 = .ok (.aload_n 0, 1) := by decide +kernel
theorem dX7_taken_19 : decode cX7_taken 19 = .ok (.getfield 9, 3) := by decide +kernel
theorem dX7_taken_22 : decode cX7_taken 22 = .ok (.iconst 2, 1) := by decide +kernel
theorem dX7_taken_23 : decode cX7_taken 23 = .ok (.iaload, 1) := by decide +kernel
theorem dX7_taken_24 : decode cX7_taken 24 = .ok (.if_icmp .gt 10, 3) := by decide +kernel
theorem dX7_taken_27 : decode cX7_taken 27 = .ok (.aload_n 0, 1) := by decide +kernel
theorem dX7_taken_28 : decode cX7_taken 28 = .ok (.invokevirtual 47, 3) := by decide +kernel
theorem dX7_taken_31 : decode cX7_taken 31 = .ok (.goto 5, 3) := by decide +kernel
theorem dX7_taken_34 : decode cX7_taken 34 = .ok (.bipush (-13), 2) := by decide +kernel
theorem dX7_taken_36 : decode cX7_taken 36 = .ok (.ireturn, 1) := by decide +kernel
def f_X7_taken (l0 : Nat) (l1 : Int32) (h0 : Hp) : Option (Int32 × Hp) :=
  (ck h0 l0 7).bind fun _ => (f_X7_in (Int32.toInt64 l1) (0 : Int64) (2 : Int64) h0).bind fun q1 => if q1.1 = 0 then (some ((-2 : Int32), q1.2)) else ((gR q1.2 l0 7 0).bind fun r3 => (aL q1.2 r3 (2 : Int32)).bind fun x4 => if x4 < l1 then (some ((-13 : Int32), q1.2)) else ((f_X7_wonBrings l0 q1.2).bind fun q6 => some (q6.1, q6.2)))
set_option maxRecDepth 100000 in
set_option maxHeartbeats 4000000 in
theorem c_X7_taken {l0 : Nat} {l1 : Int32} {h0 : Hp} {q : Int32 × Hp} (hf : f_X7_taken l0 l1 h0 = some q) : Mt 2 yX7_taken cX7_taken 2 (some .int) [.ref l0, .int l1] h0 (some (.int q.1)) q.2 := by
  refine MtQ.of (by decide) (Nat.le_of_ble_eq_true rfl) (fun X adr hr hn => ?_)
  unfold f_X7_taken at hf
  show AW X cX7_taken 2 RX7 (rmd 2 0 0) (Qmet X 0 0 (Qe (some (.int q.1)) q.2 adr)) 0 0 adr h0 0 [(0, .ref l0), (1, .int l1)] []
  obtain ⟨u0, e0, hf⟩ := b_some hf
  refine aw_iload_n 1 dX7_taken_0 rfl rfl ?_
  refine aw_i2l dX7_taken_1 ?_
  refine aw_lconst (v := 0) dX7_taken_2 (by decide) ?_
  refine aw_ldc2 dX7_taken_3 klX7_200 ?_
  obtain ⟨q1, eq1, hf⟩ := b_some hf
  refine aw_cS (as := [.long (Int32.toInt64 l1), .long (0 : Int64), .long (2 : Int64)]) dX7_taken_6 moX7_in soX7_in mlX7_43 (rm_ok (by omega) (by decide)) ⟨Nat.le_refl _, Nat.le_refl _⟩ (Nat.le_of_ble_eq_true rfl) rfl (c_X7_in eq1) ?_
  refine aw_if_ne (tgt := 17) dX7_taken_9 (by decide) (fun c2 => ?_) (fun c2 => ?_)
  · have hf := i_neg c2 hf
    refine aw_iload_n 1 dX7_taken_17 rfl rfl ?_
    refine aw_aload_n 0 dX7_taken_18 rfl rfl ?_
    obtain ⟨r3, er3, hf⟩ := b_some hf
    refine aw_getR dX7_taken_19 gfX7_9 er3 ?_
    refine aw_iconst (v := 2) dX7_taken_22 (by decide) ?_
    obtain ⟨x4, ex4, hf⟩ := b_some hf
    refine aw_iald dX7_taken_23 ex4 ?_
    refine aw_icmp_gt (tgt := 34) dX7_taken_24 (by decide) (fun c5 => ?_) (fun c5 => ?_)
    · have hf := i_pos c5 hf
      refine aw_bipush (v := -13) dX7_taken_34 (by decide) ?_
      have hq := Option.some.inj hf
      subst hq
      exact aw_iret hr dX7_taken_36 ⟨rfl, rfl, rfl⟩
    · have hf := i_neg c5 hf
      refine aw_aload_n 0 dX7_taken_27 rfl rfl ?_
      obtain ⟨q6, eq6, hf⟩ := b_some hf
      refine aw_cV (as := []) dX7_taken_28 moX7_wonBrings voX7_wonBrings mlX7_47 (k_X7_wonBrings eq6) rfl (rm_ok (by omega) (by decide)) ⟨Nat.le_refl _, Nat.le_refl _⟩ (Nat.le_of_ble_eq_true rfl) rfl (c_X7_wonBrings eq6) ?_
      refine aw_goto (tgt := 36) dX7_taken_31 (by decide) ?_
      have hq := Option.some.inj hf
      subst hq
      exact aw_iret hr dX7_taken_36 ⟨rfl, rfl, rfl⟩
  · have hf := i_pos c2 hf
    refine aw_bipush (v := -2) dX7_taken_12 (by decide) ?_
    refine aw_goto (tgt := 36) dX7_taken_14 (by decide) ?_
    have hq := Option.some.inj hf
    subst hq
    exact aw_iret hr dX7_taken_36 ⟨rfl, rfl, rfl⟩
theorem k_X7_taken {l0 : Nat} {l1 : Int32} {h0 : Hp} {q : Int32 × Hp} (hf : f_X7_taken l0 l1 h0 = some q) : ck h0 l0 7 = some () := by
  unfold f_X7_taken at hf
  obtain ⟨u0, e0, hf⟩ := b_some hf
  exact e0
theorem dX7_tells_0 : decode cX7_tells 0 = .ok (.iload_n 1, 1) := by decide +kernel
theorem dX7_tells_1 : decode cX7_tells 1 = .ok (.invokestatic 253, 3) := by decide +kernel
theorem dX7_tells_4 : decode cX7_tells 4 = .ok (.ifCond .eq 13, 3) := by decide +kernel
theorem dX7_tells_7 : decode cX7_tells 7 = .ok (.iload_n 2, 1) := by decide +kernel
theorem dX7_tells_8 : decode cX7_tells 8 = .ok (.i2l, 1) := by decide +kernel
theorem dX7_tells_9 : decode cX7_tells 9 = .ok (.lconst 0, 1) := by decide +kernel
theorem dX7_tells_10 : decode cX7_tells 10 = .ok (.lconst 1, 1) := by decide +kernel
theorem dX7_tells_11 : decode cX7_tells 11 = .ok (.invokestatic 43, 3) := by decide +kernel
theorem dX7_tells_14 : decode cX7_tells 14 = .ok (.ifCond .ne 6, 3) := by decide +kernel
theorem dX7_tells_17 : decode cX7_tells 17 = .ok (.bipush (-2), 2) := by decide +kernel
theorem dX7_tells_19 : decode cX7_tells 19 = .ok (.ireturn, 1) := by decide +kernel
theorem dX7_tells_20 : decode cX7_tells 20 = .ok (.aload_n 0, 1) := by decide +kernel
theorem dX7_tells_21 : decode cX7_tells 21 = .ok (.getfield 34, 3) := by decide +kernel
theorem dX7_tells_24 : decode cX7_tells 24 = .ok (.iload_n 1, 1) := by decide +kernel
theorem dX7_tells_25 : decode cX7_tells 25 = .ok (.iaload, 1) := by decide +kernel
theorem dX7_tells_26 : decode cX7_tells 26 = .ok (.ifCond .ge 6, 3) := by decide +kernel
theorem dX7_tells_29 : decode cX7_tells 29 = .ok (.bipush (-11), 2) := by decide +kernel
theorem dX7_tells_31 : decode cX7_tells 31 = .ok (.ireturn, 1) := by decide +kernel
theorem dX7_tells_32 : decode cX7_tells 32 = .ok (.aload_n 0, 1) := by decide +kernel
theorem dX7_tells_33 : decode cX7_tells 33 = .ok (.getfield 37, 3) := by decide +kernel
theorem dX7_tells_36 : decode cX7_tells 36 = .ok (.iload_n 1, 1) := by decide +kernel
theorem dX7_tells_37 : decode cX7_tells 37 = .ok (.iaload, 1) := by decide +kernel
theorem dX7_tells_38 : decode cX7_tells 38 = .ok (.aload_n 0, 1) := by decide +kernel
theorem dX7_tells_39 : decode cX7_tells 39 = .ok (.getfield 9, 3) := by decide +kernel
theorem dX7_tells_42 : decode cX7_tells 42 = .ok (.iconst 0, 1) := by decide +kernel
theorem dX7_tells_43 : decode cX7_tells 43 = .ok (.iaload, 1) := by decide +kernel
theorem dX7_tells_44 : decode cX7_tells 44 = .ok (.if_icmp .le 6, 3) := by decide +kernel
theorem dX7_tells_47 : decode cX7_tells 47 = .ok (.bipush (-2), 2) := by decide +kernel
theorem dX7_tells_49 : decode cX7_tells 49 = .ok (.ireturn, 1) := by decide +kernel
theorem dX7_tells_50 : decode cX7_tells 50 = .ok (.iload_n 2, 1) := by decide +kernel
theorem dX7_tells_51 : decode cX7_tells 51 = .ok (.iconst 1, 1) := by decide +kernel
theorem dX7_tells_52 : decode cX7_tells 52 = .ok (.if_icmp .ne 9, 3) := by decide +kernel
theorem dX7_tells_55 : decode cX7_tells 55 = .ok (.aload_n 0, 1) := by decide +kernel
theorem dX7_tells_56 : decode cX7_tells 56 = .ok (.iload_n 1, 1) := by decide +kernel
theorem dX7_tells_57 : decode cX7_tells 57 = .ok (.invokevirtual 256, 3) := by decide +kernel
theorem dX7_tells_60 : decode cX7_tells 60 = .ok (.ireturn, 1) := by decide +kernel
theorem dX7_tells_61 : decode cX7_tells 61 = .ok (.aload_n 0, 1) := by decide +kernel
theorem dX7_tells_62 : decode cX7_tells 62 = .ok (.invokevirtual 61, 3) := by decide +kernel
theorem dX7_tells_65 : decode cX7_tells 65 = .ok (.aload_n 0, 1) := by decide +kernel
theorem dX7_tells_66 : decode cX7_tells 66 = .ok (.invokevirtual 111, 3) := by decide +kernel
theorem dX7_tells_69 : decode cX7_tells 69 = .ok (.invokestatic 72, 3) := by decide +kernel
theorem dX7_tells_72 : decode cX7_tells 72 = .ok (.bipush 6, 2) := by decide +kernel
theorem dX7_tells_74 : decode cX7_tells 74 = .ok (.if_icmp .le 8, 3) := by decide +kernel
theorem dX7_tells_77 : decode cX7_tells 77 = .ok (.bipush (-6), 2) := by decide +kernel
theorem dX7_tells_79 : decode cX7_tells 79 = .ok (.goto 9, 3) := by decide +kernel
theorem dX7_tells_82 : decode cX7_tells 82 = .ok (.aload_n 0, 1) := by decide +kernel
theorem dX7_tells_83 : decode cX7_tells 83 = .ok (.iload_n 1, 1) := by decide +kernel
theorem dX7_tells_84 : decode cX7_tells 84 = .ok (.iconst 0, 1) := by decide +kernel
theorem dX7_tells_85 : decode cX7_tells 85 = .ok (.invokevirtual 250, 3) := by decide +kernel
theorem dX7_tells_88 : decode cX7_tells 88 = .ok (.ireturn, 1) := by decide +kernel
def f_X7_tells (l0 : Nat) (l1 : Int32) (l2 : Int32) (h0 : Hp) : Option (Int32 × Hp) :=
  (ck h0 l0 7).bind fun _ => (f_X7_isSheet l1 h0).bind fun q1 => if q1.1 = 0 then (some ((-2 : Int32), q1.2)) else ((f_X7_in (Int32.toInt64 l2) (0 : Int64) (1 : Int64) q1.2).bind fun q3 => if q3.1 = 0 then (some ((-2 : Int32), q3.2)) else ((gR q3.2 l0 7 18).bind fun r5 => (aL q3.2 r5 l1).bind fun x6 => if 0 ≤ x6 then ((gR q3.2 l0 7 19).bind fun r8 => (aL q3.2 r8 l1).bind fun x9 => (gR q3.2 l0 7 0).bind fun r10 => (aL q3.2 r10 (0 : Int32)).bind fun x11 => if x9 ≤ x11 then (if l2 = (1 : Int32) then ((f_X7_firstTold l0 l1 q3.2).bind fun q19 => some (q19.1, q19.2)) else ((f_X7_looks l0 q3.2).bind fun q14 => (f_X7_leftSet l0 q14.2).bind fun q15 => (f_X7_ones q15.1 q15.2).bind fun q16 => if q16.1 ≤ (6 : Int32) then ((f_X7_runsSo 12 l0 l1 (0 : Int32) q16.2).bind fun q18 => some (q18.1, q18.2)) else (some ((-6 : Int32), q16.2)))) else (some ((-2 : Int32), q3.2))) else (some ((-11 : Int32), q3.2))))
set_option maxRecDepth 100000 in
set_option maxHeartbeats 4000000 in
theorem c_X7_tells {l0 : Nat} {l1 : Int32} {l2 : Int32} {h0 : Hp} {q : Int32 × Hp} (hf : f_X7_tells l0 l1 l2 h0 = some q) : Mt 15 yX7_tells cX7_tells 3 (some .int) [.ref l0, .int l1, .int l2] h0 (some (.int q.1)) q.2 := by
  refine MtQ.of (by decide) (Nat.le_of_ble_eq_true rfl) (fun X adr hr hn => ?_)
  unfold f_X7_tells at hf
  show AW X cX7_tells 3 RX7 (rmd 15 0 0) (Qmet X 0 0 (Qe (some (.int q.1)) q.2 adr)) 0 0 adr h0 0 [(0, .ref l0), (1, .int l1), (2, .int l2)] []
  obtain ⟨u0, e0, hf⟩ := b_some hf
  refine aw_iload_n 1 dX7_tells_0 rfl rfl ?_
  obtain ⟨q1, eq1, hf⟩ := b_some hf
  refine aw_cS (as := [.int l1]) dX7_tells_1 moX7_isSheet soX7_isSheet mlX7_253 (rm_ok (by omega) (by decide)) ⟨Nat.le_refl _, Nat.le_refl _⟩ (Nat.le_of_ble_eq_true rfl) rfl (c_X7_isSheet eq1) ?_
  refine aw_if_eq (tgt := 17) dX7_tells_4 (by decide) (fun c2 => ?_) (fun c2 => ?_)
  · have hf := i_pos c2 hf
    refine aw_bipush (v := -2) dX7_tells_17 (by decide) ?_
    have hq := Option.some.inj hf
    subst hq
    exact aw_iret hr dX7_tells_19 ⟨rfl, rfl, rfl⟩
  · have hf := i_neg c2 hf
    refine aw_iload_n 2 dX7_tells_7 rfl rfl ?_
    refine aw_i2l dX7_tells_8 ?_
    refine aw_lconst (v := 0) dX7_tells_9 (by decide) ?_
    refine aw_lconst (v := 1) dX7_tells_10 (by decide) ?_
    obtain ⟨q3, eq3, hf⟩ := b_some hf
    refine aw_cS (as := [.long (Int32.toInt64 l2), .long (0 : Int64), .long (1 : Int64)]) dX7_tells_11 moX7_in soX7_in mlX7_43 (rm_ok (by omega) (by decide)) ⟨Nat.le_refl _, Nat.le_refl _⟩ (Nat.le_of_ble_eq_true rfl) rfl (c_X7_in eq3) ?_
    refine aw_if_ne (tgt := 20) dX7_tells_14 (by decide) (fun c4 => ?_) (fun c4 => ?_)
    · have hf := i_neg c4 hf
      refine aw_aload_n 0 dX7_tells_20 rfl rfl ?_
      obtain ⟨r5, er5, hf⟩ := b_some hf
      refine aw_getR dX7_tells_21 gfX7_34 er5 ?_
      refine aw_iload_n 1 dX7_tells_24 rfl rfl ?_
      obtain ⟨x6, ex6, hf⟩ := b_some hf
      refine aw_iald dX7_tells_25 ex6 ?_
      refine aw_if_ge (tgt := 32) dX7_tells_26 (by decide) (fun c7 => ?_) (fun c7 => ?_)
      · have hf := i_pos c7 hf
        refine aw_aload_n 0 dX7_tells_32 rfl rfl ?_
        obtain ⟨r8, er8, hf⟩ := b_some hf
        refine aw_getR dX7_tells_33 gfX7_37 er8 ?_
        refine aw_iload_n 1 dX7_tells_36 rfl rfl ?_
        obtain ⟨x9, ex9, hf⟩ := b_some hf
        refine aw_iald dX7_tells_37 ex9 ?_
        refine aw_aload_n 0 dX7_tells_38 rfl rfl ?_
        obtain ⟨r10, er10, hf⟩ := b_some hf
        refine aw_getR dX7_tells_39 gfX7_9 er10 ?_
        refine aw_iconst (v := 0) dX7_tells_42 (by decide) ?_
        obtain ⟨x11, ex11, hf⟩ := b_some hf
        refine aw_iald dX7_tells_43 ex11 ?_
        refine aw_icmp_le (tgt := 50) dX7_tells_44 (by decide) (fun c12 => ?_) (fun c12 => ?_)
        · have hf := i_pos c12 hf
          refine aw_iload_n 2 dX7_tells_50 rfl rfl ?_
          refine aw_iconst (v := 1) dX7_tells_51 (by decide) ?_
          refine aw_icmp_ne (tgt := 61) dX7_tells_52 (by decide) (fun c13 => ?_) (fun c13 => ?_)
          · have hf := i_neg c13 hf
            refine aw_aload_n 0 dX7_tells_61 rfl rfl ?_
            obtain ⟨q14, eq14, hf⟩ := b_some hf
            refine aw_cV0 (as := []) dX7_tells_62 moX7_looks voX7_looks mlX7_61 (k_X7_looks eq14) rfl (rm_ok (by omega) (by decide)) ⟨Nat.le_refl _, Nat.le_refl _⟩ (Nat.le_of_ble_eq_true rfl) rfl (c_X7_looks eq14) ?_
            refine aw_aload_n 0 dX7_tells_65 rfl rfl ?_
            obtain ⟨q15, eq15, hf⟩ := b_some hf
            refine aw_cV (as := []) dX7_tells_66 moX7_leftSet voX7_leftSet mlX7_111 (k_X7_leftSet eq15) rfl (rm_ok (by omega) (by decide)) ⟨Nat.le_refl _, Nat.le_refl _⟩ (Nat.le_of_ble_eq_true rfl) rfl (c_X7_leftSet eq15) ?_
            obtain ⟨q16, eq16, hf⟩ := b_some hf
            refine aw_cS (as := [.int q15.1]) dX7_tells_69 moX7_ones soX7_ones mlX7_72 (rm_ok (by omega) (by decide)) ⟨Nat.le_refl _, Nat.le_refl _⟩ (Nat.le_of_ble_eq_true rfl) rfl (c_X7_ones eq16) ?_
            refine aw_bipush (v := 6) dX7_tells_72 (by decide) ?_
            refine aw_icmp_le (tgt := 82) dX7_tells_74 (by decide) (fun c17 => ?_) (fun c17 => ?_)
            · have hf := i_pos c17 hf
              refine aw_aload_n 0 dX7_tells_82 rfl rfl ?_
              refine aw_iload_n 1 dX7_tells_83 rfl rfl ?_
              refine aw_iconst (v := 0) dX7_tells_84 (by decide) ?_
              obtain ⟨q18, eq18, hf⟩ := b_some hf
              refine aw_cV (as := [.int l1, .int (0 : Int32)]) dX7_tells_85 moX7_runsSo voX7_runsSo mlX7_250 (k_X7_runsSo eq18) rfl (rm_ok (by omega) (by decide)) ⟨Nat.le_refl _, Nat.le_refl _⟩ (Nat.le_of_ble_eq_true rfl) rfl (c_X7_runsSo 12 eq18) ?_
              have hq := Option.some.inj hf
              subst hq
              exact aw_iret hr dX7_tells_88 ⟨rfl, rfl, rfl⟩
            · have hf := i_neg c17 hf
              refine aw_bipush (v := -6) dX7_tells_77 (by decide) ?_
              refine aw_goto (tgt := 88) dX7_tells_79 (by decide) ?_
              have hq := Option.some.inj hf
              subst hq
              exact aw_iret hr dX7_tells_88 ⟨rfl, rfl, rfl⟩
          · have hf := i_pos c13 hf
            refine aw_aload_n 0 dX7_tells_55 rfl rfl ?_
            refine aw_iload_n 1 dX7_tells_56 rfl rfl ?_
            obtain ⟨q19, eq19, hf⟩ := b_some hf
            refine aw_cV (as := [.int l1]) dX7_tells_57 moX7_firstTold voX7_firstTold mlX7_256 (k_X7_firstTold eq19) rfl (rm_ok (by omega) (by decide)) ⟨Nat.le_refl _, Nat.le_refl _⟩ (Nat.le_of_ble_eq_true rfl) rfl (c_X7_firstTold eq19) ?_
            have hq := Option.some.inj hf
            subst hq
            exact aw_iret hr dX7_tells_60 ⟨rfl, rfl, rfl⟩
        · have hf := i_neg c12 hf
          refine aw_bipush (v := -2) dX7_tells_47 (by decide) ?_
          have hq := Option.some.inj hf
          subst hq
          exact aw_iret hr dX7_tells_49 ⟨rfl, rfl, rfl⟩
      · have hf := i_neg c7 hf
        refine aw_bipush (v := -11) dX7_tells_29 (by decide) ?_
        have hq := Option.some.inj hf
        subst hq
        exact aw_iret hr dX7_tells_31 ⟨rfl, rfl, rfl⟩
    · have hf := i_pos c4 hf
      refine aw_bipush (v := -2) dX7_tells_17 (by decide) ?_
      have hq := Option.some.inj hf
      subst hq
      exact aw_iret hr dX7_tells_19 ⟨rfl, rfl, rfl⟩
theorem k_X7_tells {l0 : Nat} {l1 : Int32} {l2 : Int32} {h0 : Hp} {q : Int32 × Hp} (hf : f_X7_tells l0 l1 l2 h0 = some q) : ck h0 l0 7 = some () := by
  unfold f_X7_tells at hf
  obtain ⟨u0, e0, hf⟩ := b_some hf
  exact e0
