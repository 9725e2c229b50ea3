theorem dX7_brings_0 : decode cX7_brings 0 = .ok (.aload_n 0, 1) := by decide +kernel
theorem dX7_brings_1 : decode cX7_brings 1 = .ok (.getfield 9, 3) := by decide +kernel
theorem dX7_brings_4 : decode cX7_brings 4 = .ok (.bipush 51, 2) := by decide +kernel
theorem dX7_brings_6 : decode cX7_brings 6 = .ok (.iload_n 1, 1) := by decide +kernel
theorem dX7_brings_7 : decode cX7_brings 7 = .ok (.iadd, 1) := by decide +kernel
theorem dX7_brings_8 : decode cX7_brings 8 = .ok (.iaload, 1) := by decide +kernel
theorem dX7_brings_9 : decode cX7_brings 9 = .ok (.istore 4, 2) := by decide +kernel
theorem dX7_brings_11 : decode cX7_brings 11 = .ok (.aload_n 0, 1) := by decide +kernel
theorem dX7_brings_12 : decode cX7_brings 12 = .ok (.getfield 9, 3) := by decide +kernel
theorem dX7_brings_15 : decode cX7_brings 15 = .ok (.bipush 60, 2) := by decide +kernel
theorem dX7_brings_17 : decode cX7_brings 17 = .ok (.iload_n 1, 1) := by decide +kernel
theorem dX7_brings_18 : decode cX7_brings 18 = .ok (.iadd, 1) := by decide +kernel
theorem dX7_brings_19 : decode cX7_brings 19 = .ok (.iaload, 1) := by decide +kernel
theorem dX7_brings_20 : decode cX7_brings 20 = .ok (.istore 5, 2) := by decide +kernel
theorem dX7_brings_22 : decode cX7_brings 22 = .ok (.aload_n 0, 1) := by decide +kernel
theorem dX7_brings_23 : decode cX7_brings 23 = .ok (.getfield 19, 3) := by decide +kernel
theorem dX7_brings_26 : decode cX7_brings 26 = .ok (.iload 4, 2) := by decide +kernel
theorem dX7_brings_28 : decode cX7_brings 28 = .ok (.dup2, 1) := by decide +kernel
theorem dX7_brings_29 : decode cX7_brings 29 = .ok (.iaload, 1) := by decide +kernel
theorem dX7_brings_30 : decode cX7_brings 30 = .ok (.iload_n 3, 1) := by decide +kernel
theorem dX7_brings_31 : decode cX7_brings 31 = .ok (.iload_n 2, 1) := by decide +kernel
theorem dX7_brings_32 : decode cX7_brings 32 = .ok (.iconst 1, 1) := by decide +kernel
theorem dX7_brings_33 : decode cX7_brings 33 = .ok (.if_icmp .ne 10, 3) := by decide +kernel
theorem dX7_brings_36 : decode cX7_brings 36 = .ok (.aload_n 0, 1) := by decide +kernel
theorem dX7_brings_37 : decode cX7_brings 37 = .ok (.invokevirtual 47, 3) := by decide +kernel
theorem dX7_brings_40 : decode cX7_brings 40 = .ok (.goto 15, 3) := by decide +kernel
theorem dX7_brings_43 : decode cX7_brings 43 = .ok (.iload_n 2, 1) := by decide +kernel
theorem dX7_brings_44 : decode cX7_brings 44 = .ok (.ifCond .ne 10, 3) := by decide +kernel
theorem dX7_brings_47 : decode cX7_brings 47 = .ok (.aload_n 0, 1) := by decide +kernel
theorem dX7_brings_48 : decode cX7_brings 48 = .ok (.invokevirtual 51, 3) := by decide +kernel
theorem dX7_brings_51 : decode cX7_brings 51 = .ok (.goto 4, 3) := by decide +kernel
theorem dX7_brings_54 : decode cX7_brings 54 = .ok (.iconst 0, 1) := by decide +kernel
theorem dX7_brings_55 : decode cX7_brings 55 = .ok (.imul, 1) := by decide +kernel
theorem dX7_brings_56 : decode cX7_brings 56 = .ok (.iadd, 1) := by decide +kernel
theorem dX7_brings_57 : decode cX7_brings 57 = .ok (.iastore, 1) := by decide +kernel
theorem dX7_brings_58 : decode cX7_brings 58 = .ok (.aload_n 0, 1) := by decide +kernel
theorem dX7_brings_59 : decode cX7_brings 59 = .ok (.getfield 19, 3) := by decide +kernel
theorem dX7_brings_62 : decode cX7_brings 62 = .ok (.iload 5, 2) := by decide +kernel
theorem dX7_brings_64 : decode cX7_brings 64 = .ok (.dup2, 1) := by decide +kernel
theorem dX7_brings_65 : decode cX7_brings 65 = .ok (.iaload, 1) := by decide +kernel
theorem dX7_brings_66 : decode cX7_brings 66 = .ok (.iload_n 3, 1) := by decide +kernel
theorem dX7_brings_67 : decode cX7_brings 67 = .ok (.iload_n 2, 1) := by decide +kernel
theorem dX7_brings_68 : decode cX7_brings 68 = .ok (.iconst 2, 1) := by decide +kernel
theorem dX7_brings_69 : decode cX7_brings 69 = .ok (.if_icmp .ne 10, 3) := by decide +kernel
theorem dX7_brings_72 : decode cX7_brings 72 = .ok (.aload_n 0, 1) := by decide +kernel
theorem dX7_brings_73 : decode cX7_brings 73 = .ok (.invokevirtual 47, 3) := by decide +kernel
theorem dX7_brings_76 : decode cX7_brings 76 = .ok (.goto 15, 3) := by decide +kernel
theorem dX7_brings_79 : decode cX7_brings 79 = .ok (.iload_n 2, 1) := by decide +kernel
theorem dX7_brings_80 : decode cX7_brings 80 = .ok (.ifCond .ne 10, 3) := by decide +kernel
theorem dX7_brings_83 : decode cX7_brings 83 = .ok (.aload_n 0, 1) := by decide +kernel
theorem dX7_brings_84 : decode cX7_brings 84 = .ok (.invokevirtual 51, 3) := by decide +kernel
theorem dX7_brings_87 : decode cX7_brings 87 = .ok (.goto 4, 3) := by decide +kernel
theorem dX7_brings_90 : decode cX7_brings 90 = .ok (.iconst 0, 1) := by decide +kernel
theorem dX7_brings_91 : decode cX7_brings 91 = .ok (.imul, 1) := by decide +kernel
theorem dX7_brings_92 : decode cX7_brings 92 = .ok (.iadd, 1) := by decide +kernel
theorem dX7_brings_93 : decode cX7_brings 93 = .ok (.iastore, 1) := by decide +kernel
theorem dX7_brings_94 : decode cX7_brings 94 = .ok (.return_, 1) := by decide +kernel
def f_X7_brings_91 (s0 : Int32) (s1 : Int32) (s2 : Int32) (s3 : Int32) (s4 : Nat) (h0 : Hp) : Option (Unit × Hp) :=
  (aS h0 s4 s3 (s2 + (s1 * s0))).bind fun h1 => some ((), h1)
set_option maxRecDepth 100000 in
set_option maxHeartbeats 4000000 in
theorem c_X7_brings_91 {X : Cx} {adr : Nat → Nat} {q : Unit × Hp} (hr : (mth X).sig.returnType = none) {s0 : Int32} {s1 : Int32} {s2 : Int32} {s3 : Int32} {s4 : Nat} {h0 : Hp} (hf : f_X7_brings_91 s0 s1 s2 s3 s4 h0 = some q) : AW X cX7_brings 6 RX7 (rmd 2 0 0) (Qmet X 0 0 (Qe none q.2 adr)) 0 0 adr h0 91 [] [.int s0, .int s1, .int s2, .int s3, .ref s4] := by
  unfold f_X7_brings_91 at hf
  refine aw_imul dX7_brings_91 ?_
  refine aw_iadd dX7_brings_92 ?_
  obtain ⟨h1, eh1, hf⟩ := b_some hf
  refine aw_iast dX7_brings_93 eh1 ?_
  have hq := Option.some.inj hf
  subst hq
  exact aw_vret hr dX7_brings_94 ⟨rfl, rfl, rfl⟩
def f_X7_brings_55 (l0 : Nat) (l2 : Int32) (l3 : Int32) (l5 : Int32) (s0 : Int32) (s1 : Int32) (s2 : Int32) (s3 : Int32) (s4 : Nat) (h0 : Hp) : Option (Unit × Hp) :=
  (aS h0 s4 s3 (s2 + (s1 * s0))).bind fun h1 => (gR h1 l0 7 4).bind fun r2 => (aL h1 r2 l5).bind fun x3 => if l2 = (2 : Int32) then ((f_X7_wonBrings l0 h1).bind fun q7 => f_X7_brings_91 q7.1 l3 x3 l5 r2 q7.2) else (if l2 = 0 then ((f_X7_drawnBrings l0 h1).bind fun q6 => f_X7_brings_91 q6.1 l3 x3 l5 r2 q6.2) else (f_X7_brings_91 (0 : Int32) l3 x3 l5 r2 h1))
set_option maxRecDepth 100000 in
set_option maxHeartbeats 4000000 in
theorem c_X7_brings_55 {X : Cx} {adr : Nat → Nat} {q : Unit × Hp} (hr : (mth X).sig.returnType = none) {l0 : Nat} {l2 : Int32} {l3 : Int32} {l5 : Int32} {s0 : Int32} {s1 : Int32} {s2 : Int32} {s3 : Int32} {s4 : Nat} {h0 : Hp} (hf : f_X7_brings_55 l0 l2 l3 l5 s0 s1 s2 s3 s4 h0 = some q) : AW X cX7_brings 6 RX7 (rmd 2 0 0) (Qmet X 0 0 (Qe none q.2 adr)) 0 0 adr h0 55 [(0, .ref l0), (2, .int l2), (3, .int l3), (5, .int l5)] [.int s0, .int s1, .int s2, .int s3, .ref s4] := by
  unfold f_X7_brings_55 at hf
  refine aw_imul dX7_brings_55 ?_
  refine aw_iadd dX7_brings_56 ?_
  obtain ⟨h1, eh1, hf⟩ := b_some hf
  refine aw_iast dX7_brings_57 eh1 ?_
  refine aw_aload_n 0 dX7_brings_58 rfl rfl ?_
  obtain ⟨r2, er2, hf⟩ := b_some hf
  refine aw_getR dX7_brings_59 gfX7_19 er2 ?_
  refine aw_iload 3 dX7_brings_62 rfl ?_
  refine aw_dup2 dX7_brings_64 rfl rfl ?_
  obtain ⟨x3, ex3, hf⟩ := b_some hf
  refine aw_iald dX7_brings_65 ex3 ?_
  refine aw_iload_n 2 dX7_brings_66 rfl rfl ?_
  refine aw_iload_n 1 dX7_brings_67 rfl rfl ?_
  refine aw_iconst (v := 2) dX7_brings_68 (by decide) ?_
  refine aw_icmp_ne (tgt := 79) dX7_brings_69 (by decide) (fun c4 => ?_) (fun c4 => ?_)
  · have hf := i_neg c4 hf
    refine aw_iload_n 1 dX7_brings_79 rfl rfl ?_
    refine aw_if_ne (tgt := 90) dX7_brings_80 (by decide) (fun c5 => ?_) (fun c5 => ?_)
    · have hf := i_neg c5 hf
      refine aw_iconst (v := 0) dX7_brings_90 (by decide) ?_
      exact aw_sub [] rfl (c_X7_brings_91 hr hf)
    · have hf := i_pos c5 hf
      refine aw_aload_n 0 dX7_brings_83 rfl rfl ?_
      obtain ⟨q6, eq6, hf⟩ := b_some hf
      refine aw_cV (as := []) dX7_brings_84 moX7_drawnBrings voX7_drawnBrings mlX7_51 (k_X7_drawnBrings eq6) rfl (rm_ok (by omega) (by decide)) ⟨Nat.le_refl _, Nat.le_refl _⟩ (Nat.le_of_ble_eq_true rfl) rfl (c_X7_drawnBrings eq6) ?_
      refine aw_goto (tgt := 91) dX7_brings_87 (by decide) ?_
      exact aw_sub [] rfl (c_X7_brings_91 hr hf)
  · have hf := i_pos c4 hf
    refine aw_aload_n 0 dX7_brings_72 rfl rfl ?_
    obtain ⟨q7, eq7, hf⟩ := b_some hf
    refine aw_cV (as := []) dX7_brings_73 moX7_wonBrings voX7_wonBrings mlX7_47 (k_X7_wonBrings eq7) rfl (rm_ok (by omega) (by decide)) ⟨Nat.le_refl _, Nat.le_refl _⟩ (Nat.le_of_ble_eq_true rfl) rfl (c_X7_wonBrings eq7) ?_
    refine aw_goto (tgt := 91) dX7_brings_76 (by decide) ?_
    exact aw_sub [] rfl (c_X7_brings_91 hr hf)
def f_X7_brings (l0 : Nat) (l1 : Int32) (l2 : Int32) (l3 : Int32) (h0 : Hp) : Option (Unit × Hp) :=
  (ck h0 l0 7).bind fun _ => (gR h0 l0 7 0).bind fun r1 => (aL h0 r1 ((51 : Int32) + l1)).bind fun x2 => (gR h0 l0 7 0).bind fun r3 => (aL h0 r3 ((60 : Int32) + l1)).bind fun x4 => (gR h0 l0 7 4).bind fun r5 => (aL h0 r5 x2).bind fun x6 => if l2 = (1 : Int32) then ((f_X7_wonBrings l0 h0).bind fun q10 => f_X7_brings_55 l0 l2 l3 x4 q10.1 l3 x6 x2 r5 q10.2) else (if l2 = 0 then ((f_X7_drawnBrings l0 h0).bind fun q9 => f_X7_brings_55 l0 l2 l3 x4 q9.1 l3 x6 x2 r5 q9.2) else (f_X7_brings_55 l0 l2 l3 x4 (0 : Int32) l3 x6 x2 r5 h0))
set_option maxRecDepth 100000 in
set_option maxHeartbeats 4000000 in
theorem c_X7_brings {l0 : Nat} {l1 : Int32} {l2 : Int32} {l3 : Int32} {h0 : Hp} {q : Unit × Hp} (hf : f_X7_brings l0 l1 l2 l3 h0 = some q) : Mt 2 yX7_brings cX7_brings 6 none [.ref l0, .int l1, .int l2, .int l3] h0 none q.2 := by
  refine MtQ.of (by decide) (Nat.le_of_ble_eq_true rfl) (fun X adr hr hn => ?_)
  unfold f_X7_brings at hf
  show AW X cX7_brings 6 RX7 (rmd 2 0 0) (Qmet X 0 0 (Qe none q.2 adr)) 0 0 adr h0 0 [(0, .ref l0), (1, .int l1), (2, .int l2), (3, .int l3)] []
  obtain ⟨u0, e0, hf⟩ := b_some hf
  refine aw_aload_n 0 dX7_brings_0 rfl rfl ?_
  obtain ⟨r1, er1, hf⟩ := b_some hf
  refine aw_getR dX7_brings_1 gfX7_9 er1 ?_
  refine aw_bipush (v := 51) dX7_brings_4 (by decide) ?_
  refine aw_iload_n 1 dX7_brings_6 rfl rfl ?_
  refine aw_iadd dX7_brings_7 ?_
  obtain ⟨x2, ex2, hf⟩ := b_some hf
  refine aw_iald dX7_brings_8 ex2 ?_
  refine aw_istore (L' := [(4, .int x2), (0, .ref l0), (1, .int l1), (2, .int l2), (3, .int l3)]) dX7_brings_9 (by decide) rfl ?_
  refine aw_aload_n 1 dX7_brings_11 rfl rfl ?_
  obtain ⟨r3, er3, hf⟩ := b_some hf
  refine aw_getR dX7_brings_12 gfX7_9 er3 ?_
  refine aw_bipush (v := 60) dX7_brings_15 (by decide) ?_
  refine aw_iload_n 2 dX7_brings_17 rfl rfl ?_
  refine aw_iadd dX7_brings_18 ?_
  obtain ⟨x4, ex4, hf⟩ := b_some hf
  refine aw_iald dX7_brings_19 ex4 ?_
  refine aw_istore (L' := [(5, .int x4), (4, .int x2), (0, .ref l0), (1, .int l1), (2, .int l2), (3, .int l3)]) dX7_brings_20 (by decide) rfl ?_
  refine aw_aload_n 2 dX7_brings_22 rfl rfl ?_
  obtain ⟨r5, er5, hf⟩ := b_some hf
  refine aw_getR dX7_brings_23 gfX7_19 er5 ?_
  refine aw_iload 1 dX7_brings_26 rfl ?_
  refine aw_dup2 dX7_brings_28 rfl rfl ?_
  obtain ⟨x6, ex6, hf⟩ := b_some hf
  refine aw_iald dX7_brings_29 ex6 ?_
  refine aw_iload_n 5 dX7_brings_30 rfl rfl ?_
  refine aw_iload_n 4 dX7_brings_31 rfl rfl ?_
  refine aw_iconst (v := 1) dX7_brings_32 (by decide) ?_
  refine aw_icmp_ne (tgt := 43) dX7_brings_33 (by decide) (fun c7 => ?_) (fun c7 => ?_)
  · have hf := i_neg c7 hf
    refine aw_iload_n 4 dX7_brings_43 rfl rfl ?_
    refine aw_if_ne (tgt := 54) dX7_brings_44 (by decide) (fun c8 => ?_) (fun c8 => ?_)
    · have hf := i_neg c8 hf
      refine aw_iconst (v := 0) dX7_brings_54 (by decide) ?_
      exact aw_sub [2, 4, 5, 0] rfl (c_X7_brings_55 hr hf)
    · have hf := i_pos c8 hf
      refine aw_aload_n 2 dX7_brings_47 rfl rfl ?_
      obtain ⟨q9, eq9, hf⟩ := b_some hf
      refine aw_cV (as := []) dX7_brings_48 moX7_drawnBrings voX7_drawnBrings mlX7_51 (k_X7_drawnBrings eq9) rfl (rm_ok (by omega) (by decide)) ⟨Nat.le_refl _, Nat.le_refl _⟩ (Nat.le_of_ble_eq_true rfl) rfl (c_X7_drawnBrings eq9) ?_
      refine aw_goto (tgt := 55) dX7_brings_51 (by decide) ?_
      exact aw_sub [2, 4, 5, 0] rfl (c_X7_brings_55 hr hf)
  · have hf := i_pos c7 hf
    refine aw_aload_n 2 dX7_brings_36 rfl rfl ?_
    obtain ⟨q10, eq10, hf⟩ := b_some hf
    refine aw_cV (as := []) dX7_brings_37 moX7_wonBrings voX7_wonBrings mlX7_47 (k_X7_wonBrings eq10) rfl (rm_ok (by omega) (by decide)) ⟨Nat.le_refl _, Nat.le_refl _⟩ (Nat.le_of_ble_eq_true rfl) rfl (c_X7_wonBrings eq10) ?_
    refine aw_goto (tgt := 55) dX7_brings_40 (by decide) ?_
    exact aw_sub [2, 4, 5, 0] rfl (c_X7_brings_55 hr hf)
theorem k_X7_brings {l0 : Nat} {l1 : Int32} {l2 : Int32} {l3 : Int32} {h0 : Hp} {q : Unit × Hp} (hf : f_X7_brings l0 l1 l2 l3 h0 = some q) : ck h0 l0 7 = some () := by
  unfold f_X7_brings at hf
  obtain ⟨u0, e0, hf⟩ := b_some hf
  exact e0
theorem dX7_isTooMuch_0 : decode cX7_isTooMuch 0 = .ok (.iconst 0, 1) := by decide +kernel
theorem dX7_isTooMuch_1 : decode cX7_isTooMuch 1 = .ok (.istore_n 1, 1) := by decide +kernel
theorem dX7_isTooMuch_2 : decode cX7_isTooMuch 2 = .ok (.iload_n 1, 1) := by decide +kernel
theorem dX7_isTooMuch_3 : decode cX7_isTooMuch 3 = .ok (.aload_n 0, 1) := by decide +kernel
theorem dX7_isTooMuch_4 : decode cX7_isTooMuch 4 = .ok (.getfield 9, 3) := by decide +kernel
theorem dX7_isTooMuch_7 : decode cX7_isTooMuch 7 = .ok (.iconst 0, 1) := by decide +kernel
theorem dX7_isTooMuch_8 : decode cX7_isTooMuch 8 = .ok (.iaload, 1) := by decide +kernel
theorem dX7_isTooMuch_9 : decode cX7_isTooMuch 9 = .ok (.if_icmp .ge 32, 3) := by decide +kernel
theorem dX7_isTooMuch_12 : decode cX7_isTooMuch 12 = .ok (.iload_n 1, 1) := by decide +kernel
theorem dX7_isTooMuch_13 : decode cX7_isTooMuch 13 = .ok (.aload_n 0, 1) := by decide +kernel
theorem dX7_isTooMuch_14 : decode cX7_isTooMuch 14 = .ok (.getfield 75, 3) := by decide +kernel
theorem dX7_isTooMuch_17 : decode cX7_isTooMuch 17 = .ok (.if_icmp .eq 18, 3) := by decide +kernel
theorem dX7_isTooMuch_20 : decode cX7_isTooMuch 20 = .ok (.aload_n 0, 1) := by decide +kernel
theorem dX7_isTooMuch_21 : decode cX7_isTooMuch 21 = .ok (.getfield 19, 3) := by decide +kernel
theorem dX7_isTooMuch_24 : decode cX7_isTooMuch 24 = .ok (.iload_n 1, 1) := by decide +kernel
theorem dX7_isTooMuch_25 : decode cX7_isTooMuch 25 = .ok (.iaload, 1) := by decide +kernel
theorem dX7_isTooMuch_26 : decode cX7_isTooMuch 26 = .ok (.aload_n 0, 1) := by decide +kernel
theorem dX7_isTooMuch_27 : decode cX7_isTooMuch 27 = .ok (.getfield 79, 3) := by decide +kernel
theorem dX7_isTooMuch_30 : decode cX7_isTooMuch 30 = .ok (.if_icmp .le 5, 3) := by decide +kernel
theorem dX7_isTooMuch_33 : decode cX7_isTooMuch 33 = .ok (.iconst 1, 1) := by decide +kernel
theorem dX7_isTooMuch_34 : decode cX7_isTooMuch 34 = .ok (.ireturn, 1) := by decide +kernel
theorem dX7_isTooMuch_35 : decode cX7_isTooMuch 35 = .ok (.iinc 1 1, 3) := by decide +kernel
theorem dX7_isTooMuch_38 : decode cX7_isTooMuch 38 = .ok (.goto (-36), 3) := by decide +kernel
theorem dX7_isTooMuch_41 : decode cX7_isTooMuch 41 = .ok (.iconst 0, 1) := by decide +kernel
theorem dX7_isTooMuch_42 : decode cX7_isTooMuch 42 = .ok (.ireturn, 1) := by decide +kernel
def f_X7_isTooMuch_2 (k2 : Nat × Int32 → Hp → Option (Int32 × Hp)) (v : Nat × Int32) (h0 : Hp) : Option (Int32 × Hp) :=
  match v with
  | (l0, l1) => (gR h0 l0 7 0).bind fun r1 => (aL h0 r1 (0 : Int32)).bind fun x2 => if x2 ≤ l1 then (some ((0 : Int32), h0)) else ((gI h0 l0 7 5).bind fun x4 => if l1 = x4 then ((some (l1 + 1)).bind fun x6 => k2 (l0, x6) h0) else ((gR h0 l0 7 4).bind fun r7 => (aL h0 r7 l1).bind fun x8 => (gI h0 l0 7 6).bind fun x9 => if x8 ≤ x9 then ((some (l1 + 1)).bind fun x11 => k2 (l0, x11) h0) else (some ((1 : Int32), h0))))
set_option maxRecDepth 100000 in
set_option maxHeartbeats 4000000 in
theorem c_X7_isTooMuch_2 {X : Cx} {adr : Nat → Nat} {q : Int32 × Hp} (hr : (mth X).sig.returnType = (some .boolean)) (n : Nat) : ∀ v h0, lp (f_X7_isTooMuch_2) n v h0 = some q → AW X cX7_isTooMuch 2 RX7 (rmd 1 0 0) (Qmet X 0 0 (Qe (some (.int q.1)) q.2 adr)) 0 0 adr h0 2 [(0, .ref v.1), (1, .int v.2)] [] := by
  refine aw_lp (fun k2 hk2 v h0 hf => ?_) n
  obtain ⟨l0, l1⟩ := v
  unfold f_X7_isTooMuch_2 at hf
  dsimp only at hf
  show AW X cX7_isTooMuch 2 RX7 (rmd 1 0 0) (Qmet X 0 0 (Qe (some (.int q.1)) q.2 adr)) 0 0 adr h0 2 [(0, .ref l0), (1, .int l1)] []
  refine aw_iload_n 1 dX7_isTooMuch_2 rfl rfl ?_
  refine aw_aload_n 0 dX7_isTooMuch_3 rfl rfl ?_
  obtain ⟨r1, er1, hf⟩ := b_some hf
  refine aw_getR dX7_isTooMuch_4 gfX7_9 er1 ?_
  refine aw_iconst (v := 0) dX7_isTooMuch_7 (by decide) ?_
  obtain ⟨x2, ex2, hf⟩ := b_some hf
  refine aw_iald dX7_isTooMuch_8 ex2 ?_
  refine aw_icmp_ge (tgt := 41) dX7_isTooMuch_9 (by decide) (fun c3 => ?_) (fun c3 => ?_)
  · have hf := i_pos c3 hf
    refine aw_iconst (v := 0) dX7_isTooMuch_41 (by decide) ?_
    have hq := Option.some.inj hf
    subst hq
    exact aw_zret hr (by decide) dX7_isTooMuch_42 ⟨rfl, rfl, rfl⟩
  · have hf := i_neg c3 hf
    refine aw_iload_n 1 dX7_isTooMuch_12 rfl rfl ?_
    refine aw_aload_n 0 dX7_isTooMuch_13 rfl rfl ?_
    obtain ⟨x4, ex4, hf⟩ := b_some hf
    refine aw_getI dX7_isTooMuch_14 gfX7_75 ex4 ?_
    refine aw_icmp_eq (tgt := 35) dX7_isTooMuch_17 (by decide) (fun c5 => ?_) (fun c5 => ?_)
    · have hf := i_pos c5 hf
      obtain ⟨x6, ex6, hf⟩ := b_some hf
      refine aw_iinc (v := x6) (L' := [(1, .int x6), (0, .ref l0)]) 1 dX7_isTooMuch_35 rfl (Option.some.inj ex6) (by decide) rfl ?_
      refine aw_goto (tgt := 2) dX7_isTooMuch_38 (by decide) ?_
      exact aw_sub [1, 0] rfl (hk2 _ _ hf)
    · have hf := i_neg c5 hf
      refine aw_aload_n 0 dX7_isTooMuch_20 rfl rfl ?_
      obtain ⟨r7, er7, hf⟩ := b_some hf
      refine aw_getR dX7_isTooMuch_21 gfX7_19 er7 ?_
      refine aw_iload_n 1 dX7_isTooMuch_24 rfl rfl ?_
      obtain ⟨x8, ex8, hf⟩ := b_some hf
      refine aw_iald dX7_isTooMuch_25 ex8 ?_
      refine aw_aload_n 0 dX7_isTooMuch_26 rfl rfl ?_
      obtain ⟨x9, ex9, hf⟩ := b_some hf
      refine aw_getI dX7_isTooMuch_27 gfX7_79 ex9 ?_
      refine aw_icmp_le (tgt := 35) dX7_isTooMuch_30 (by decide) (fun c10 => ?_) (fun c10 => ?_)
      · have hf := i_pos c10 hf
        obtain ⟨x11, ex11, hf⟩ := b_some hf
        refine aw_iinc (v := x11) (L' := [(1, .int x11), (0, .ref l0)]) 1 dX7_isTooMuch_35 rfl (Option.some.inj ex11) (by decide) rfl ?_
        refine aw_goto (tgt := 2) dX7_isTooMuch_38 (by decide) ?_
        exact aw_sub [1, 0] rfl (hk2 _ _ hf)
      · have hf := i_neg c10 hf
        refine aw_iconst (v := 1) dX7_isTooMuch_33 (by decide) ?_
        have hq := Option.some.inj hf
        subst hq
        exact aw_zret hr (by decide) dX7_isTooMuch_34 ⟨rfl, rfl, rfl⟩
def f_X7_isTooMuch (l0 : Nat) (h0 : Hp) : Option (Int32 × Hp) :=
  (ck h0 l0 7).bind fun _ => lp (f_X7_isTooMuch_2) 600 (l0, (0 : Int32)) h0
set_option maxRecDepth 100000 in
set_option maxHeartbeats 4000000 in
theorem c_X7_isTooMuch {l0 : Nat} {h0 : Hp} {q : Int32 × Hp} (hf : f_X7_isTooMuch l0 h0 = some q) : Mt 1 yX7_isTooMuch cX7_isTooMuch 2 (some .boolean) [.ref l0] h0 (some (.int q.1)) q.2 := by
  refine MtQ.of (by decide) (Nat.le_of_ble_eq_true rfl) (fun X adr hr hn => ?_)
  unfold f_X7_isTooMuch at hf
  show AW X cX7_isTooMuch 2 RX7 (rmd 1 0 0) (Qmet X 0 0 (Qe (some (.int q.1)) q.2 adr)) 0 0 adr h0 0 [(0, .ref l0)] []
  obtain ⟨u0, e0, hf⟩ := b_some hf
  refine aw_iconst (v := 0) dX7_isTooMuch_0 (by decide) ?_
  refine aw_istore_n (L' := [(1, .int (0 : Int32)), (0, .ref l0)]) dX7_isTooMuch_1 rfl (by decide) rfl ?_
  exact aw_sub [1, 0] rfl (c_X7_isTooMuch_2 hr 600 _ _ hf)
theorem k_X7_isTooMuch {l0 : Nat} {h0 : Hp} {q : Int32 × Hp} (hf : f_X7_isTooMuch l0 h0 = some q) : ck h0 l0 7 = some () := by
  unfold f_X7_isTooMuch at hf
  obtain ⟨u0, e0, hf⟩ := b_some hf
  exact e0
theorem dX7_notesDrawn_0 : decode cX7_notesDrawn 0 = .ok (.iconst 0, 1) := by decide +kernel
theorem dX7_notesDrawn_1 : decode cX7_notesDrawn 1 = .ok (.istore_n 1, 1) := by decide +kernel
theorem dX7_notesDrawn_2 : decode cX7_notesDrawn 2 = .ok (.iconst 0, 1) := by decide +kernel
theorem dX7_notesDrawn_3 : decode cX7_notesDrawn 3 = .ok (.istore_n 2, 1) := by decide +kernel
theorem dX7_notesDrawn_4 : decode cX7_notesDrawn 4 = .ok (.iload_n 2, 1) := by decide +kernel
theorem dX7_notesDrawn_5 : decode cX7_notesDrawn 5 = .ok (.aload_n 0, 1) := by decide +kernel
theorem dX7_notesDrawn_6 : decode cX7_notesDrawn 6 = .ok (.getfield 9, 3) := by decide +kernel
theorem dX7_notesDrawn_9 : decode cX7_notesDrawn 9 = .ok (.iconst 1, 1) := by decide +kernel
theorem dX7_notesDrawn_10 : decode cX7_notesDrawn 10 = .ok (.iaload, 1) := by decide +kernel
theorem dX7_notesDrawn_11 : decode cX7_notesDrawn 11 = .ok (.if_icmp .ge 38, 3) := by decide +kernel
theorem dX7_notesDrawn_14 : decode cX7_notesDrawn 14 = .ok (.iload_n 1, 1) := by decide +kernel
theorem dX7_notesDrawn_15 : decode cX7_notesDrawn 15 = .ok (.aload_n 0, 1) := by decide +kernel
theorem dX7_notesDrawn_16 : decode cX7_notesDrawn 16 = .ok (.getfield 16, 3) := by decide +kernel
theorem dX7_notesDrawn_19 : decode cX7_notesDrawn 19 = .ok (.iload_n 2, 1) := by decide +kernel
theorem dX7_notesDrawn_20 : decode cX7_notesDrawn 20 = .ok (.iaload, 1) := by decide +kernel
theorem dX7_notesDrawn_21 : decode cX7_notesDrawn 21 = .ok (.iconst (-1), 1) := by decide +kernel
theorem dX7_notesDrawn_22 : decode cX7_notesDrawn 22 = .ok (.if_icmp .ne 18, 3) := by decide +kernel
theorem dX7_notesDrawn_25 : decode cX7_notesDrawn 25 = .ok (.aload_n 0, 1) := by decide +kernel
theorem dX7_notesDrawn_26 : decode cX7_notesDrawn 26 = .ok (.getfield 22, 3) := by decide +kernel
theorem dX7_notesDrawn_29 : decode cX7_notesDrawn 29 = .ok (.iload_n 2, 1) := by decide +kernel
theorem dX7_notesDrawn_30 : decode cX7_notesDrawn 30 = .ok (.iaload, 1) := by decide +kernel
theorem dX7_notesDrawn_31 : decode cX7_notesDrawn 31 = .ok (.ifCond .ne 9, 3) := by decide +kernel
theorem dX7_notesDrawn_34 : decode cX7_notesDrawn 34 = .ok (.iconst 1, 1) := by decide +kernel
theorem dX7_notesDrawn_35 : decode cX7_notesDrawn 35 = .ok (.iload_n 2, 1) := by decide +kernel
theorem dX7_notesDrawn_36 : decode cX7_notesDrawn 36 = .ok (.ishl, 1) := by decide +kernel
theorem dX7_notesDrawn_37 : decode cX7_notesDrawn 37 = .ok (.goto 4, 3) := by decide +kernel
theorem dX7_notesDrawn_40 : decode cX7_notesDrawn 40 = .ok (.iconst 0, 1) := by decide +kernel
theorem dX7_notesDrawn_41 : decode cX7_notesDrawn 41 = .ok (.ior, 1) := by decide +kernel
theorem dX7_notesDrawn_42 : decode cX7_notesDrawn 42 = .ok (.istore_n 1, 1) := by decide +kernel
theorem dX7_notesDrawn_43 : decode cX7_notesDrawn 43 = .ok (.iinc 2 1, 3) := by decide +kernel
theorem dX7_notesDrawn_46 : decode cX7_notesDrawn 46 = .ok (.goto (-42), 3) := by decide +kernel
theorem dX7_notesDrawn_49 : decode cX7_notesDrawn 49 = .ok (.aload_n 0, 1) := by decide +kernel
theorem dX7_notesDrawn_50 : decode cX7_notesDrawn 50 = .ok (.getfield 82, 3) := by decide +kernel
theorem dX7_notesDrawn_53 : decode cX7_notesDrawn 53 = .ok (.ifCond .lt 39, 3) := by decide +kernel
theorem dX7_notesDrawn_56 : decode cX7_notesDrawn 56 = .ok (.iload_n 1, 1) := by decide +kernel
theorem dX7_notesDrawn_57 : decode cX7_notesDrawn 57 = .ok (.invokestatic 72, 3) := by decide +kernel
theorem dX7_notesDrawn_60 : decode cX7_notesDrawn 60 = .ok (.aload_n 0, 1) := by decide +kernel
theorem dX7_notesDrawn_61 : decode cX7_notesDrawn 61 = .ok (.getfield 82, 3) := by decide +kernel
theorem dX7_notesDrawn_64 : decode cX7_notesDrawn 64 = .ok (.invokestatic 72, 3) := by decide +kernel
theorem dX7_notesDrawn_67 : decode cX7_notesDrawn 67 = .ok (.if_icmp .lt 25, 3) := by decide +kernel
theorem dX7_notesDrawn_70 : decode cX7_notesDrawn 70 = .ok (.iload_n 1, 1) := by decide +kernel
theorem dX7_notesDrawn_71 : decode cX7_notesDrawn 71 = .ok (.invokestatic 72, 3) := by decide +kernel
theorem dX7_notesDrawn_74 : decode cX7_notesDrawn 74 = .ok (.aload_n 0, 1) := by decide +kernel
theorem dX7_notesDrawn_75 : decode cX7_notesDrawn 75 = .ok (.getfield 82, 3) := by decide +kernel
theorem dX7_notesDrawn_78 : decode cX7_notesDrawn 78 = .ok (.invokestatic 72, 3) := by decide +kernel
theorem dX7_notesDrawn_81 : decode cX7_notesDrawn 81 = .ok (.if_icmp .ne 15, 3) := by decide +kernel
theorem dX7_notesDrawn_84 : decode cX7_notesDrawn 84 = .ok (.iload_n 1, 1) := by decide +kernel
theorem dX7_notesDrawn_85 : decode cX7_notesDrawn 85 = .ok (.aload_n 0, 1) := by decide +kernel
theorem dX7_notesDrawn_86 : decode cX7_notesDrawn 86 = .ok (.getfield 82, 3) := by decide +kernel
theorem dX7_notesDrawn_89 : decode cX7_notesDrawn 89 = .ok (.if_icmp .ge 7, 3) := by decide +kernel
theorem dX7_notesDrawn_92 : decode cX7_notesDrawn 92 = .ok (.iconst 1, 1) := by decide +kernel
theorem dX7_notesDrawn_93 : decode cX7_notesDrawn 93 = .ok (.goto 4, 3) := by decide +kernel
theorem dX7_notesDrawn_96 : decode cX7_notesDrawn 96 = .ok (.iconst 0, 1) := by decide +kernel
theorem dX7_notesDrawn_97 : decode cX7_notesDrawn 97 = .ok (.istore_n 2, 1) := by decide +kernel
theorem dX7_notesDrawn_98 : decode cX7_notesDrawn 98 = .ok (.aload_n 0, 1) := by decide +kernel
theorem dX7_notesDrawn_99 : decode cX7_notesDrawn 99 = .ok (.iload_n 2, 1) := by decide +kernel
theorem dX7_notesDrawn_100 : decode cX7_notesDrawn 100 = .ok (.ifCond .eq 7, 3) := by decide +kernel
theorem dX7_notesDrawn_103 : decode cX7_notesDrawn 103 = .ok (.iload_n 1, 1) := by decide +kernel
theorem dX7_notesDrawn_104 : decode cX7_notesDrawn 104 = .ok (.goto 7, 3) := by decide +kernel
theorem dX7_notesDrawn_107 : decode cX7_notesDrawn 107 = .ok (.aload_n 0, 1) := by decide +kernel
theorem dX7_notesDrawn_108 : decode cX7_notesDrawn 108 = .ok (.getfield 82, 3) := by decide +kernel
theorem dX7_notesDrawn_111 : decode cX7_notesDrawn 111 = .ok (.putfield 82, 3) := by decide +kernel
theorem dX7_notesDrawn_114 : decode cX7_notesDrawn 114 = .ok (.return_, 1) := by decide +kernel
def f_X7_notesDrawn_40 (k4 : Nat × Int32 × Int32 → Hp → Option (Unit × Hp)) (l0 : Nat) (l2 : Int32) (s0 : Int32) (h0 : Hp) : Option (Unit × Hp) :=
  (some (s0 ||| (0 : Int32))).bind fun x1 => (some (l2 + 1)).bind fun x2 => k4 (l0, x1, x2) h0
set_option maxRecDepth 100000 in
set_option maxHeartbeats 4000000 in
theorem c_X7_notesDrawn_40 {X : Cx} {adr : Nat → Nat} {q : Unit × Hp} (hr : (mth X).sig.returnType = none) {k4 : Nat × Int32 × Int32 → Hp → Option (Unit × Hp)} (hk4 : ∀ v h, k4 v h = some q → AW X cX7_notesDrawn 3 RX7 (rmd 2 0 0) (Qmet X 0 0 (Qe none q.2 adr)) 0 0 adr h 4 [(0, .ref v.1), (1, .int v.2.1), (2, .int v.2.2)] []) {l0 : Nat} {l2 : Int32} {s0 : Int32} {h0 : Hp} (hf : f_X7_notesDrawn_40 k4 l0 l2 s0 h0 = some q) : AW X cX7_notesDrawn 3 RX7 (rmd 2 0 0) (Qmet X 0 0 (Qe none q.2 adr)) 0 0 adr h0 40 [(0, .ref l0), (2, .int l2)] [.int s0] := by
  unfold f_X7_notesDrawn_40 at hf
  refine aw_iconst (v := 0) dX7_notesDrawn_40 (by decide) ?_
  refine aw_ior dX7_notesDrawn_41 ?_
  obtain ⟨x1, ex1, hf⟩ := b_some hf
  refine aw_nm ex1 ?_
  refine aw_istore_n (L' := [(1, .int x1), (0, .ref l0), (2, .int l2)]) dX7_notesDrawn_42 rfl (by decide) rfl ?_
  obtain ⟨x2, ex2, hf⟩ := b_some hf
  refine aw_iinc (v := x2) (L' := [(2, .int x2), (1, .int x1), (0, .ref l0)]) 2 dX7_notesDrawn_43 rfl (Option.some.inj ex2) (by decide) rfl ?_
  refine aw_goto (tgt := 4) dX7_notesDrawn_46 (by decide) ?_
  exact aw_sub [2, 1, 0] rfl (hk4 _ _ hf)
def f_X7_notesDrawn_111 (s0 : Int32) (s1 : Nat) (h0 : Hp) : Option (Unit × Hp) :=
  (pI h0 s1 7 8 s0).bind fun h1 => some ((), h1)
set_option maxRecDepth 100000 in
set_option maxHeartbeats 4000000 in
theorem c_X7_notesDrawn_111 {X : Cx} {adr : Nat → Nat} {q : Unit × Hp} (hr : (mth X).sig.returnType = none) {s0 : Int32} {s1 : Nat} {h0 : Hp} (hf : f_X7_notesDrawn_111 s0 s1 h0 = some q) : AW X cX7_notesDrawn 3 RX7 (rmd 2 0 0) (Qmet X 0 0 (Qe none q.2 adr)) 0 0 adr h0 111 [] [.int s0, .ref s1] := by
  unfold f_X7_notesDrawn_111 at hf
  obtain ⟨h1, eh1, hf⟩ := b_some hf
  refine aw_putI dX7_notesDrawn_111 pfX7_82 eh1 ?_
  have hq := Option.some.inj hf
  subst hq
  exact aw_vret hr dX7_notesDrawn_114 ⟨rfl, rfl, rfl⟩
def f_X7_notesDrawn_97 (l0 : Nat) (l1 : Int32) (s0 : Int32) (h0 : Hp) : Option (Unit × Hp) :=
  if s0 = 0 then ((gI h0 l0 7 8).bind fun x2 => f_X7_notesDrawn_111 x2 l0 h0) else (f_X7_notesDrawn_111 l1 l0 h0)
set_option maxRecDepth 100000 in
set_option maxHeartbeats 4000000 in
theorem c_X7_notesDrawn_97 {X : Cx} {adr : Nat → Nat} {q : Unit × Hp} (hr : (mth X).sig.returnType = none) {l0 : Nat} {l1 : Int32} {s0 : Int32} {h0 : Hp} (hf : f_X7_notesDrawn_97 l0 l1 s0 h0 = some q) : AW X cX7_notesDrawn 3 RX7 (rmd 2 0 0) (Qmet X 0 0 (Qe none q.2 adr)) 0 0 adr h0 97 [(0, .ref l0), (1, .int l1)] [.int s0] := by
  unfold f_X7_notesDrawn_97 at hf
  refine aw_istore_n (L' := [(2, .int s0), (0, .ref l0), (1, .int l1)]) dX7_notesDrawn_97 rfl (by decide) rfl ?_
  refine aw_aload_n 1 dX7_notesDrawn_98 rfl rfl ?_
  refine aw_iload_n 0 dX7_notesDrawn_99 rfl rfl ?_
  refine aw_if_eq (tgt := 107) dX7_notesDrawn_100 (by decide) (fun c1 => ?_) (fun c1 => ?_)
  · have hf := i_pos c1 hf
    refine aw_aload_n 1 dX7_notesDrawn_107 rfl rfl ?_
    obtain ⟨x2, ex2, hf⟩ := b_some hf
    refine aw_getI dX7_notesDrawn_108 gfX7_82 ex2 ?_
    exact aw_sub [] rfl (c_X7_notesDrawn_111 hr hf)
  · have hf := i_neg c1 hf
    refine aw_iload_n 2 dX7_notesDrawn_103 rfl rfl ?_
    refine aw_goto (tgt := 111) dX7_notesDrawn_104 (by decide) ?_
    exact aw_sub [] rfl (c_X7_notesDrawn_111 hr hf)
def f_X7_notesDrawn_92 (l0 : Nat) (l1 : Int32) (h0 : Hp) : Option (Unit × Hp) :=
  f_X7_notesDrawn_97 l0 l1 (1 : Int32) h0
set_option maxRecDepth 100000 in
set_option maxHeartbeats 4000000 in
theorem c_X7_notesDrawn_92 {X : Cx} {adr : Nat → Nat} {q : Unit × Hp} (hr : (mth X).sig.returnType = none) {l0 : Nat} {l1 : Int32} {h0 : Hp} (hf : f_X7_notesDrawn_92 l0 l1 h0 = some q) : AW X cX7_notesDrawn 3 RX7 (rmd 2 0 0) (Qmet X 0 0 (Qe none q.2 adr)) 0 0 adr h0 92 [(0, .ref l0), (1, .int l1)] [] := by
  unfold f_X7_notesDrawn_92 at hf
  refine aw_iconst (v := 1) dX7_notesDrawn_92 (by decide) ?_
  refine aw_goto (tgt := 97) dX7_notesDrawn_93 (by decide) ?_
  exact aw_sub [0, 1] rfl (c_X7_notesDrawn_97 hr hf)
def f_X7_notesDrawn_96 (l0 : Nat) (l1 : Int32) (h0 : Hp) : Option (Unit × Hp) :=
  f_X7_notesDrawn_97 l0 l1 (0 : Int32) h0
set_option maxRecDepth 100000 in
set_option maxHeartbeats 4000000 in
theorem c_X7_notesDrawn_96 {X : Cx} {adr : Nat → Nat} {q : Unit × Hp} (hr : (mth X).sig.returnType = none) {l0 : Nat} {l1 : Int32} {h0 : Hp} (hf : f_X7_notesDrawn_96 l0 l1 h0 = some q) : AW X cX7_notesDrawn 3 RX7 (rmd 2 0 0) (Qmet X 0 0 (Qe none q.2 adr)) 0 0 adr h0 96 [(0, .ref l0), (1, .int l1)] [] := by
  unfold f_X7_notesDrawn_96 at hf
  refine aw_iconst (v := 0) dX7_notesDrawn_96 (by decide) ?_
  exact aw_sub [0, 1] rfl (c_X7_notesDrawn_97 hr hf)
def f_X7_notesDrawn_4 (k4 : Nat × Int32 × Int32 → Hp → Option (Unit × Hp)) (v : Nat × Int32 × Int32) (h0 : Hp) : Option (Unit × Hp) :=
  match v with
  | (l0, l1, l2) => (gR h0 l0 7 0).bind fun r1 => (aL h0 r1 (1 : Int32)).bind fun x2 => if x2 ≤ l2 then ((gI h0 l0 7 8).bind fun x4 => if x4 < 0 then (f_X7_notesDrawn_92 l0 l1 h0) else ((f_X7_ones l1 h0).bind fun q6 => (gI q6.2 l0 7 8).bind fun x7 => (f_X7_ones x7 q6.2).bind fun q8 => if q6.1 < q8.1 then (f_X7_notesDrawn_92 l0 l1 q8.2) else ((f_X7_ones l1 q8.2).bind fun q10 => (gI q10.2 l0 7 8).bind fun x11 => (f_X7_ones x11 q10.2).bind fun q12 => if q10.1 = q12.1 then ((gI q12.2 l0 7 8).bind fun x14 => if x14 ≤ l1 then (f_X7_notesDrawn_96 l0 l1 q12.2) else (f_X7_notesDrawn_92 l0 l1 q12.2)) else (f_X7_notesDrawn_96 l0 l1 q12.2)))) else ((gR h0 l0 7 3).bind fun r16 => (aL h0 r16 l2).bind fun x17 => if x17 = (-1 : Int32) then ((gR h0 l0 7 7).bind fun r19 => (aL h0 r19 l2).bind fun x20 => if x20 = 0 then ((some (l1 ||| ((1 : Int32) <<< (l2 &&& 31)))).bind fun x22 => (some (l2 + 1)).bind fun x23 => k4 (l0, x22, x23) h0) else (f_X7_notesDrawn_40 k4 l0 l2 l1 h0)) else (f_X7_notesDrawn_40 k4 l0 l2 l1 h0))
set_option maxRecDepth 100000 in
set_option maxHeartbeats 4000000 in
theorem c_X7_notesDrawn_4 {X : Cx} {adr : Nat → Nat} {q : Unit × Hp} (hr : (mth X).sig.returnType = none) (n : Nat) : ∀ v h0, lp (f_X7_notesDrawn_4) n v h0 = some q → AW X cX7_notesDrawn 3 RX7 (rmd 2 0 0) (Qmet X 0 0 (Qe none q.2 adr)) 0 0 adr h0 4 [(0, .ref v.1), (1, .int v.2.1), (2, .int v.2.2)] [] := by
  refine aw_lp (fun k4 hk4 v h0 hf => ?_) n
  obtain ⟨l0, l1, l2⟩ := v
  unfold f_X7_notesDrawn_4 at hf
  dsimp only at hf
  show AW X cX7_notesDrawn 3 RX7 (rmd 2 0 0) (Qmet X 0 0 (Qe none q.2 adr)) 0 0 adr h0 4 [(0, .ref l0), (1, .int l1), (2, .int l2)] []
  refine aw_iload_n 2 dX7_notesDrawn_4 rfl rfl ?_
  refine aw_aload_n 0 dX7_notesDrawn_5 rfl rfl ?_
  obtain ⟨r1, er1, hf⟩ := b_some hf
  refine aw_getR dX7_notesDrawn_6 gfX7_9 er1 ?_
  refine aw_iconst (v := 1) dX7_notesDrawn_9 (by decide) ?_
  obtain ⟨x2, ex2, hf⟩ := b_some hf
  refine aw_iald dX7_notesDrawn_10 ex2 ?_
  refine aw_icmp_ge (tgt := 49) dX7_notesDrawn_11 (by decide) (fun c3 => ?_) (fun c3 => ?_)
  · have hf := i_pos c3 hf
    refine aw_aload_n 0 dX7_notesDrawn_49 rfl rfl ?_
    obtain ⟨x4, ex4, hf⟩ := b_some hf
    refine aw_getI dX7_notesDrawn_50 gfX7_82 ex4 ?_
    refine aw_if_lt (tgt := 92) dX7_notesDrawn_53 (by decide) (fun c5 => ?_) (fun c5 => ?_)
    · have hf := i_pos c5 hf
      exact aw_sub [0, 1] rfl (c_X7_notesDrawn_92 hr hf)
    · have hf := i_neg c5 hf
      refine aw_iload_n 1 dX7_notesDrawn_56 rfl rfl ?_
      obtain ⟨q6, eq6, hf⟩ := b_some hf
      refine aw_cS (as := [.int l1]) dX7_notesDrawn_57 moX7_ones soX7_ones mlX7_72 (rm_ok (by omega) (by decide)) ⟨Nat.le_refl _, Nat.le_refl _⟩ (Nat.le_of_ble_eq_true rfl) rfl (c_X7_ones eq6) ?_
      refine aw_aload_n 0 dX7_notesDrawn_60 rfl rfl ?_
      obtain ⟨x7, ex7, hf⟩ := b_some hf
      refine aw_getI dX7_notesDrawn_61 gfX7_82 ex7 ?_
      obtain ⟨q8, eq8, hf⟩ := b_some hf
      refine aw_cS (as := [.int x7]) dX7_notesDrawn_64 moX7_ones soX7_ones mlX7_72 (rm_ok (by omega) (by decide)) ⟨Nat.le_refl _, Nat.le_refl _⟩ (Nat.le_of_ble_eq_true rfl) rfl (c_X7_ones eq8) ?_
      refine aw_icmp_lt (tgt := 92) dX7_notesDrawn_67 (by decide) (fun c9 => ?_) (fun c9 => ?_)
      · have hf := i_pos c9 hf
        exact aw_sub [0, 1] rfl (c_X7_notesDrawn_92 hr hf)
      · have hf := i_neg c9 hf
        refine aw_iload_n 1 dX7_notesDrawn_70 rfl rfl ?_
        obtain ⟨q10, eq10, hf⟩ := b_some hf
        refine aw_cS (as := [.int l1]) dX7_notesDrawn_71 moX7_ones soX7_ones mlX7_72 (rm_ok (by omega) (by decide)) ⟨Nat.le_refl _, Nat.le_refl _⟩ (Nat.le_of_ble_eq_true rfl) rfl (c_X7_ones eq10) ?_
        refine aw_aload_n 0 dX7_notesDrawn_74 rfl rfl ?_
        obtain ⟨x11, ex11, hf⟩ := b_some hf
        refine aw_getI dX7_notesDrawn_75 gfX7_82 ex11 ?_
        obtain ⟨q12, eq12, hf⟩ := b_some hf
        refine aw_cS (as := [.int x11]) dX7_notesDrawn_78 moX7_ones soX7_ones mlX7_72 (rm_ok (by omega) (by decide)) ⟨Nat.le_refl _, Nat.le_refl _⟩ (Nat.le_of_ble_eq_true rfl) rfl (c_X7_ones eq12) ?_
        refine aw_icmp_ne (tgt := 96) dX7_notesDrawn_81 (by decide) (fun c13 => ?_) (fun c13 => ?_)
        · have hf := i_neg c13 hf
          exact aw_sub [0, 1] rfl (c_X7_notesDrawn_96 hr hf)
        · have hf := i_pos c13 hf
          refine aw_iload_n 1 dX7_notesDrawn_84 rfl rfl ?_
          refine aw_aload_n 0 dX7_notesDrawn_85 rfl rfl ?_
          obtain ⟨x14, ex14, hf⟩ := b_some hf
          refine aw_getI dX7_notesDrawn_86 gfX7_82 ex14 ?_
          refine aw_icmp_ge (tgt := 96) dX7_notesDrawn_89 (by decide) (fun c15 => ?_) (fun c15 => ?_)
          · have hf := i_pos c15 hf
            exact aw_sub [0, 1] rfl (c_X7_notesDrawn_96 hr hf)
          · have hf := i_neg c15 hf
            exact aw_sub [0, 1] rfl (c_X7_notesDrawn_92 hr hf)
  · have hf := i_neg c3 hf
    refine aw_iload_n 1 dX7_notesDrawn_14 rfl rfl ?_
    refine aw_aload_n 0 dX7_notesDrawn_15 rfl rfl ?_
    obtain ⟨r16, er16, hf⟩ := b_some hf
    refine aw_getR dX7_notesDrawn_16 gfX7_16 er16 ?_
    refine aw_iload_n 2 dX7_notesDrawn_19 rfl rfl ?_
    obtain ⟨x17, ex17, hf⟩ := b_some hf
    refine aw_iald dX7_notesDrawn_20 ex17 ?_
    refine aw_iconst (v := -1) dX7_notesDrawn_21 (by decide) ?_
    refine aw_icmp_ne (tgt := 40) dX7_notesDrawn_22 (by decide) (fun c18 => ?_) (fun c18 => ?_)
    · have hf := i_neg c18 hf
      exact aw_sub [0, 2] rfl (c_X7_notesDrawn_40 hr hk4 hf)
    · have hf := i_pos c18 hf
      refine aw_aload_n 0 dX7_notesDrawn_25 rfl rfl ?_
      obtain ⟨r19, er19, hf⟩ := b_some hf
      refine aw_getR dX7_notesDrawn_26 gfX7_22 er19 ?_
      refine aw_iload_n 2 dX7_notesDrawn_29 rfl rfl ?_
      obtain ⟨x20, ex20, hf⟩ := b_some hf
      refine aw_iald dX7_notesDrawn_30 ex20 ?_
      refine aw_if_ne (tgt := 40) dX7_notesDrawn_31 (by decide) (fun c21 => ?_) (fun c21 => ?_)
      · have hf := i_neg c21 hf
        exact aw_sub [0, 2] rfl (c_X7_notesDrawn_40 hr hk4 hf)
      · have hf := i_pos c21 hf
        refine aw_iconst (v := 1) dX7_notesDrawn_34 (by decide) ?_
        refine aw_iload_n 2 dX7_notesDrawn_35 rfl rfl ?_
        refine aw_ishl dX7_notesDrawn_36 ?_
        refine aw_goto (tgt := 41) dX7_notesDrawn_37 (by decide) ?_
        refine aw_ior dX7_notesDrawn_41 ?_
        obtain ⟨x22, ex22, hf⟩ := b_some hf
        refine aw_nm ex22 ?_
        refine aw_istore_n (L' := [(1, .int x22), (0, .ref l0), (2, .int l2)]) dX7_notesDrawn_42 rfl (by decide) rfl ?_
        obtain ⟨x23, ex23, hf⟩ := b_some hf
        refine aw_iinc (v := x23) (L' := [(2, .int x23), (1, .int x22), (0, .ref l0)]) 2 dX7_notesDrawn_43 rfl (Option.some.inj ex23) (by decide) rfl ?_
        refine aw_goto (tgt := 4) dX7_notesDrawn_46 (by decide) ?_
        exact aw_sub [2, 1, 0] rfl (hk4 _ _ hf)
def f_X7_notesDrawn (l0 : Nat) (h0 : Hp) : Option (Unit × Hp) :=
  (ck h0 l0 7).bind fun _ => lp (f_X7_notesDrawn_4) 600 (l0, (0 : Int32), (0 : Int32)) h0
set_option maxRecDepth 100000 in
set_option maxHeartbeats 4000000 in
theorem c_X7_notesDrawn {l0 : Nat} {h0 : Hp} {q : Unit × Hp} (hf : f_X7_notesDrawn l0 h0 = some q) : Mt 2 yX7_notesDrawn cX7_notesDrawn 3 none [.ref l0] h0 none q.2 := by
  refine MtQ.of (by decide) (Nat.le_of_ble_eq_true rfl) (fun X adr hr hn => ?_)
  unfold f_X7_notesDrawn at hf
  show AW X cX7_notesDrawn 3 RX7 (rmd 2 0 0) (Qmet X 0 0 (Qe none q.2 adr)) 0 0 adr h0 0 [(0, .ref l0)] []
  obtain ⟨u0, e0, hf⟩ := b_some hf
  refine aw_iconst (v := 0) dX7_notesDrawn_0 (by decide) ?_
  refine aw_istore_n (L' := [(1, .int (0 : Int32)), (0, .ref l0)]) dX7_notesDrawn_1 rfl (by decide) rfl ?_
  refine aw_iconst (v := 0) dX7_notesDrawn_2 (by decide) ?_
  refine aw_istore_n (L' := [(2, .int (0 : Int32)), (1, .int (0 : Int32)), (0, .ref l0)]) dX7_notesDrawn_3 rfl (by decide) rfl ?_
  exact aw_sub [2, 1, 0] rfl (c_X7_notesDrawn_4 hr 600 _ _ hf)
theorem k_X7_notesDrawn {l0 : Nat} {h0 : Hp} {q : Unit × Hp} (hf : f_X7_notesDrawn l0 h0 = some q) : ck h0 l0 7 = some () := by
  unfold f_X7_notesDrawn at hf
  obtain ⟨u0, e0, hf⟩ := b_some hf
  exact e0
theorem dX7_resultAt_0 : decode cX7_resultAt 0 = .ok (.iload_n 0, 1) := by decide +kernel
theorem dX7_resultAt_1 : decode cX7_resultAt 1 = .ok (.iconst 2, 1) := by decide +kernel
theorem dX7_resultAt_2 : decode cX7_resultAt 2 = .ok (.if_icmp .ne 7, 3) := by decide +kernel
theorem dX7_resultAt_5 : decode cX7_resultAt 5 = .ok (.iconst 0, 1) := by decide +kernel
theorem dX7_resultAt_6 : decode cX7_resultAt 6 = .ok (.goto 6, 3) := by decide +kernel
theorem dX7_resultAt_9 : decode cX7_resultAt 9 = .ok (.iload_n 0, 1) := by decide +kernel
theorem dX7_resultAt_10 : decode cX7_resultAt 10 = .ok (.iconst 1, 1) := by decide +kernel
theorem dX7_resultAt_11 : decode cX7_resultAt 11 = .ok (.iadd, 1) := by decide +kernel
theorem dX7_resultAt_12 : decode cX7_resultAt 12 = .ok (.ireturn, 1) := by decide +kernel
def f_X7_resultAt (l0 : Int32) (h0 : Hp) : Option (Int32 × Hp) :=
  if l0 = (2 : Int32) then (some ((0 : Int32), h0)) else (some ((l0 + (1 : Int32)), h0))
set_option maxRecDepth 100000 in
set_option maxHeartbeats 4000000 in
theorem c_X7_resultAt {l0 : Int32} {h0 : Hp} {q : Int32 × Hp} (hf : f_X7_resultAt l0 h0 = some q) : Mt 1 yX7_resultAt cX7_resultAt 1 (some .int) [.int l0] h0 (some (.int q.1)) q.2 := by
  refine MtQ.of (by decide) (Nat.le_of_ble_eq_true rfl) (fun X adr hr hn => ?_)
  unfold f_X7_resultAt at hf
  show AW X cX7_resultAt 1 RX7 (rmd 1 0 0) (Qmet X 0 0 (Qe (some (.int q.1)) q.2 adr)) 0 0 adr h0 0 [(0, .int l0)] []
  refine aw_iload_n 0 dX7_resultAt_0 rfl rfl ?_
  refine aw_iconst (v := 2) dX7_resultAt_1 (by decide) ?_
  refine aw_icmp_ne (tgt := 9) dX7_resultAt_2 (by decide) (fun c1 => ?_) (fun c1 => ?_)
  · have hf := i_neg c1 hf
    refine aw_iload_n 0 dX7_resultAt_9 rfl rfl ?_
    refine aw_iconst (v := 1) dX7_resultAt_10 (by decide) ?_
    refine aw_iadd dX7_resultAt_11 ?_
    have hq := Option.some.inj hf
    subst hq
    exact aw_iret hr dX7_resultAt_12 ⟨rfl, rfl, rfl⟩
  · have hf := i_pos c1 hf
    refine aw_iconst (v := 0) dX7_resultAt_5 (by decide) ?_
    refine aw_goto (tgt := 12) dX7_resultAt_6 (by decide) ?_
    have hq := Option.some.inj hf
    subst hq
    exact aw_iret hr dX7_resultAt_12 ⟨rfl, rfl, rfl⟩
theorem dX7_results_0 : decode cX7_results 0 = .ok (.aload_n 0, 1) := by decide +kernel
theorem dX7_results_1 : decode cX7_results 1 = .ok (.getfield 9, 3) := by decide +kernel
theorem dX7_results_4 : decode cX7_results 4 = .ok (.iconst 2, 1) := by decide +kernel
theorem dX7_results_5 : decode cX7_results 5 = .ok (.iaload, 1) := by decide +kernel
theorem dX7_results_6 : decode cX7_results 6 = .ok (.ifCond .ne 7, 3) := by decide +kernel
theorem dX7_results_9 : decode cX7_results 9 = .ok (.iconst 2, 1) := by decide +kernel
theorem dX7_results_10 : decode cX7_results 10 = .ok (.goto 4, 3) := by decide +kernel
theorem dX7_results_13 : decode cX7_results 13 = .ok (.iconst 3, 1) := by decide +kernel
theorem dX7_results_14 : decode cX7_results 14 = .ok (.ireturn, 1) := by decide +kernel
def f_X7_results (l0 : Nat) (h0 : Hp) : Option (Int32 × Hp) :=
  (ck h0 l0 7).bind fun _ => (gR h0 l0 7 0).bind fun r1 => (aL h0 r1 (2 : Int32)).bind fun x2 => if x2 = 0 then (some ((2 : Int32), h0)) else (some ((3 : Int32), h0))
set_option maxRecDepth 100000 in
set_option maxHeartbeats 4000000 in
theorem c_X7_results {l0 : Nat} {h0 : Hp} {q : Int32 × Hp} (hf : f_X7_results l0 h0 = some q) : Mt 1 yX7_results cX7_results 1 (some .int) [.ref l0] h0 (some (.int q.1)) q.2 := by
  refine MtQ.of (by decide) (Nat.le_of_ble_eq_true rfl) (fun X adr hr hn => ?_)
  unfold f_X7_results at hf
  show AW X cX7_results 1 RX7 (rmd 1 0 0) (Qmet X 0 0 (Qe (some (.int q.1)) q.2 adr)) 0 0 adr h0 0 [(0, .ref l0)] []
  obtain ⟨u0, e0, hf⟩ := b_some hf
  refine aw_aload_n 0 dX7_results_0 rfl rfl ?_
  obtain ⟨r1, er1, hf⟩ := b_some hf
  refine aw_getR dX7_results_1 gfX7_9 er1 ?_
  refine aw_iconst (v := 2) dX7_results_4 (by decide) ?_
  obtain ⟨x2, ex2, hf⟩ := b_some hf
  refine aw_iald dX7_results_5 ex2 ?_
  refine aw_if_ne (tgt := 13) dX7_results_6 (by decide) (fun c3 => ?_) (fun c3 => ?_)
  · have hf := i_neg c3 hf
    refine aw_iconst (v := 3) dX7_results_13 (by decide) ?_
    have hq := Option.some.inj hf
    subst hq
    exact aw_iret hr dX7_results_14 ⟨rfl, rfl, rfl⟩
  · have hf := i_pos c3 hf
    refine aw_iconst (v := 2) dX7_results_9 (by decide) ?_
    refine aw_goto (tgt := 14) dX7_results_10 (by decide) ?_
    have hq := Option.some.inj hf
    subst hq
    exact aw_iret hr dX7_results_14 ⟨rfl, rfl, rfl⟩
theorem k_X7_results {l0 : Nat} {h0 : Hp} {q : Int32 × Hp} (hf : f_X7_results l0 h0 = some q) : ck h0 l0 7 = some () := by
  unfold f_X7_results at hf
  obtain ⟨u0, e0, hf⟩ := b_some hf
  exact e0
theorem dX7_goes_0 : decode cX7_goes 0 = .ok (.aload_n 0, 1) := by decide +kernel
theorem dX7_goes_1 : decode cX7_goes 1 = .ok (.invokevirtual 85, 3) := by decide +kernel
theorem dX7_goes_4 : decode cX7_goes 4 = .ok (.ifCond .eq 5, 3) := by decide +kernel
theorem dX7_goes_7 : decode cX7_goes 7 = .ok (.iconst 0, 1) := by decide +kernel
theorem dX7_goes_8 : decode cX7_goes 8 = .ok (.ireturn, 1) := by decide +kernel
theorem dX7_goes_9 : decode cX7_goes 9 = .ok (.iload_n 1, 1) := by decide +kernel
theorem dX7_goes_10 : decode cX7_goes 10 = .ok (.aload_n 0, 1) := by decide +kernel
theorem dX7_goes_11 : decode cX7_goes 11 = .ok (.getfield 9, 3) := by decide +kernel
theorem dX7_goes_14 : decode cX7_goes 14 = .ok (.iconst 1, 1) := by decide +kernel
theorem dX7_goes_15 : decode cX7_goes 15 = .ok (.iaload, 1) := by decide +kernel
theorem dX7_goes_16 : decode cX7_goes 16 = .ok (.if_icmp .ne 9, 3) := by decide +kernel
theorem dX7_goes_19 : decode cX7_goes 19 = .ok (.aload_n 0, 1) := by decide +kernel
theorem dX7_goes_20 : decode cX7_goes 20 = .ok (.invokevirtual 89, 3) := by decide +kernel
theorem dX7_goes_23 : decode cX7_goes 23 = .ok (.iconst 1, 1) := by decide +kernel
theorem dX7_goes_24 : decode cX7_goes 24 = .ok (.ireturn, 1) := by decide +kernel
theorem dX7_goes_25 : decode cX7_goes 25 = .ok (.iload_n 2, 1) := by decide +kernel
theorem dX7_goes_26 : decode cX7_goes 26 = .ok (.iload_n 1, 1) := by decide +kernel
theorem dX7_goes_27 : decode cX7_goes 27 = .ok (.invokestatic 92, 3) := by decide +kernel
theorem dX7_goes_30 : decode cX7_goes 30 = .ok (.ifCond .ne 12, 3) := by decide +kernel
theorem dX7_goes_33 : decode cX7_goes 33 = .ok (.aload_n 0, 1) := by decide +kernel
theorem dX7_goes_34 : decode cX7_goes 34 = .ok (.iload_n 1, 1) := by decide +kernel
theorem dX7_goes_35 : decode cX7_goes 35 = .ok (.iconst 1, 1) := by decide +kernel
theorem dX7_goes_36 : decode cX7_goes 36 = .ok (.iadd, 1) := by decide +kernel
theorem dX7_goes_37 : decode cX7_goes 37 = .ok (.iload_n 2, 1) := by decide +kernel
theorem dX7_goes_38 : decode cX7_goes 38 = .ok (.invokevirtual 95, 3) := by decide +kernel
theorem dX7_goes_41 : decode cX7_goes 41 = .ok (.ireturn, 1) := by decide +kernel
theorem dX7_goes_42 : decode cX7_goes 42 = .ok (.iconst 0, 1) := by decide +kernel
theorem dX7_goes_43 : decode cX7_goes 43 = .ok (.istore_n 3, 1) := by decide +kernel
theorem dX7_goes_44 : decode cX7_goes 44 = .ok (.iconst 0, 1) := by decide +kernel
theorem dX7_goes_45 : decode cX7_goes 45 = .ok (.istore 4, 2) := by decide +kernel
theorem dX7_goes_47 : decode cX7_goes 47 = .ok (.iload 4, 2) := by decide +kernel
theorem dX7_goes_49 : decode cX7_goes 49 = .ok (.aload_n 0, 1) := by decide +kernel
theorem dX7_goes_50 : decode cX7_goes 50 = .ok (.invokevirtual 98, 3) := by decide +kernel
theorem dX7_goes_53 : decode cX7_goes 53 = .ok (.if_icmp .ge 62, 3) := by decide +kernel
theorem dX7_goes_56 : decode cX7_goes 56 = .ok (.aload_n 0, 1) := by decide +kernel
theorem dX7_goes_57 : decode cX7_goes 57 = .ok (.getfield 101, 3) := by decide +kernel
theorem dX7_goes_60 : decode cX7_goes 60 = .ok (.ifCond .ne 7, 3) := by decide +kernel
theorem dX7_goes_63 : decode cX7_goes 63 = .ok (.iload_n 3, 1) := by decide +kernel
theorem dX7_goes_64 : decode cX7_goes 64 = .ok (.ifCond .ne 51, 3) := by decide +kernel
theorem dX7_goes_67 : decode cX7_goes 67 = .ok (.iload 4, 2) := by decide +kernel
theorem dX7_goes_69 : decode cX7_goes 69 = .ok (.invokestatic 105, 3) := by decide +kernel
theorem dX7_goes_72 : decode cX7_goes 72 = .ok (.istore 5, 2) := by decide +kernel
theorem dX7_goes_74 : decode cX7_goes 74 = .ok (.aload_n 0, 1) := by decide +kernel
theorem dX7_goes_75 : decode cX7_goes 75 = .ok (.iload_n 1, 1) := by decide +kernel
theorem dX7_goes_76 : decode cX7_goes 76 = .ok (.iload 5, 2) := by decide +kernel
theorem dX7_goes_78 : decode cX7_goes 78 = .ok (.iconst 1, 1) := by decide +kernel
theorem dX7_goes_79 : decode cX7_goes 79 = .ok (.invokevirtual 54, 3) := by decide +kernel
theorem dX7_goes_82 : decode cX7_goes 82 = .ok (.aload_n 0, 1) := by decide +kernel
theorem dX7_goes_83 : decode cX7_goes 83 = .ok (.getfield 22, 3) := by decide +kernel
theorem dX7_goes_86 : decode cX7_goes 86 = .ok (.iload_n 1, 1) := by decide +kernel
theorem dX7_goes_87 : decode cX7_goes 87 = .ok (.iload 5, 2) := by decide +kernel
theorem dX7_goes_89 : decode cX7_goes 89 = .ok (.iastore, 1) := by decide +kernel
theorem dX7_goes_90 : decode cX7_goes 90 = .ok (.iload_n 3, 1) := by decide +kernel
theorem dX7_goes_91 : decode cX7_goes 91 = .ok (.aload_n 0, 1) := by decide +kernel
theorem dX7_goes_92 : decode cX7_goes 92 = .ok (.iload_n 1, 1) := by decide +kernel
theorem dX7_goes_93 : decode cX7_goes 93 = .ok (.iconst 1, 1) := by decide +kernel
theorem dX7_goes_94 : decode cX7_goes 94 = .ok (.iadd, 1) := by decide +kernel
theorem dX7_goes_95 : decode cX7_goes 95 = .ok (.iload_n 2, 1) := by decide +kernel
theorem dX7_goes_96 : decode cX7_goes 96 = .ok (.invokevirtual 95, 3) := by decide +kernel
theorem dX7_goes_99 : decode cX7_goes 99 = .ok (.ior, 1) := by decide +kernel
theorem dX7_goes_100 : decode cX7_goes 100 = .ok (.istore_n 3, 1) := by decide +kernel
theorem dX7_goes_101 : decode cX7_goes 101 = .ok (.aload_n 0, 1) := by decide +kernel
theorem dX7_goes_102 : decode cX7_goes 102 = .ok (.iload_n 1, 1) := by decide +kernel
theorem dX7_goes_103 : decode cX7_goes 103 = .ok (.iload 5, 2) := by decide +kernel
theorem dX7_goes_105 : decode cX7_goes 105 = .ok (.iconst (-1), 1) := by decide +kernel
theorem dX7_goes_106 : decode cX7_goes 106 = .ok (.invokevirtual 54, 3) := by decide +kernel
theorem dX7_goes_109 : decode cX7_goes 109 = .ok (.iinc 4 1, 3) := by decide +kernel
theorem dX7_goes_112 : decode cX7_goes 112 = .ok (.goto (-65), 3) := by decide +kernel
theorem dX7_goes_115 : decode cX7_goes 115 = .ok (.iload_n 3, 1) := by decide +kernel
theorem dX7_goes_116 : decode cX7_goes 116 = .ok (.ireturn, 1) := by decide +kernel
def f_X7_goes_67 (ks : Nat × Int32 × Int32 → Hp → Option (Int32 × Hp)) (k47 : Nat × Int32 × Int32 × Int32 × Int32 → Hp → Option (Int32 × Hp)) (l0 : Nat) (l1 : Int32) (l2 : Int32) (l3 : Int32) (l4 : Int32) (h0 : Hp) : Option (Int32 × Hp) :=
  (f_X7_resultAt l4 h0).bind fun q1 => (f_X7_brings l0 l1 q1.1 (1 : Int32) q1.2).bind fun q2 => (gR q2.2 l0 7 7).bind fun r3 => (aS q2.2 r3 l1 q1.1).bind fun h4 => (ck h4 l0 7).bind fun u6 => (ks (l0, (l1 + (1 : Int32)), l2) h4).bind fun q5 => (some (l3 ||| q5.1)).bind fun x7 => (f_X7_brings l0 l1 q1.1 (-1 : Int32) q5.2).bind fun q8 => (some (l4 + 1)).bind fun x9 => k47 (l0, l1, l2, x7, x9) q8.2
set_option maxRecDepth 100000 in
set_option maxHeartbeats 4000000 in
theorem c_X7_goes_67 {X : Cx} {adr : Nat → Nat} {q : Int32 × Hp} {d : Nat} (hdd : 2 ≤ d) {ks : Nat × Int32 × Int32 → Hp → Option (Int32 × Hp)} (hks : ∀ a h p, ks a h = some p → Mt d yX7_goes cX7_goes 6 (some .boolean) [.ref a.1, .int a.2.1, .int a.2.2] h (some (.int p.1)) p.2) (hr : (mth X).sig.returnType = (some .boolean)) {k47 : Nat × Int32 × Int32 × Int32 × Int32 → Hp → Option (Int32 × Hp)} (hk47 : ∀ v h, k47 v h = some q → AW X cX7_goes 6 RX7 (rmd (d + 1) 0 0) (Qmet X 0 0 (Qe (some (.int q.1)) q.2 adr)) 0 0 adr h 47 [(0, .ref v.1), (1, .int v.2.1), (2, .int v.2.2.1), (3, .int v.2.2.2.1), (4, .int v.2.2.2.2)] []) {l0 : Nat} {l1 : Int32} {l2 : Int32} {l3 : Int32} {l4 : Int32} {h0 : Hp} (hf : f_X7_goes_67 ks k47 l0 l1 l2 l3 l4 h0 = some q) : AW X cX7_goes 6 RX7 (rmd (d + 1) 0 0) (Qmet X 0 0 (Qe (some (.int q.1)) q.2 adr)) 0 0 adr h0 67 [(0, .ref l0), (1, .int l1), (2, .int l2), (3, .int l3), (4, .int l4)] [] := by
  unfold f_X7_goes_67 at hf
  refine aw_iload 4 dX7_goes_67 rfl ?_
  obtain ⟨q1, eq1, hf⟩ := b_some hf
  refine aw_cS (as := [.int l4]) dX7_goes_69 moX7_resultAt soX7_resultAt mlX7_105 (rm_ok (by omega) (by decide)) ⟨Nat.le_refl _, Nat.le_refl _⟩ (Nat.le_of_ble_eq_true rfl) rfl (c_X7_resultAt eq1) ?_
  refine aw_istore (L' := [(5, .int q1.1), (0, .ref l0), (1, .int l1), (2, .int l2), (3, .int l3), (4, .int l4)]) dX7_goes_72 (by decide) rfl ?_
  refine aw_aload_n 1 dX7_goes_74 rfl rfl ?_
  refine aw_iload_n 2 dX7_goes_75 rfl rfl ?_
  refine aw_iload 0 dX7_goes_76 rfl ?_
  refine aw_iconst (v := 1) dX7_goes_78 (by decide) ?_
  obtain ⟨q2, eq2, hf⟩ := b_some hf
  refine aw_cV0 (as := [.int l1, .int q1.1, .int (1 : Int32)]) dX7_goes_79 moX7_brings voX7_brings mlX7_54 (k_X7_brings eq2) rfl (rm_ok (by omega) (by decide)) ⟨Nat.le_refl _, Nat.le_refl _⟩ (Nat.le_of_ble_eq_true rfl) rfl (c_X7_brings eq2) ?_
  refine aw_aload_n 1 dX7_goes_82 rfl rfl ?_
  obtain ⟨r3, er3, hf⟩ := b_some hf
  refine aw_getR dX7_goes_83 gfX7_22 er3 ?_
  refine aw_iload_n 2 dX7_goes_86 rfl rfl ?_
  refine aw_iload 0 dX7_goes_87 rfl ?_
  obtain ⟨h4, eh4, hf⟩ := b_some hf
  refine aw_iast dX7_goes_89 eh4 ?_
  refine aw_iload_n 4 dX7_goes_90 rfl rfl ?_
  refine aw_aload_n 1 dX7_goes_91 rfl rfl ?_
  refine aw_iload_n 2 dX7_goes_92 rfl rfl ?_
  refine aw_iconst (v := 1) dX7_goes_93 (by decide) ?_
  refine aw_iadd dX7_goes_94 ?_
  refine aw_iload_n 3 dX7_goes_95 rfl rfl ?_
  obtain ⟨u6, eu6, hf⟩ := b_some hf
  obtain ⟨q5, eq5, hf⟩ := b_some hf
  refine aw_cV (as := [.int (l1 + (1 : Int32)), .int l2]) dX7_goes_96 moX7_goes voX7_goes mlX7_95 eu6 rfl (rm_ok (by omega) (by decide)) ⟨Nat.le_refl _, Nat.le_refl _⟩ (Nat.le_of_ble_eq_true rfl) rfl (hks _ _ _ eq5) ?_
  refine aw_ior dX7_goes_99 ?_
  obtain ⟨x7, ex7, hf⟩ := b_some hf
  refine aw_nm ex7 ?_
  refine aw_istore_n (L' := [(3, .int x7), (5, .int q1.1), (0, .ref l0), (1, .int l1), (2, .int l2), (4, .int l4)]) dX7_goes_100 rfl (by decide) rfl ?_
  refine aw_aload_n 2 dX7_goes_101 rfl rfl ?_
  refine aw_iload_n 3 dX7_goes_102 rfl rfl ?_
  refine aw_iload 1 dX7_goes_103 rfl ?_
  refine aw_iconst (v := -1) dX7_goes_105 (by decide) ?_
  obtain ⟨q8, eq8, hf⟩ := b_some hf
  refine aw_cV0 (as := [.int l1, .int q1.1, .int (-1 : Int32)]) dX7_goes_106 moX7_brings voX7_brings mlX7_54 (k_X7_brings eq8) rfl (rm_ok (by omega) (by decide)) ⟨Nat.le_refl _, Nat.le_refl _⟩ (Nat.le_of_ble_eq_true rfl) rfl (c_X7_brings eq8) ?_
  obtain ⟨x9, ex9, hf⟩ := b_some hf
  refine aw_iinc (v := x9) (L' := [(4, .int x9), (3, .int x7), (5, .int q1.1), (0, .ref l0), (1, .int l1), (2, .int l2)]) 5 dX7_goes_109 rfl (Option.some.inj ex9) (by decide) rfl ?_
  refine aw_goto (tgt := 47) dX7_goes_112 (by decide) ?_
  exact aw_sub [3, 4, 5, 1, 0] rfl (hk47 _ _ hf)
def f_X7_goes_47 (ks : Nat × Int32 × Int32 → Hp → Option (Int32 × Hp)) (k47 : Nat × Int32 × Int32 × Int32 × Int32 → Hp → Option (Int32 × Hp)) (v : Nat × Int32 × Int32 × Int32 × Int32) (h0 : Hp) : Option (Int32 × Hp) :=
  match v with
  | (l0, l1, l2, l3, l4) => (f_X7_results l0 h0).bind fun q1 => if q1.1 ≤ l4 then ((bz l3).bind fun u3 => some (l3, q1.2)) else ((gI q1.2 l0 7 9).bind fun x4 => if x4 = 0 then (if l3 = 0 then (f_X7_goes_67 ks k47 l0 l1 l2 l3 l4 q1.2) else ((bz l3).bind fun u7 => some (l3, q1.2))) else (f_X7_goes_67 ks k47 l0 l1 l2 l3 l4 q1.2))
set_option maxRecDepth 100000 in
set_option maxHeartbeats 4000000 in
theorem c_X7_goes_47 {X : Cx} {adr : Nat → Nat} {q : Int32 × Hp} {d : Nat} (hdd : 2 ≤ d) {ks : Nat × Int32 × Int32 → Hp → Option (Int32 × Hp)} (hks : ∀ a h p, ks a h = some p → Mt d yX7_goes cX7_goes 6 (some .boolean) [.ref a.1, .int a.2.1, .int a.2.2] h (some (.int p.1)) p.2) (hr : (mth X).sig.returnType = (some .boolean)) (n : Nat) : ∀ v h0, lp (f_X7_goes_47 ks) n v h0 = some q → AW X cX7_goes 6 RX7 (rmd (d + 1) 0 0) (Qmet X 0 0 (Qe (some (.int q.1)) q.2 adr)) 0 0 adr h0 47 [(0, .ref v.1), (1, .int v.2.1), (2, .int v.2.2.1), (3, .int v.2.2.2.1), (4, .int v.2.2.2.2)] [] := by
  refine aw_lp (fun k47 hk47 v h0 hf => ?_) n
  obtain ⟨l0, l1, l2, l3, l4⟩ := v
  unfold f_X7_goes_47 at hf
  dsimp only at hf
  show AW X cX7_goes 6 RX7 (rmd (d + 1) 0 0) (Qmet X 0 0 (Qe (some (.int q.1)) q.2 adr)) 0 0 adr h0 47 [(0, .ref l0), (1, .int l1), (2, .int l2), (3, .int l3), (4, .int l4)] []
  refine aw_iload 4 dX7_goes_47 rfl ?_
  refine aw_aload_n 0 dX7_goes_49 rfl rfl ?_
  obtain ⟨q1, eq1, hf⟩ := b_some hf
  refine aw_cV (as := []) dX7_goes_50 moX7_results voX7_results mlX7_98 (k_X7_results eq1) rfl (rm_ok (by omega) (by decide)) ⟨Nat.le_refl _, Nat.le_refl _⟩ (Nat.le_of_ble_eq_true rfl) rfl (c_X7_results eq1) ?_
  refine aw_icmp_ge (tgt := 115) dX7_goes_53 (by decide) (fun c2 => ?_) (fun c2 => ?_)
  · have hf := i_pos c2 hf
    refine aw_iload_n 3 dX7_goes_115 rfl rfl ?_
    obtain ⟨u3, eu3, hf⟩ := b_some hf
    have hq := Option.some.inj hf
    subst hq
    exact aw_zret hr (bz_nar eu3) dX7_goes_116 ⟨rfl, rfl, rfl⟩
  · have hf := i_neg c2 hf
    refine aw_aload_n 0 dX7_goes_56 rfl rfl ?_
    obtain ⟨x4, ex4, hf⟩ := b_some hf
    refine aw_getI dX7_goes_57 gfX7_101 ex4 ?_
    refine aw_if_ne (tgt := 67) dX7_goes_60 (by decide) (fun c5 => ?_) (fun c5 => ?_)
    · have hf := i_neg c5 hf
      exact aw_sub [0, 1, 2, 3, 4] rfl (c_X7_goes_67 hdd hks hr hk47 hf)
    · have hf := i_pos c5 hf
      refine aw_iload_n 3 dX7_goes_63 rfl rfl ?_
      refine aw_if_ne (tgt := 115) dX7_goes_64 (by decide) (fun c6 => ?_) (fun c6 => ?_)
      · have hf := i_neg c6 hf
        refine aw_iload_n 3 dX7_goes_115 rfl rfl ?_
        obtain ⟨u7, eu7, hf⟩ := b_some hf
        have hq := Option.some.inj hf
        subst hq
        exact aw_zret hr (bz_nar eu7) dX7_goes_116 ⟨rfl, rfl, rfl⟩
      · have hf := i_pos c6 hf
        exact aw_sub [0, 1, 2, 3, 4] rfl (c_X7_goes_67 hdd hks hr hk47 hf)
def f_X7_goes_r (ks : Nat × Int32 × Int32 → Hp → Option (Int32 × Hp)) (l0 : Nat) (l1 : Int32) (l2 : Int32) (h0 : Hp) : Option (Int32 × Hp) :=
  (ck h0 l0 7).bind fun _ => (f_X7_isTooMuch l0 h0).bind fun q1 => if q1.1 = 0 then ((gR q1.2 l0 7 0).bind fun r3 => (aL q1.2 r3 (1 : Int32)).bind fun x4 => if l1 = x4 then ((f_X7_notesDrawn l0 q1.2).bind fun q11 => some ((1 : Int32), q11.2)) else ((f_X7_has l2 l1 q1.2).bind fun q6 => if q6.1 = 0 then ((ck q6.2 l0 7).bind fun u9 => (ks (l0, (l1 + (1 : Int32)), l2) q6.2).bind fun q8 => (bz q8.1).bind fun u10 => some (q8.1, q8.2)) else (lp (f_X7_goes_47 ks) 600 (l0, l1, l2, (0 : Int32), (0 : Int32)) q6.2))) else (some ((0 : Int32), q1.2))
set_option maxRecDepth 100000 in
set_option maxHeartbeats 4000000 in
theorem c_X7_goes_r {d : Nat} (hdd : 2 ≤ d) {ks : Nat × Int32 × Int32 → Hp → Option (Int32 × Hp)} (hks : ∀ a h p, ks a h = some p → Mt d yX7_goes cX7_goes 6 (some .boolean) [.ref a.1, .int a.2.1, .int a.2.2] h (some (.int p.1)) p.2) {l0 : Nat} {l1 : Int32} {l2 : Int32} {h0 : Hp} {q : Int32 × Hp} (hf : f_X7_goes_r ks l0 l1 l2 h0 = some q) : Mt (d + 1) yX7_goes cX7_goes 6 (some .boolean) [.ref l0, .int l1, .int l2] h0 (some (.int q.1)) q.2 := by
  refine MtQ.of (by decide) (Nat.le_of_ble_eq_true rfl) (fun X adr hr hn => ?_)
  unfold f_X7_goes_r at hf
  show AW X cX7_goes 6 RX7 (rmd (d + 1) 0 0) (Qmet X 0 0 (Qe (some (.int q.1)) q.2 adr)) 0 0 adr h0 0 [(0, .ref l0), (1, .int l1), (2, .int l2)] []
  obtain ⟨u0, e0, hf⟩ := b_some hf
  refine aw_aload_n 0 dX7_goes_0 rfl rfl ?_
  obtain ⟨q1, eq1, hf⟩ := b_some hf
  refine aw_cV (as := []) dX7_goes_1 moX7_isTooMuch voX7_isTooMuch mlX7_85 (k_X7_isTooMuch eq1) rfl (rm_ok (by omega) (by decide)) ⟨Nat.le_refl _, Nat.le_refl _⟩ (Nat.le_of_ble_eq_true rfl) rfl (c_X7_isTooMuch eq1) ?_
  refine aw_if_eq (tgt := 9) dX7_goes_4 (by decide) (fun c2 => ?_) (fun c2 => ?_)
  · have hf := i_pos c2 hf
    refine aw_iload_n 1 dX7_goes_9 rfl rfl ?_
    refine aw_aload_n 0 dX7_goes_10 rfl rfl ?_
    obtain ⟨r3, er3, hf⟩ := b_some hf
    refine aw_getR dX7_goes_11 gfX7_9 er3 ?_
    refine aw_iconst (v := 1) dX7_goes_14 (by decide) ?_
    obtain ⟨x4, ex4, hf⟩ := b_some hf
    refine aw_iald dX7_goes_15 ex4 ?_
    refine aw_icmp_ne (tgt := 25) dX7_goes_16 (by decide) (fun c5 => ?_) (fun c5 => ?_)
    · have hf := i_neg c5 hf
      refine aw_iload_n 2 dX7_goes_25 rfl rfl ?_
      refine aw_iload_n 1 dX7_goes_26 rfl rfl ?_
      obtain ⟨q6, eq6, hf⟩ := b_some hf
      refine aw_cS (as := [.int l2, .int l1]) dX7_goes_27 moX7_has soX7_has mlX7_92 (rm_ok (by omega) (by decide)) ⟨Nat.le_refl _, Nat.le_refl _⟩ (Nat.le_of_ble_eq_true rfl) rfl (c_X7_has eq6) ?_
      refine aw_if_ne (tgt := 42) dX7_goes_30 (by decide) (fun c7 => ?_) (fun c7 => ?_)
      · have hf := i_neg c7 hf
        refine aw_iconst (v := 0) dX7_goes_42 (by decide) ?_
        refine aw_istore_n (L' := [(3, .int (0 : Int32)), (0, .ref l0), (1, .int l1), (2, .int l2)]) dX7_goes_43 rfl (by decide) rfl ?_
        refine aw_iconst (v := 0) dX7_goes_44 (by decide) ?_
        refine aw_istore (L' := [(4, .int (0 : Int32)), (3, .int (0 : Int32)), (0, .ref l0), (1, .int l1), (2, .int l2)]) dX7_goes_45 (by decide) rfl ?_
        exact aw_sub [2, 3, 4, 1, 0] rfl (c_X7_goes_47 hdd hks hr 600 _ _ hf)
      · have hf := i_pos c7 hf
        refine aw_aload_n 0 dX7_goes_33 rfl rfl ?_
        refine aw_iload_n 1 dX7_goes_34 rfl rfl ?_
        refine aw_iconst (v := 1) dX7_goes_35 (by decide) ?_
        refine aw_iadd dX7_goes_36 ?_
        refine aw_iload_n 2 dX7_goes_37 rfl rfl ?_
        obtain ⟨u9, eu9, hf⟩ := b_some hf
        obtain ⟨q8, eq8, hf⟩ := b_some hf
        refine aw_cV (as := [.int (l1 + (1 : Int32)), .int l2]) dX7_goes_38 moX7_goes voX7_goes mlX7_95 eu9 rfl (rm_ok (by omega) (by decide)) ⟨Nat.le_refl _, Nat.le_refl _⟩ (Nat.le_of_ble_eq_true rfl) rfl (hks _ _ _ eq8) ?_
        obtain ⟨u10, eu10, hf⟩ := b_some hf
        have hq := Option.some.inj hf
        subst hq
        exact aw_zret hr (bz_nar eu10) dX7_goes_41 ⟨rfl, rfl, rfl⟩
    · have hf := i_pos c5 hf
      refine aw_aload_n 0 dX7_goes_19 rfl rfl ?_
      obtain ⟨q11, eq11, hf⟩ := b_some hf
      refine aw_cV0 (as := []) dX7_goes_20 moX7_notesDrawn voX7_notesDrawn mlX7_89 (k_X7_notesDrawn eq11) rfl (rm_ok (by omega) (by decide)) ⟨Nat.le_refl _, Nat.le_refl _⟩ (Nat.le_of_ble_eq_true rfl) rfl (c_X7_notesDrawn eq11) ?_
      refine aw_iconst (v := 1) dX7_goes_23 (by decide) ?_
      have hq := Option.some.inj hf
      subst hq
      exact aw_zret hr (by decide) dX7_goes_24 ⟨rfl, rfl, rfl⟩
  · have hf := i_neg c2 hf
    refine aw_iconst (v := 0) dX7_goes_7 (by decide) ?_
    have hq := Option.some.inj hf
    subst hq
    exact aw_zret hr (by decide) dX7_goes_8 ⟨rfl, rfl, rfl⟩
def f_X7_goes (n : Nat) (l0 : Nat) (l1 : Int32) (l2 : Int32) (h0 : Hp) : Option (Int32 × Hp) := lp (fun ks a h => f_X7_goes_r ks a.1 a.2.1 a.2.2 h) n (l0, l1, l2) h0
theorem c_X7_goes_l : ∀ (n : Nat) (a : Nat × Int32 × Int32) (h : Hp) (p : Int32 × Hp), lp (fun ks a h => f_X7_goes_r ks a.1 a.2.1 a.2.2 h) n a h = some p → Mt (2 + 1 * n) yX7_goes cX7_goes 6 (some .boolean) [.ref a.1, .int a.2.1, .int a.2.2] h (some (.int p.1)) p.2
  | 0, _, _, _, hf => by cases hf
  | n + 1, a, h, p, hf => c_X7_goes_r (d := 2 + 1 * n) (Nat.le_add_right _ _) (c_X7_goes_l n) hf
theorem c_X7_goes (n : Nat) {l0 : Nat} {l1 : Int32} {l2 : Int32} {h0 : Hp} {q : Int32 × Hp} (hf : f_X7_goes n l0 l1 l2 h0 = some q) : Mt (2 + 1 * n) yX7_goes cX7_goes 6 (some .boolean) [.ref l0, .int l1, .int l2] h0 (some (.int q.1)) q.2 := c_X7_goes_l n _ h0 q hf
theorem k_X7_goes {n : Nat} {l0 : Nat} {l1 : Int32} {l2 : Int32} {h0 : Hp} {q : Int32 × Hp} (hf : f_X7_goes n l0 l1 l2 h0 = some q) : ck h0 l0 7 = some () := by
  cases n with
  | zero => cases hf
  | succ n =>
    obtain ⟨u0, e0, hf⟩ := b_some (show (ck h0 l0 7).bind _ = some q from hf)
    exact e0
theorem dX7_leftSet_0 : decode cX7_leftSet 0 = .ok (.iconst 0, 1) := by decide +kernel
theorem dX7_leftSet_1 : decode cX7_leftSet 1 = .ok (.istore_n 1, 1) := by decide +kernel
theorem dX7_leftSet_2 : decode cX7_leftSet 2 = .ok (.iconst 0, 1) := by decide +kernel
theorem dX7_leftSet_3 : decode cX7_leftSet 3 = .ok (.istore_n 2, 1) := by decide +kernel
theorem dX7_leftSet_4 : decode cX7_leftSet 4 = .ok (.iload_n 2, 1) := by decide +kernel
theorem dX7_leftSet_5 : decode cX7_leftSet 5 = .ok (.aload_n 0, 1) := by decide +kernel
theorem dX7_leftSet_6 : decode cX7_leftSet 6 = .ok (.getfield 9, 3) := by decide +kernel
theorem dX7_leftSet_9 : decode cX7_leftSet 9 = .ok (.iconst 1, 1) := by decide +kernel
theorem dX7_leftSet_10 : decode cX7_leftSet 10 = .ok (.iaload, 1) := by decide +kernel
theorem dX7_leftSet_11 : decode cX7_leftSet 11 = .ok (.if_icmp .ge 29, 3) := by decide +kernel
theorem dX7_leftSet_14 : decode cX7_leftSet 14 = .ok (.iload_n 1, 1) := by decide +kernel
theorem dX7_leftSet_15 : decode cX7_leftSet 15 = .ok (.aload_n 0, 1) := by decide +kernel
theorem dX7_leftSet_16 : decode cX7_leftSet 16 = .ok (.getfield 16, 3) := by decide +kernel
theorem dX7_leftSet_19 : decode cX7_leftSet 19 = .ok (.iload_n 2, 1) := by decide +kernel
theorem dX7_leftSet_20 : decode cX7_leftSet 20 = .ok (.iaload, 1) := by decide +kernel
theorem dX7_leftSet_21 : decode cX7_leftSet 21 = .ok (.iconst (-1), 1) := by decide +kernel
theorem dX7_leftSet_22 : decode cX7_leftSet 22 = .ok (.if_icmp .ne 9, 3) := by decide +kernel
theorem dX7_leftSet_25 : decode cX7_leftSet 25 = .ok (.iconst 1, 1) := by decide +kernel
theorem dX7_leftSet_26 : decode cX7_leftSet 26 = .ok (.iload_n 2, 1) := by decide +kernel
theorem dX7_leftSet_27 : decode cX7_leftSet 27 = .ok (.ishl, 1) := by decide +kernel
theorem dX7_leftSet_28 : decode cX7_leftSet 28 = .ok (.goto 4, 3) := by decide +kernel
theorem dX7_leftSet_31 : decode cX7_leftSet 31 = .ok (.iconst 0, 1) := by decide +kernel
theorem dX7_leftSet_32 : decode cX7_leftSet 32 = .ok (.ior, 1) := by decide +kernel
theorem dX7_leftSet_33 : decode cX7_leftSet 33 = .ok (.istore_n 1, 1) := by decide +kernel
theorem dX7_leftSet_34 : decode cX7_leftSet 34 = .ok (.iinc 2 1, 3) := by decide +kernel
theorem dX7_leftSet_37 : decode cX7_leftSet 37 = .ok (.goto (-33), 3) := by decide +kernel
theorem dX7_leftSet_40 : decode cX7_leftSet 40 = .ok (.iload_n 1, 1) := by decide +kernel
theorem dX7_leftSet_41 : decode cX7_leftSet 41 = .ok (.ireturn, 1) := by decide +kernel
def f_X7_leftSet_4 (k4 : Nat × Int32 × Int32 → Hp → Option (Int32 × Hp)) (v : Nat × Int32 × Int32) (h0 : Hp) : Option (Int32 × Hp) :=
  match v with
  | (l0, l1, l2) => (gR h0 l0 7 0).bind fun r1 => (aL h0 r1 (1 : Int32)).bind fun x2 => if x2 ≤ l2 then (some (l1, h0)) else ((gR h0 l0 7 3).bind fun r4 => (aL h0 r4 l2).bind fun x5 => if x5 = (-1 : Int32) then ((some (l1 ||| ((1 : Int32) <<< (l2 &&& 31)))).bind fun x9 => (some (l2 + 1)).bind fun x10 => k4 (l0, x9, x10) h0) else ((some (l1 ||| (0 : Int32))).bind fun x7 => (some (l2 + 1)).bind fun x8 => k4 (l0, x7, x8) h0))
set_option maxRecDepth 100000 in
set_option maxHeartbeats 4000000 in
theorem c_X7_leftSet_4 {X : Cx} {adr : Nat → Nat} {q : Int32 × Hp} (hr : (mth X).sig.returnType = (some .int)) (n : Nat) : ∀ v h0, lp (f_X7_leftSet_4) n v h0 = some q → AW X cX7_leftSet 3 RX7 (rmd 1 0 0) (Qmet X 0 0 (Qe (some (.int q.1)) q.2 adr)) 0 0 adr h0 4 [(0, .ref v.1), (1, .int v.2.1), (2, .int v.2.2)] [] := by
  refine aw_lp (fun k4 hk4 v h0 hf => ?_) n
  obtain ⟨l0, l1, l2⟩ := v
  unfold f_X7_leftSet_4 at hf
  dsimp only at hf
  show AW X cX7_leftSet 3 RX7 (rmd 1 0 0) (Qmet X 0 0 (Qe (some (.int q.1)) q.2 adr)) 0 0 adr h0 4 [(0, .ref l0), (1, .int l1), (2, .int l2)] []
  refine aw_iload_n 2 dX7_leftSet_4 rfl rfl ?_
  refine aw_aload_n 0 dX7_leftSet_5 rfl rfl ?_
  obtain ⟨r1, er1, hf⟩ := b_some hf
  refine aw_getR dX7_leftSet_6 gfX7_9 er1 ?_
  refine aw_iconst (v := 1) dX7_leftSet_9 (by decide) ?_
  obtain ⟨x2, ex2, hf⟩ := b_some hf
  refine aw_iald dX7_leftSet_10 ex2 ?_
  refine aw_icmp_ge (tgt := 40) dX7_leftSet_11 (by decide) (fun c3 => ?_) (fun c3 => ?_)
  · have hf := i_pos c3 hf
    refine aw_iload_n 1 dX7_leftSet_40 rfl rfl ?_
    have hq := Option.some.inj hf
    subst hq
    exact aw_iret hr dX7_leftSet_41 ⟨rfl, rfl, rfl⟩
  · have hf := i_neg c3 hf
    refine aw_iload_n 1 dX7_leftSet_14 rfl rfl ?_
    refine aw_aload_n 0 dX7_leftSet_15 rfl rfl ?_
    obtain ⟨r4, er4, hf⟩ := b_some hf
    refine aw_getR dX7_leftSet_16 gfX7_16 er4 ?_
    refine aw_iload_n 2 dX7_leftSet_19 rfl rfl ?_
    obtain ⟨x5, ex5, hf⟩ := b_some hf
    refine aw_iald dX7_leftSet_20 ex5 ?_
    refine aw_iconst (v := -1) dX7_leftSet_21 (by decide) ?_
    refine aw_icmp_ne (tgt := 31) dX7_leftSet_22 (by decide) (fun c6 => ?_) (fun c6 => ?_)
    · have hf := i_neg c6 hf
      refine aw_iconst (v := 0) dX7_leftSet_31 (by decide) ?_
      refine aw_ior dX7_leftSet_32 ?_
      obtain ⟨x7, ex7, hf⟩ := b_some hf
      refine aw_nm ex7 ?_
      refine aw_istore_n (L' := [(1, .int x7), (0, .ref l0), (2, .int l2)]) dX7_leftSet_33 rfl (by decide) rfl ?_
      obtain ⟨x8, ex8, hf⟩ := b_some hf
      refine aw_iinc (v := x8) (L' := [(2, .int x8), (1, .int x7), (0, .ref l0)]) 2 dX7_leftSet_34 rfl (Option.some.inj ex8) (by decide) rfl ?_
      refine aw_goto (tgt := 4) dX7_leftSet_37 (by decide) ?_
      exact aw_sub [2, 1, 0] rfl (hk4 _ _ hf)
    · have hf := i_pos c6 hf
      refine aw_iconst (v := 1) dX7_leftSet_25 (by decide) ?_
      refine aw_iload_n 2 dX7_leftSet_26 rfl rfl ?_
      refine aw_ishl dX7_leftSet_27 ?_
      refine aw_goto (tgt := 32) dX7_leftSet_28 (by decide) ?_
      refine aw_ior dX7_leftSet_32 ?_
      obtain ⟨x9, ex9, hf⟩ := b_some hf
      refine aw_nm ex9 ?_
      refine aw_istore_n (L' := [(1, .int x9), (0, .ref l0), (2, .int l2)]) dX7_leftSet_33 rfl (by decide) rfl ?_
      obtain ⟨x10, ex10, hf⟩ := b_some hf
      refine aw_iinc (v := x10) (L' := [(2, .int x10), (1, .int x9), (0, .ref l0)]) 2 dX7_leftSet_34 rfl (Option.some.inj ex10) (by decide) rfl ?_
      refine aw_goto (tgt := 4) dX7_leftSet_37 (by decide) ?_
      exact aw_sub [2, 1, 0] rfl (hk4 _ _ hf)
def f_X7_leftSet (l0 : Nat) (h0 : Hp) : Option (Int32 × Hp) :=
  (ck h0 l0 7).bind fun _ => lp (f_X7_leftSet_4) 600 (l0, (0 : Int32), (0 : Int32)) h0
set_option maxRecDepth 100000 in
set_option maxHeartbeats 4000000 in
theorem c_X7_leftSet {l0 : Nat} {h0 : Hp} {q : Int32 × Hp} (hf : f_X7_leftSet l0 h0 = some q) : Mt 1 yX7_leftSet cX7_leftSet 3 (some .int) [.ref l0] h0 (some (.int q.1)) q.2 := by
  refine MtQ.of (by decide) (Nat.le_of_ble_eq_true rfl) (fun X adr hr hn => ?_)
  unfold f_X7_leftSet at hf
  show AW X cX7_leftSet 3 RX7 (rmd 1 0 0) (Qmet X 0 0 (Qe (some (.int q.1)) q.2 adr)) 0 0 adr h0 0 [(0, .ref l0)] []
  obtain ⟨u0, e0, hf⟩ := b_some hf
  refine aw_iconst (v := 0) dX7_leftSet_0 (by decide) ?_
  refine aw_istore_n (L' := [(1, .int (0 : Int32)), (0, .ref l0)]) dX7_leftSet_1 rfl (by decide) rfl ?_
  refine aw_iconst (v := 0) dX7_leftSet_2 (by decide) ?_
  refine aw_istore_n (L' := [(2, .int (0 : Int32)), (1, .int (0 : Int32)), (0, .ref l0)]) dX7_leftSet_3 rfl (by decide) rfl ?_
  exact aw_sub [2, 1, 0] rfl (c_X7_leftSet_4 hr 600 _ _ hf)
theorem k_X7_leftSet {l0 : Nat} {h0 : Hp} {q : Int32 × Hp} (hf : f_X7_leftSet l0 h0 = some q) : ck h0 l0 7 = some () := by
  unfold f_X7_leftSet at hf
  obtain ⟨u0, e0, hf⟩ := b_some hf
  exact e0
theorem dX7_isInNow_0 : decode cX7_isInNow 0 = .ok (.aload_n 0, 1) := by decide +kernel
theorem dX7_isInNow_1 : decode cX7_isInNow 1 = .ok (.iload_n 1, 1) := by decide +kernel
theorem dX7_isInNow_2 : decode cX7_isInNow 2 = .ok (.invokevirtual 68, 3) := by decide +kernel
theorem dX7_isInNow_5 : decode cX7_isInNow 5 = .ok (.istore_n 3, 1) := by decide +kernel
theorem dX7_isInNow_6 : decode cX7_isInNow 6 = .ok (.aload_n 0, 1) := by decide +kernel
theorem dX7_isInNow_7 : decode cX7_isInNow 7 = .ok (.iload_n 1, 1) := by decide +kernel
theorem dX7_isInNow_8 : decode cX7_isInNow 8 = .ok (.putfield 75, 3) := by decide +kernel
theorem dX7_isInNow_11 : decode cX7_isInNow 11 = .ok (.aload_n 0, 1) := by decide +kernel
theorem dX7_isInNow_12 : decode cX7_isInNow 12 = .ok (.aload_n 0, 1) := by decide +kernel
theorem dX7_isInNow_13 : decode cX7_isInNow 13 = .ok (.iload_n 1, 1) := by decide +kernel
theorem dX7_isInNow_14 : decode cX7_isInNow 14 = .ok (.invokevirtual 108, 3) := by decide +kernel
theorem dX7_isInNow_17 : decode cX7_isInNow 17 = .ok (.putfield 79, 3) := by decide +kernel
theorem dX7_isInNow_20 : decode cX7_isInNow 20 = .ok (.aload_n 0, 1) := by decide +kernel
theorem dX7_isInNow_21 : decode cX7_isInNow 21 = .ok (.iload_n 2, 1) := by decide +kernel
theorem dX7_isInNow_22 : decode cX7_isInNow 22 = .ok (.putfield 101, 3) := by decide +kernel
theorem dX7_isInNow_25 : decode cX7_isInNow 25 = .ok (.aload_n 0, 1) := by decide +kernel
theorem dX7_isInNow_26 : decode cX7_isInNow 26 = .ok (.iconst (-1), 1) := by decide +kernel
theorem dX7_isInNow_27 : decode cX7_isInNow 27 = .ok (.putfield 82, 3) := by decide +kernel
theorem dX7_isInNow_30 : decode cX7_isInNow 30 = .ok (.iconst 0, 1) := by decide +kernel
theorem dX7_isInNow_31 : decode cX7_isInNow 31 = .ok (.istore 4, 2) := by decide +kernel
theorem dX7_isInNow_33 : decode cX7_isInNow 33 = .ok (.iload 4, 2) := by decide +kernel
theorem dX7_isInNow_35 : decode cX7_isInNow 35 = .ok (.aload_n 0, 1) := by decide +kernel
theorem dX7_isInNow_36 : decode cX7_isInNow 36 = .ok (.getfield 9, 3) := by decide +kernel
theorem dX7_isInNow_39 : decode cX7_isInNow 39 = .ok (.iconst 1, 1) := by decide +kernel
theorem dX7_isInNow_40 : decode cX7_isInNow 40 = .ok (.iaload, 1) := by decide +kernel
theorem dX7_isInNow_41 : decode cX7_isInNow 41 = .ok (.if_icmp .ge 48, 3) := by decide +kernel
theorem dX7_isInNow_44 : decode cX7_isInNow 44 = .ok (.aload_n 0, 1) := by decide +kernel
theorem dX7_isInNow_45 : decode cX7_isInNow 45 = .ok (.getfield 22, 3) := by decide +kernel
theorem dX7_isInNow_48 : decode cX7_isInNow 48 = .ok (.iload 4, 2) := by decide +kernel
theorem dX7_isInNow_50 : decode cX7_isInNow 50 = .ok (.iload_n 3, 1) := by decide +kernel
theorem dX7_isInNow_51 : decode cX7_isInNow 51 = .ok (.iload 4, 2) := by decide +kernel
theorem dX7_isInNow_53 : decode cX7_isInNow 53 = .ok (.invokestatic 92, 3) := by decide +kernel
theorem dX7_isInNow_56 : decode cX7_isInNow 56 = .ok (.ifCond .eq 25, 3) := by decide +kernel
theorem dX7_isInNow_59 : decode cX7_isInNow 59 = .ok (.aload_n 0, 1) := by decide +kernel
theorem dX7_isInNow_60 : decode cX7_isInNow 60 = .ok (.getfield 9, 3) := by decide +kernel
theorem dX7_isInNow_63 : decode cX7_isInNow 63 = .ok (.bipush 51, 2) := by decide +kernel
theorem dX7_isInNow_65 : decode cX7_isInNow 65 = .ok (.iload 4, 2) := by decide +kernel
theorem dX7_isInNow_67 : decode cX7_isInNow 67 = .ok (.iadd, 1) := by decide +kernel
theorem dX7_isInNow_68 : decode cX7_isInNow 68 = .ok (.iaload, 1) := by decide +kernel
theorem dX7_isInNow_69 : decode cX7_isInNow 69 = .ok (.iload_n 1, 1) := by decide +kernel
theorem dX7_isInNow_70 : decode cX7_isInNow 70 = .ok (.if_icmp .ne 7, 3) := by decide +kernel
theorem dX7_isInNow_73 : decode cX7_isInNow 73 = .ok (.iconst 1, 1) := by decide +kernel
theorem dX7_isInNow_74 : decode cX7_isInNow 74 = .ok (.goto 8, 3) := by decide +kernel
theorem dX7_isInNow_77 : decode cX7_isInNow 77 = .ok (.iconst 2, 1) := by decide +kernel
theorem dX7_isInNow_78 : decode cX7_isInNow 78 = .ok (.goto 4, 3) := by decide +kernel
theorem dX7_isInNow_81 : decode cX7_isInNow 81 = .ok (.iconst (-1), 1) := by decide +kernel
theorem dX7_isInNow_82 : decode cX7_isInNow 82 = .ok (.iastore, 1) := by decide +kernel
theorem dX7_isInNow_83 : decode cX7_isInNow 83 = .ok (.iinc 4 1, 3) := by decide +kernel
theorem dX7_isInNow_86 : decode cX7_isInNow 86 = .ok (.goto (-53), 3) := by decide +kernel
theorem dX7_isInNow_89 : decode cX7_isInNow 89 = .ok (.aload_n 0, 1) := by decide +kernel
theorem dX7_isInNow_90 : decode cX7_isInNow 90 = .ok (.iconst 0, 1) := by decide +kernel
theorem dX7_isInNow_91 : decode cX7_isInNow 91 = .ok (.aload_n 0, 1) := by decide +kernel
theorem dX7_isInNow_92 : decode cX7_isInNow 92 = .ok (.invokevirtual 111, 3) := by decide +kernel
theorem dX7_isInNow_95 : decode cX7_isInNow 95 = .ok (.iload_n 3, 1) := by decide +kernel
theorem dX7_isInNow_96 : decode cX7_isInNow 96 = .ok (.iconst (-1), 1) := by decide +kernel
theorem dX7_isInNow_97 : decode cX7_isInNow 97 = .ok (.ixor, 1) := by decide +kernel
theorem dX7_isInNow_98 : decode cX7_isInNow 98 = .ok (.iand, 1) := by decide +kernel
theorem dX7_isInNow_99 : decode cX7_isInNow 99 = .ok (.invokevirtual 95, 3) := by decide +kernel
theorem dX7_isInNow_102 : decode cX7_isInNow 102 = .ok (.ireturn, 1) := by decide +kernel
def f_X7_isInNow_82 (k33 : Nat × Int32 × Int32 × Int32 → Hp → Option (Int32 × Hp)) (l0 : Nat) (l1 : Int32) (l3 : Int32) (l4 : Int32) (s0 : Int32) (s1 : Int32) (s2 : Nat) (h0 : Hp) : Option (Int32 × Hp) :=
  (aS h0 s2 s1 s0).bind fun h1 => (some (l4 + 1)).bind fun x2 => k33 (l0, l1, l3, x2) h1
set_option maxRecDepth 100000 in
set_option maxHeartbeats 4000000 in
theorem c_X7_isInNow_82 {X : Cx} {adr : Nat → Nat} {q : Int32 × Hp} (hr : (mth X).sig.returnType = (some .boolean)) {k33 : Nat × Int32 × Int32 × Int32 → Hp → Option (Int32 × Hp)} (hk33 : ∀ v h, k33 v h = some q → AW X cX7_isInNow 5 RX7 (rmd 15 0 0) (Qmet X 0 0 (Qe (some (.int q.1)) q.2 adr)) 0 0 adr h 33 [(0, .ref v.1), (1, .int v.2.1), (3, .int v.2.2.1), (4, .int v.2.2.2)] []) {l0 : Nat} {l1 : Int32} {l3 : Int32} {l4 : Int32} {s0 : Int32} {s1 : Int32} {s2 : Nat} {h0 : Hp} (hf : f_X7_isInNow_82 k33 l0 l1 l3 l4 s0 s1 s2 h0 = some q) : AW X cX7_isInNow 5 RX7 (rmd 15 0 0) (Qmet X 0 0 (Qe (some (.int q.1)) q.2 adr)) 0 0 adr h0 82 [(0, .ref l0), (1, .int l1), (3, .int l3), (4, .int l4)] [.int s0, .int s1, .ref s2] := by
  unfold f_X7_isInNow_82 at hf
  obtain ⟨h1, eh1, hf⟩ := b_some hf
  refine aw_iast dX7_isInNow_82 eh1 ?_
  obtain ⟨x2, ex2, hf⟩ := b_some hf
  refine aw_iinc (v := x2) (L' := [(4, .int x2), (0, .ref l0), (1, .int l1), (3, .int l3)]) 3 dX7_isInNow_83 rfl (Option.some.inj ex2) (by decide) rfl ?_
  refine aw_goto (tgt := 33) dX7_isInNow_86 (by decide) ?_
  exact aw_sub [1, 2, 3, 0] rfl (hk33 _ _ hf)
def f_X7_isInNow_33 (k33 : Nat × Int32 × Int32 × Int32 → Hp → Option (Int32 × Hp)) (v : Nat × Int32 × Int32 × Int32) (h0 : Hp) : Option (Int32 × Hp) :=
  match v with
  | (l0, l1, l3, l4) => (gR h0 l0 7 0).bind fun r1 => (aL h0 r1 (1 : Int32)).bind fun x2 => if x2 ≤ l4 then ((f_X7_leftSet l0 h0).bind fun q4 => (f_X7_goes 12 l0 (0 : Int32) (q4.1 &&& (l3 ^^^ (-1 : Int32))) q4.2).bind fun q5 => (bz q5.1).bind fun u6 => some (q5.1, q5.2)) else ((gR h0 l0 7 7).bind fun r7 => (f_X7_has l3 l4 h0).bind fun q8 => if q8.1 = 0 then (f_X7_isInNow_82 k33 l0 l1 l3 l4 (-1 : Int32) l4 r7 q8.2) else ((gR q8.2 l0 7 0).bind fun r10 => (aL q8.2 r10 ((51 : Int32) + l4)).bind fun x11 => if x11 = l1 then (f_X7_isInNow_82 k33 l0 l1 l3 l4 (1 : Int32) l4 r7 q8.2) else (f_X7_isInNow_82 k33 l0 l1 l3 l4 (2 : Int32) l4 r7 q8.2)))
set_option maxRecDepth 100000 in
set_option maxHeartbeats 4000000 in
theorem c_X7_isInNow_33 {X : Cx} {adr : Nat → Nat} {q : Int32 × Hp} (hr : (mth X).sig.returnType = (some .boolean)) (n : Nat) : ∀ v h0, lp (f_X7_isInNow_33) n v h0 = some q → AW X cX7_isInNow 5 RX7 (rmd 15 0 0) (Qmet X 0 0 (Qe (some (.int q.1)) q.2 adr)) 0 0 adr h0 33 [(0, .ref v.1), (1, .int v.2.1), (3, .int v.2.2.1), (4, .int v.2.2.2)] [] := by
  refine aw_lp (fun k33 hk33 v h0 hf => ?_) n
  obtain ⟨l0, l1, l3, l4⟩ := v
  unfold f_X7_isInNow_33 at hf
  dsimp only at hf
  show AW X cX7_isInNow 5 RX7 (rmd 15 0 0) (Qmet X 0 0 (Qe (some (.int q.1)) q.2 adr)) 0 0 adr h0 33 [(0, .ref l0), (1, .int l1), (3, .int l3), (4, .int l4)] []
  refine aw_iload 3 dX7_isInNow_33 rfl ?_
  refine aw_aload_n 0 dX7_isInNow_35 rfl rfl ?_
  obtain ⟨r1, er1, hf⟩ := b_some hf
  refine aw_getR dX7_isInNow_36 gfX7_9 er1 ?_
  refine aw_iconst (v := 1) dX7_isInNow_39 (by decide) ?_
  obtain ⟨x2, ex2, hf⟩ := b_some hf
  refine aw_iald dX7_isInNow_40 ex2 ?_
  refine aw_icmp_ge (tgt := 89) dX7_isInNow_41 (by decide) (fun c3 => ?_) (fun c3 => ?_)
  · have hf := i_pos c3 hf
    refine aw_aload_n 0 dX7_isInNow_89 rfl rfl ?_
    refine aw_iconst (v := 0) dX7_isInNow_90 (by decide) ?_
    refine aw_aload_n 0 dX7_isInNow_91 rfl rfl ?_
    obtain ⟨q4, eq4, hf⟩ := b_some hf
    refine aw_cV (as := []) dX7_isInNow_92 moX7_leftSet voX7_leftSet mlX7_111 (k_X7_leftSet eq4) rfl (rm_ok (by omega) (by decide)) ⟨Nat.le_refl _, Nat.le_refl _⟩ (Nat.le_of_ble_eq_true rfl) rfl (c_X7_leftSet eq4) ?_
    refine aw_iload_n 2 dX7_isInNow_95 rfl rfl ?_
    refine aw_iconst (v := -1) dX7_isInNow_96 (by decide) ?_
    refine aw_ixor dX7_isInNow_97 ?_
    refine aw_iand dX7_isInNow_98 ?_
    obtain ⟨q5, eq5, hf⟩ := b_some hf
    refine aw_cV (as := [.int (0 : Int32), .int (q4.1 &&& (l3 ^^^ (-1 : Int32)))]) dX7_isInNow_99 moX7_goes voX7_goes mlX7_95 (k_X7_goes eq5) rfl (rm_ok (by omega) (by decide)) ⟨Nat.le_refl _, Nat.le_refl _⟩ (Nat.le_of_ble_eq_true rfl) rfl (c_X7_goes 12 eq5) ?_
    obtain ⟨u6, eu6, hf⟩ := b_some hf
    have hq := Option.some.inj hf
    subst hq
    exact aw_zret hr (bz_nar eu6) dX7_isInNow_102 ⟨rfl, rfl, rfl⟩
  · have hf := i_neg c3 hf
    refine aw_aload_n 0 dX7_isInNow_44 rfl rfl ?_
    obtain ⟨r7, er7, hf⟩ := b_some hf
    refine aw_getR dX7_isInNow_45 gfX7_22 er7 ?_
    refine aw_iload 3 dX7_isInNow_48 rfl ?_
    refine aw_iload_n 2 dX7_isInNow_50 rfl rfl ?_
    refine aw_iload 3 dX7_isInNow_51 rfl ?_
    obtain ⟨q8, eq8, hf⟩ := b_some hf
    refine aw_cS (as := [.int l3, .int l4]) dX7_isInNow_53 moX7_has soX7_has mlX7_92 (rm_ok (by omega) (by decide)) ⟨Nat.le_refl _, Nat.le_refl _⟩ (Nat.le_of_ble_eq_true rfl) rfl (c_X7_has eq8) ?_
    refine aw_if_eq (tgt := 81) dX7_isInNow_56 (by decide) (fun c9 => ?_) (fun c9 => ?_)
    · have hf := i_pos c9 hf
      refine aw_iconst (v := -1) dX7_isInNow_81 (by decide) ?_
      exact aw_sub [0, 1, 2, 3] rfl (c_X7_isInNow_82 hr hk33 hf)
    · have hf := i_neg c9 hf
      refine aw_aload_n 0 dX7_isInNow_59 rfl rfl ?_
      obtain ⟨r10, er10, hf⟩ := b_some hf
      refine aw_getR dX7_isInNow_60 gfX7_9 er10 ?_
      refine aw_bipush (v := 51) dX7_isInNow_63 (by decide) ?_
      refine aw_iload 3 dX7_isInNow_65 rfl ?_
      refine aw_iadd dX7_isInNow_67 ?_
      obtain ⟨x11, ex11, hf⟩ := b_some hf
      refine aw_iald dX7_isInNow_68 ex11 ?_
      refine aw_iload_n 1 dX7_isInNow_69 rfl rfl ?_
      refine aw_icmp_ne (tgt := 77) dX7_isInNow_70 (by decide) (fun c12 => ?_) (fun c12 => ?_)
      · have hf := i_neg c12 hf
        refine aw_iconst (v := 2) dX7_isInNow_77 (by decide) ?_
        refine aw_goto (tgt := 82) dX7_isInNow_78 (by decide) ?_
        exact aw_sub [0, 1, 2, 3] rfl (c_X7_isInNow_82 hr hk33 hf)
      · have hf := i_pos c12 hf
        refine aw_iconst (v := 1) dX7_isInNow_73 (by decide) ?_
        refine aw_goto (tgt := 82) dX7_isInNow_74 (by decide) ?_
        exact aw_sub [0, 1, 2, 3] rfl (c_X7_isInNow_82 hr hk33 hf)
def f_X7_isInNow (l0 : Nat) (l1 : Int32) (l2 : Int32) (h0 : Hp) : Option (Int32 × Hp) :=
  (ck h0 l0 7).bind fun _ => (f_X7_ownLeft l0 l1 h0).bind fun q1 => (pI q1.2 l0 7 5 l1).bind fun h2 => (f_X7_reach l0 l1 h2).bind fun q3 => (pI q3.2 l0 7 6 q3.1).bind fun h4 => (pZ h4 l0 7 9 l2).bind fun h5 => (pI h5 l0 7 8 (-1 : Int32)).bind fun h6 => lp (f_X7_isInNow_33) 600 (l0, l1, q1.1, (0 : Int32)) h6
set_option maxRecDepth 100000 in
set_option maxHeartbeats 4000000 in
theorem c_X7_isInNow {l0 : Nat} {l1 : Int32} {l2 : Int32} {h0 : Hp} {q : Int32 × Hp} (hf : f_X7_isInNow l0 l1 l2 h0 = some q) : Mt 15 yX7_isInNow cX7_isInNow 5 (some .boolean) [.ref l0, .int l1, .int l2] h0 (some (.int q.1)) q.2 := by
  refine MtQ.of (by decide) (Nat.le_of_ble_eq_true rfl) (fun X adr hr hn => ?_)
  unfold f_X7_isInNow at hf
  show AW X cX7_isInNow 5 RX7 (rmd 15 0 0) (Qmet X 0 0 (Qe (some (.int q.1)) q.2 adr)) 0 0 adr h0 0 [(0, .ref l0), (1, .int l1), (2, .int l2)] []
  obtain ⟨u0, e0, hf⟩ := b_some hf
  refine aw_aload_n 0 dX7_isInNow_0 rfl rfl ?_
  refine aw_iload_n 1 dX7_isInNow_1 rfl rfl ?_
  obtain ⟨q1, eq1, hf⟩ := b_some hf
  refine aw_cV (as := [.int l1]) dX7_isInNow_2 moX7_ownLeft voX7_ownLeft mlX7_68 (k_X7_ownLeft eq1) rfl (rm_ok (by omega) (by decide)) ⟨Nat.le_refl _, Nat.le_refl _⟩ (Nat.le_of_ble_eq_true rfl) rfl (c_X7_ownLeft eq1) ?_
  refine aw_istore_n (L' := [(3, .int q1.1), (0, .ref l0), (1, .int l1), (2, .int l2)]) dX7_isInNow_5 rfl (by decide) rfl ?_
  refine aw_aload_n 1 dX7_isInNow_6 rfl rfl ?_
  refine aw_iload_n 2 dX7_isInNow_7 rfl rfl ?_
  obtain ⟨h2, eh2, hf⟩ := b_some hf
  refine aw_putI dX7_isInNow_8 pfX7_75 eh2 ?_
  refine aw_aload_n 1 dX7_isInNow_11 rfl rfl ?_
  refine aw_aload_n 1 dX7_isInNow_12 rfl rfl ?_
  refine aw_iload_n 2 dX7_isInNow_13 rfl rfl ?_
  obtain ⟨q3, eq3, hf⟩ := b_some hf
  refine aw_cV (as := [.int l1]) dX7_isInNow_14 moX7_reach voX7_reach mlX7_108 (k_X7_reach eq3) rfl (rm_ok (by omega) (by decide)) ⟨Nat.le_refl _, Nat.le_refl _⟩ (Nat.le_of_ble_eq_true rfl) rfl (c_X7_reach eq3) ?_
  obtain ⟨h4, eh4, hf⟩ := b_some hf
  refine aw_putI dX7_isInNow_17 pfX7_79 eh4 ?_
  refine aw_aload_n 1 dX7_isInNow_20 rfl rfl ?_
  refine aw_iload_n 3 dX7_isInNow_21 rfl rfl ?_
  obtain ⟨h5, eh5, hf⟩ := b_some hf
  refine aw_putZ dX7_isInNow_22 pfX7_101 eh5 ?_
  refine aw_aload_n 1 dX7_isInNow_25 rfl rfl ?_
  refine aw_iconst (v := -1) dX7_isInNow_26 (by decide) ?_
  obtain ⟨h6, eh6, hf⟩ := b_some hf
  refine aw_putI dX7_isInNow_27 pfX7_82 eh6 ?_
  refine aw_iconst (v := 0) dX7_isInNow_30 (by decide) ?_
  refine aw_istore (L' := [(4, .int (0 : Int32)), (3, .int q1.1), (0, .ref l0), (1, .int l1), (2, .int l2)]) dX7_isInNow_31 (by decide) rfl ?_
  exact aw_sub [2, 3, 1, 0] rfl (c_X7_isInNow_33 hr 600 _ _ hf)
theorem k_X7_isInNow {l0 : Nat} {l1 : Int32} {l2 : Int32} {h0 : Hp} {q : Int32 × Hp} (hf : f_X7_isInNow l0 l1 l2 h0 = some q) : ck h0 l0 7 = some () := by
  unfold f_X7_isInNow at hf
  obtain ⟨u0, e0, hf⟩ := b_some hf
  exact e0
theorem dX7_inSet_0 : decode cX7_inSet 0 = .ok (.iconst 0, 1) := by decide +kernel
theorem dX7_inSet_1 : decode cX7_inSet 1 = .ok (.istore_n 1, 1) := by decide +kernel
theorem dX7_inSet_2 : decode cX7_inSet 2 = .ok (.iconst 0, 1) := by decide +kernel
theorem dX7_inSet_3 : decode cX7_inSet 3 = .ok (.istore_n 2, 1) := by decide +kernel
theorem dX7_inSet_4 : decode cX7_inSet 4 = .ok (.iload_n 2, 1) := by decide +kernel
theorem dX7_inSet_5 : decode cX7_inSet 5 = .ok (.aload_n 0, 1) := by decide +kernel
theorem dX7_inSet_6 : decode cX7_inSet 6 = .ok (.getfield 9, 3) := by decide +kernel
theorem dX7_inSet_9 : decode cX7_inSet 9 = .ok (.iconst 0, 1) := by decide +kernel
theorem dX7_inSet_10 : decode cX7_inSet 10 = .ok (.iaload, 1) := by decide +kernel
theorem dX7_inSet_11 : decode cX7_inSet 11 = .ok (.if_icmp .ge 28, 3) := by decide +kernel
theorem dX7_inSet_14 : decode cX7_inSet 14 = .ok (.iload_n 1, 1) := by decide +kernel
theorem dX7_inSet_15 : decode cX7_inSet 15 = .ok (.aload_n 0, 1) := by decide +kernel
theorem dX7_inSet_16 : decode cX7_inSet 16 = .ok (.iload_n 2, 1) := by decide +kernel
theorem dX7_inSet_17 : decode cX7_inSet 17 = .ok (.iconst 0, 1) := by decide +kernel
theorem dX7_inSet_18 : decode cX7_inSet 18 = .ok (.invokevirtual 114, 3) := by decide +kernel
theorem dX7_inSet_21 : decode cX7_inSet 21 = .ok (.ifCond .eq 9, 3) := by decide +kernel
theorem dX7_inSet_24 : decode cX7_inSet 24 = .ok (.iconst 1, 1) := by decide +kernel
theorem dX7_inSet_25 : decode cX7_inSet 25 = .ok (.iload_n 2, 1) := by decide +kernel
theorem dX7_inSet_26 : decode cX7_inSet 26 = .ok (.ishl, 1) := by decide +kernel
theorem dX7_inSet_27 : decode cX7_inSet 27 = .ok (.goto 4, 3) := by decide +kernel
theorem dX7_inSet_30 : decode cX7_inSet 30 = .ok (.iconst 0, 1) := by decide +kernel
theorem dX7_inSet_31 : decode cX7_inSet 31 = .ok (.ior, 1) := by decide +kernel
theorem dX7_inSet_32 : decode cX7_inSet 32 = .ok (.istore_n 1, 1) := by decide +kernel
theorem dX7_inSet_33 : decode cX7_inSet 33 = .ok (.iinc 2 1, 3) := by decide +kernel
theorem dX7_inSet_36 : decode cX7_inSet 36 = .ok (.goto (-32), 3) := by decide +kernel
theorem dX7_inSet_39 : decode cX7_inSet 39 = .ok (.iload_n 1, 1) := by decide +kernel
theorem dX7_inSet_40 : decode cX7_inSet 40 = .ok (.ireturn, 1) := by decide +kernel
def f_X7_inSet_4 (k4 : Nat × Int32 × Int32 → Hp → Option (Int32 × Hp)) (v : Nat × Int32 × Int32) (h0 : Hp) : Option (Int32 × Hp) :=
  match v with
  | (l0, l1, l2) => (gR h0 l0 7 0).bind fun r1 => (aL h0 r1 (0 : Int32)).bind fun x2 => if x2 ≤ l2 then (some (l1, h0)) else ((f_X7_isInNow l0 l2 (0 : Int32) h0).bind fun q4 => if q4.1 = 0 then ((some (l1 ||| (0 : Int32))).bind fun x6 => (some (l2 + 1)).bind fun x7 => k4 (l0, x6, x7) q4.2) else ((some (l1 ||| ((1 : Int32) <<< (l2 &&& 31)))).bind fun x8 => (some (l2 + 1)).bind fun x9 => k4 (l0, x8, x9) q4.2))
set_option maxRecDepth 100000 in
set_option maxHeartbeats 4000000 in
theorem c_X7_inSet_4 {X : Cx} {adr : Nat → Nat} {q : Int32 × Hp} (hr : (mth X).sig.returnType = (some .int)) (n : Nat) : ∀ v h0, lp (f_X7_inSet_4) n v h0 = some q → AW X cX7_inSet 3 RX7 (rmd 16 0 0) (Qmet X 0 0 (Qe (some (.int q.1)) q.2 adr)) 0 0 adr h0 4 [(0, .ref v.1), (1, .int v.2.1), (2, .int v.2.2)] [] := by
  refine aw_lp (fun k4 hk4 v h0 hf => ?_) n
  obtain ⟨l0, l1, l2⟩ := v
  unfold f_X7_inSet_4 at hf
  dsimp only at hf
  show AW X cX7_inSet 3 RX7 (rmd 16 0 0) (Qmet X 0 0 (Qe (some (.int q.1)) q.2 adr)) 0 0 adr h0 4 [(0, .ref l0), (1, .int l1), (2, .int l2)] []
  refine aw_iload_n 2 dX7_inSet_4 rfl rfl ?_
  refine aw_aload_n 0 dX7_inSet_5 rfl rfl ?_
  obtain ⟨r1, er1, hf⟩ := b_some hf
  refine aw_getR dX7_inSet_6 gfX7_9 er1 ?_
  refine aw_iconst (v := 0) dX7_inSet_9 (by decide) ?_
  obtain ⟨x2, ex2, hf⟩ := b_some hf
  refine aw_iald dX7_inSet_10 ex2 ?_
  refine aw_icmp_ge (tgt := 39) dX7_inSet_11 (by decide) (fun c3 => ?_) (fun c3 => ?_)
  · have hf := i_pos c3 hf
    refine aw_iload_n 1 dX7_inSet_39 rfl rfl ?_
    have hq := Option.some.inj hf
    subst hq
    exact aw_iret hr dX7_inSet_40 ⟨rfl, rfl, rfl⟩
  · have hf := i_neg c3 hf
    refine aw_iload_n 1 dX7_inSet_14 rfl rfl ?_
    refine aw_aload_n 0 dX7_inSet_15 rfl rfl ?_
    refine aw_iload_n 2 dX7_inSet_16 rfl rfl ?_
    refine aw_iconst (v := 0) dX7_inSet_17 (by decide) ?_
    obtain ⟨q4, eq4, hf⟩ := b_some hf
    refine aw_cV (as := [.int l2, .int (0 : Int32)]) dX7_inSet_18 moX7_isInNow voX7_isInNow mlX7_114 (k_X7_isInNow eq4) rfl (rm_ok (by omega) (by decide)) ⟨Nat.le_refl _, Nat.le_refl _⟩ (Nat.le_of_ble_eq_true rfl) rfl (c_X7_isInNow eq4) ?_
    refine aw_if_eq (tgt := 30) dX7_inSet_21 (by decide) (fun c5 => ?_) (fun c5 => ?_)
    · have hf := i_pos c5 hf
      refine aw_iconst (v := 0) dX7_inSet_30 (by decide) ?_
      refine aw_ior dX7_inSet_31 ?_
      obtain ⟨x6, ex6, hf⟩ := b_some hf
      refine aw_nm ex6 ?_
      refine aw_istore_n (L' := [(1, .int x6), (0, .ref l0), (2, .int l2)]) dX7_inSet_32 rfl (by decide) rfl ?_
      obtain ⟨x7, ex7, hf⟩ := b_some hf
      refine aw_iinc (v := x7) (L' := [(2, .int x7), (1, .int x6), (0, .ref l0)]) 2 dX7_inSet_33 rfl (Option.some.inj ex7) (by decide) rfl ?_
      refine aw_goto (tgt := 4) dX7_inSet_36 (by decide) ?_
      exact aw_sub [2, 1, 0] rfl (hk4 _ _ hf)
    · have hf := i_neg c5 hf
      refine aw_iconst (v := 1) dX7_inSet_24 (by decide) ?_
      refine aw_iload_n 2 dX7_inSet_25 rfl rfl ?_
      refine aw_ishl dX7_inSet_26 ?_
      refine aw_goto (tgt := 31) dX7_inSet_27 (by decide) ?_
      refine aw_ior dX7_inSet_31 ?_
      obtain ⟨x8, ex8, hf⟩ := b_some hf
      refine aw_nm ex8 ?_
      refine aw_istore_n (L' := [(1, .int x8), (0, .ref l0), (2, .int l2)]) dX7_inSet_32 rfl (by decide) rfl ?_
      obtain ⟨x9, ex9, hf⟩ := b_some hf
      refine aw_iinc (v := x9) (L' := [(2, .int x9), (1, .int x8), (0, .ref l0)]) 2 dX7_inSet_33 rfl (Option.some.inj ex9) (by decide) rfl ?_
      refine aw_goto (tgt := 4) dX7_inSet_36 (by decide) ?_
      exact aw_sub [2, 1, 0] rfl (hk4 _ _ hf)
def f_X7_inSet (l0 : Nat) (h0 : Hp) : Option (Int32 × Hp) :=
  (ck h0 l0 7).bind fun _ => lp (f_X7_inSet_4) 600 (l0, (0 : Int32), (0 : Int32)) h0
set_option maxRecDepth 100000 in
set_option maxHeartbeats 4000000 in
theorem c_X7_inSet {l0 : Nat} {h0 : Hp} {q : Int32 × Hp} (hf : f_X7_inSet l0 h0 = some q) : Mt 16 yX7_inSet cX7_inSet 3 (some .int) [.ref l0] h0 (some (.int q.1)) q.2 := by
  refine MtQ.of (by decide) (Nat.le_of_ble_eq_true rfl) (fun X adr hr hn => ?_)
  unfold f_X7_inSet at hf
  show AW X cX7_inSet 3 RX7 (rmd 16 0 0) (Qmet X 0 0 (Qe (some (.int q.1)) q.2 adr)) 0 0 adr h0 0 [(0, .ref l0)] []
  obtain ⟨u0, e0, hf⟩ := b_some hf
  refine aw_iconst (v := 0) dX7_inSet_0 (by decide) ?_
  refine aw_istore_n (L' := [(1, .int (0 : Int32)), (0, .ref l0)]) dX7_inSet_1 rfl (by decide) rfl ?_
  refine aw_iconst (v := 0) dX7_inSet_2 (by decide) ?_
  refine aw_istore_n (L' := [(2, .int (0 : Int32)), (1, .int (0 : Int32)), (0, .ref l0)]) dX7_inSet_3 rfl (by decide) rfl ?_
  exact aw_sub [2, 1, 0] rfl (c_X7_inSet_4 hr 600 _ _ hf)
theorem k_X7_inSet {l0 : Nat} {h0 : Hp} {q : Int32 × Hp} (hf : f_X7_inSet l0 h0 = some q) : ck h0 l0 7 = some () := by
  unfold f_X7_inSet at hf
  obtain ⟨u0, e0, hf⟩ := b_some hf
  exact e0
theorem dX7_counts_0 : decode cX7_counts 0 = .ok (.iconst 0, 1) := by decide +kernel
theorem dX7_counts_1 : decode cX7_counts 1 = .ok (.istore_n 1, 1) := by decide +kernel
theorem dX7_counts_2 : decode cX7_counts 2 = .ok (.iload_n 1, 1) := by decide +kernel
theorem dX7_counts_3 : decode cX7_counts 3 = .ok (.bipush 6, 2) := by decide +kernel
theorem dX7_counts_5 : decode cX7_counts 5 = .ok (.if_icmp .ge 23, 3) := by decide +kernel
theorem dX7_counts_8 : decode cX7_counts 8 = .ok (.aload_n 0, 1) := by decide +kernel
theorem dX7_counts_9 : decode cX7_counts 9 = .ok (.getfield 19, 3) := by decide +kernel
theorem dX7_counts_12 : decode cX7_counts 12 = .ok (.iload_n 1, 1) := by decide +kernel
theorem dX7_counts_13 : decode cX7_counts 13 = .ok (.aload_n 0, 1) := by decide +kernel
theorem dX7_counts_14 : decode cX7_counts 14 = .ok (.getfield 9, 3) := by decide +kernel
theorem dX7_counts_17 : decode cX7_counts 17 = .ok (.iconst 3, 1) := by decide +kernel
theorem dX7_counts_18 : decode cX7_counts 18 = .ok (.iload_n 1, 1) := by decide +kernel
theorem dX7_counts_19 : decode cX7_counts 19 = .ok (.iadd, 1) := by decide +kernel
theorem dX7_counts_20 : decode cX7_counts 20 = .ok (.iaload, 1) := by decide +kernel
theorem dX7_counts_21 : decode cX7_counts 21 = .ok (.iastore, 1) := by decide +kernel
theorem dX7_counts_22 : decode cX7_counts 22 = .ok (.iinc 1 1, 3) := by decide +kernel
theorem dX7_counts_25 : decode cX7_counts 25 = .ok (.goto (-23), 3) := by decide +kernel
theorem dX7_counts_28 : decode cX7_counts 28 = .ok (.iconst 0, 1) := by decide +kernel
theorem dX7_counts_29 : decode cX7_counts 29 = .ok (.istore_n 1, 1) := by decide +kernel
theorem dX7_counts_30 : decode cX7_counts 30 = .ok (.iload_n 1, 1) := by decide +kernel
theorem dX7_counts_31 : decode cX7_counts 31 = .ok (.aload_n 0, 1) := by decide +kernel
theorem dX7_counts_32 : decode cX7_counts 32 = .ok (.getfield 9, 3) := by decide +kernel
theorem dX7_counts_35 : decode cX7_counts 35 = .ok (.iconst 1, 1) := by decide +kernel
theorem dX7_counts_36 : decode cX7_counts 36 = .ok (.iaload, 1) := by decide +kernel
theorem dX7_counts_37 : decode cX7_counts 37 = .ok (.if_icmp .ge 30, 3) := by decide +kernel
theorem dX7_counts_40 : decode cX7_counts 40 = .ok (.aload_n 0, 1) := by decide +kernel
theorem dX7_counts_41 : decode cX7_counts 41 = .ok (.getfield 16, 3) := by decide +kernel
theorem dX7_counts_44 : decode cX7_counts 44 = .ok (.iload_n 1, 1) := by decide +kernel
theorem dX7_counts_45 : decode cX7_counts 45 = .ok (.iaload, 1) := by decide +kernel
theorem dX7_counts_46 : decode cX7_counts 46 = .ok (.ifCond .lt 15, 3) := by decide +kernel
theorem dX7_counts_49 : decode cX7_counts 49 = .ok (.aload_n 0, 1) := by decide +kernel
theorem dX7_counts_50 : decode cX7_counts 50 = .ok (.iload_n 1, 1) := by decide +kernel
theorem dX7_counts_51 : decode cX7_counts 51 = .ok (.aload_n 0, 1) := by decide +kernel
theorem dX7_counts_52 : decode cX7_counts 52 = .ok (.getfield 16, 3) := by decide +kernel
theorem dX7_counts_55 : decode cX7_counts 55 = .ok (.iload_n 1, 1) := by decide +kernel
theorem dX7_counts_56 : decode cX7_counts 56 = .ok (.iaload, 1) := by decide +kernel
theorem dX7_counts_57 : decode cX7_counts 57 = .ok (.iconst 1, 1) := by decide +kernel
theorem dX7_counts_58 : decode cX7_counts 58 = .ok (.invokevirtual 54, 3) := by decide +kernel
theorem dX7_counts_61 : decode cX7_counts 61 = .ok (.iinc 1 1, 3) := by decide +kernel
theorem dX7_counts_64 : decode cX7_counts 64 = .ok (.goto (-34), 3) := by decide +kernel
theorem dX7_counts_67 : decode cX7_counts 67 = .ok (.return_, 1) := by decide +kernel
def f_X7_counts_30 (k30 : Nat × Int32 → Hp → Option (Unit × Hp)) (v : Nat × Int32) (h0 : Hp) : Option (Unit × Hp) :=
  match v with
  | (l0, l1) => (gR h0 l0 7 0).bind fun r1 => (aL h0 r1 (1 : Int32)).bind fun x2 => if x2 ≤ l1 then (some ((), h0)) else ((gR h0 l0 7 3).bind fun r4 => (aL h0 r4 l1).bind fun x5 => if x5 < 0 then ((some (l1 + 1)).bind fun x7 => k30 (l0, x7) h0) else ((gR h0 l0 7 3).bind fun r8 => (aL h0 r8 l1).bind fun x9 => (f_X7_brings l0 l1 x9 (1 : Int32) h0).bind fun q10 => (some (l1 + 1)).bind fun x11 => k30 (l0, x11) q10.2))
set_option maxRecDepth 100000 in
set_option maxHeartbeats 4000000 in
theorem c_X7_counts_30 {X : Cx} {adr : Nat → Nat} {q : Unit × Hp} (hr : (mth X).sig.returnType = none) (n : Nat) : ∀ v h0, lp (f_X7_counts_30) n v h0 = some q → AW X cX7_counts 2 RX7 (rmd 3 0 0) (Qmet X 0 0 (Qe none q.2 adr)) 0 0 adr h0 30 [(0, .ref v.1), (1, .int v.2)] [] := by
  refine aw_lp (fun k30 hk30 v h0 hf => ?_) n
  obtain ⟨l0, l1⟩ := v
  unfold f_X7_counts_30 at hf
  dsimp only at hf
  show AW X cX7_counts 2 RX7 (rmd 3 0 0) (Qmet X 0 0 (Qe none q.2 adr)) 0 0 adr h0 30 [(0, .ref l0), (1, .int l1)] []
  refine aw_iload_n 1 dX7_counts_30 rfl rfl ?_
  refine aw_aload_n 0 dX7_counts_31 rfl rfl ?_
  obtain ⟨r1, er1, hf⟩ := b_some hf
  refine aw_getR dX7_counts_32 gfX7_9 er1 ?_
  refine aw_iconst (v := 1) dX7_counts_35 (by decide) ?_
  obtain ⟨x2, ex2, hf⟩ := b_some hf
  refine aw_iald dX7_counts_36 ex2 ?_
  refine aw_icmp_ge (tgt := 67) dX7_counts_37 (by decide) (fun c3 => ?_) (fun c3 => ?_)
  · have hf := i_pos c3 hf
    have hq := Option.some.inj hf
    subst hq
    exact aw_vret hr dX7_counts_67 ⟨rfl, rfl, rfl⟩
  · have hf := i_neg c3 hf
    refine aw_aload_n 0 dX7_counts_40 rfl rfl ?_
    obtain ⟨r4, er4, hf⟩ := b_some hf
    refine aw_getR dX7_counts_41 gfX7_16 er4 ?_
    refine aw_iload_n 1 dX7_counts_44 rfl rfl ?_
    obtain ⟨x5, ex5, hf⟩ := b_some hf
    refine aw_iald dX7_counts_45 ex5 ?_
    refine aw_if_lt (tgt := 61) dX7_counts_46 (by decide) (fun c6 => ?_) (fun c6 => ?_)
    · have hf := i_pos c6 hf
      obtain ⟨x7, ex7, hf⟩ := b_some hf
      refine aw_iinc (v := x7) (L' := [(1, .int x7), (0, .ref l0)]) 1 dX7_counts_61 rfl (Option.some.inj ex7) (by decide) rfl ?_
      refine aw_goto (tgt := 30) dX7_counts_64 (by decide) ?_
      exact aw_sub [1, 0] rfl (hk30 _ _ hf)
    · have hf := i_neg c6 hf
      refine aw_aload_n 0 dX7_counts_49 rfl rfl ?_
      refine aw_iload_n 1 dX7_counts_50 rfl rfl ?_
      refine aw_aload_n 0 dX7_counts_51 rfl rfl ?_
      obtain ⟨r8, er8, hf⟩ := b_some hf
      refine aw_getR dX7_counts_52 gfX7_16 er8 ?_
      refine aw_iload_n 1 dX7_counts_55 rfl rfl ?_
      obtain ⟨x9, ex9, hf⟩ := b_some hf
      refine aw_iald dX7_counts_56 ex9 ?_
      refine aw_iconst (v := 1) dX7_counts_57 (by decide) ?_
      obtain ⟨q10, eq10, hf⟩ := b_some hf
      refine aw_cV0 (as := [.int l1, .int x9, .int (1 : Int32)]) dX7_counts_58 moX7_brings voX7_brings mlX7_54 (k_X7_brings eq10) rfl (rm_ok (by omega) (by decide)) ⟨Nat.le_refl _, Nat.le_refl _⟩ (Nat.le_of_ble_eq_true rfl) rfl (c_X7_brings eq10) ?_
      obtain ⟨x11, ex11, hf⟩ := b_some hf
      refine aw_iinc (v := x11) (L' := [(1, .int x11), (0, .ref l0)]) 1 dX7_counts_61 rfl (Option.some.inj ex11) (by decide) rfl ?_
      refine aw_goto (tgt := 30) dX7_counts_64 (by decide) ?_
      exact aw_sub [1, 0] rfl (hk30 _ _ hf)
def f_X7_counts_2 (k2 : Nat × Int32 → Hp → Option (Unit × Hp)) (v : Nat × Int32) (h0 : Hp) : Option (Unit × Hp) :=
  match v with
  | (l0, l1) => if (6 : Int32) ≤ l1 then (lp (f_X7_counts_30) 600 (l0, (0 : Int32)) h0) else ((gR h0 l0 7 4).bind fun r2 => (gR h0 l0 7 0).bind fun r3 => (aL h0 r3 ((3 : Int32) + l1)).bind fun x4 => (aS h0 r2 l1 x4).bind fun h5 => (some (l1 + 1)).bind fun x6 => k2 (l0, x6) h5)
set_option maxRecDepth 100000 in
set_option maxHeartbeats 4000000 in
theorem c_X7_counts_2 {X : Cx} {adr : Nat → Nat} {q : Unit × Hp} (hr : (mth X).sig.returnType = none) (n : Nat) : ∀ v h0, lp (f_X7_counts_2) n v h0 = some q → AW X cX7_counts 2 RX7 (rmd 3 0 0) (Qmet X 0 0 (Qe none q.2 adr)) 0 0 adr h0 2 [(0, .ref v.1), (1, .int v.2)] [] := by
  refine aw_lp (fun k2 hk2 v h0 hf => ?_) n
  obtain ⟨l0, l1⟩ := v
  unfold f_X7_counts_2 at hf
  dsimp only at hf
  show AW X cX7_counts 2 RX7 (rmd 3 0 0) (Qmet X 0 0 (Qe none q.2 adr)) 0 0 adr h0 2 [(0, .ref l0), (1, .int l1)] []
  refine aw_iload_n 1 dX7_counts_2 rfl rfl ?_
  refine aw_bipush (v := 6) dX7_counts_3 (by decide) ?_
  refine aw_icmp_ge (tgt := 28) dX7_counts_5 (by decide) (fun c1 => ?_) (fun c1 => ?_)
  · have hf := i_pos c1 hf
    refine aw_iconst (v := 0) dX7_counts_28 (by decide) ?_
    refine aw_istore_n (L' := [(1, .int (0 : Int32)), (0, .ref l0)]) dX7_counts_29 rfl (by decide) rfl ?_
    exact aw_sub [1, 0] rfl (c_X7_counts_30 hr 600 _ _ hf)
  · have hf := i_neg c1 hf
    refine aw_aload_n 0 dX7_counts_8 rfl rfl ?_
    obtain ⟨r2, er2, hf⟩ := b_some hf
    refine aw_getR dX7_counts_9 gfX7_19 er2 ?_
    refine aw_iload_n 1 dX7_counts_12 rfl rfl ?_
    refine aw_aload_n 0 dX7_counts_13 rfl rfl ?_
    obtain ⟨r3, er3, hf⟩ := b_some hf
    refine aw_getR dX7_counts_14 gfX7_9 er3 ?_
    refine aw_iconst (v := 3) dX7_counts_17 (by decide) ?_
    refine aw_iload_n 1 dX7_counts_18 rfl rfl ?_
    refine aw_iadd dX7_counts_19 ?_
    obtain ⟨x4, ex4, hf⟩ := b_some hf
    refine aw_iald dX7_counts_20 ex4 ?_
    obtain ⟨h5, eh5, hf⟩ := b_some hf
    refine aw_iast dX7_counts_21 eh5 ?_
    obtain ⟨x6, ex6, hf⟩ := b_some hf
    refine aw_iinc (v := x6) (L' := [(1, .int x6), (0, .ref l0)]) 1 dX7_counts_22 rfl (Option.some.inj ex6) (by decide) rfl ?_
    refine aw_goto (tgt := 2) dX7_counts_25 (by decide) ?_
    exact aw_sub [1, 0] rfl (hk2 _ _ hf)
def f_X7_counts (l0 : Nat) (h0 : Hp) : Option (Unit × Hp) :=
  (ck h0 l0 7).bind fun _ => lp (f_X7_counts_2) 600 (l0, (0 : Int32)) h0
set_option maxRecDepth 100000 in
set_option maxHeartbeats 4000000 in
theorem c_X7_counts {l0 : Nat} {h0 : Hp} {q : Unit × Hp} (hf : f_X7_counts l0 h0 = some q) : Mt 3 yX7_counts cX7_counts 2 none [.ref l0] h0 none q.2 := by
  refine MtQ.of (by decide) (Nat.le_of_ble_eq_true rfl) (fun X adr hr hn => ?_)
  unfold f_X7_counts at hf
  show AW X cX7_counts 2 RX7 (rmd 3 0 0) (Qmet X 0 0 (Qe none q.2 adr)) 0 0 adr h0 0 [(0, .ref l0)] []
  obtain ⟨u0, e0, hf⟩ := b_some hf
  refine aw_iconst (v := 0) dX7_counts_0 (by decide) ?_
  refine aw_istore_n (L' := [(1, .int (0 : Int32)), (0, .ref l0)]) dX7_counts_1 rfl (by decide) rfl ?_
  exact aw_sub [1, 0] rfl (c_X7_counts_2 hr 600 _ _ hf)
theorem k_X7_counts {l0 : Nat} {h0 : Hp} {q : Unit × Hp} (hf : f_X7_counts l0 h0 = some q) : ck h0 l0 7 = some () := by
  unfold f_X7_counts at hf
  obtain ⟨u0, e0, hf⟩ := b_some hf
  exact e0
theorem dX7_looks_0 : decode cX7_looks 0 = .ok (.iconst 0, 1) := by decide +kernel
theorem dX7_looks_1 : decode cX7_looks 1 = .ok (.istore_n 1, 1) := by decide +kernel
theorem dX7_looks_2 : decode cX7_looks 2 = .ok (.iload_n 1, 1) := by decide +kernel
theorem dX7_looks_3 : decode cX7_looks 3 = .ok (.aload_n 0, 1) := by decide +kernel
theorem dX7_looks_4 : decode cX7_looks 4 = .ok (.getfield 9, 3) := by decide +kernel
theorem dX7_looks_7 : decode cX7_looks 7 = .ok (.iconst 1, 1) := by decide +kernel
theorem dX7_looks_8 : decode cX7_looks 8 = .ok (.iaload, 1) := by decide +kernel
theorem dX7_looks_9 : decode cX7_looks 9 = .ok (.if_icmp .ge 24, 3) := by decide +kernel
theorem dX7_looks_12 : decode cX7_looks 12 = .ok (.aload_n 0, 1) := by decide +kernel
theorem dX7_looks_13 : decode cX7_looks 13 = .ok (.getfield 16, 3) := by decide +kernel
theorem dX7_looks_16 : decode cX7_looks 16 = .ok (.iload_n 1, 1) := by decide +kernel
theorem dX7_looks_17 : decode cX7_looks 17 = .ok (.aload_n 0, 1) := by decide +kernel
theorem dX7_looks_18 : decode cX7_looks 18 = .ok (.getfield 9, 3) := by decide +kernel
theorem dX7_looks_21 : decode cX7_looks 21 = .ok (.bipush 78, 2) := by decide +kernel
theorem dX7_looks_23 : decode cX7_looks 23 = .ok (.iload_n 1, 1) := by decide +kernel
theorem dX7_looks_24 : decode cX7_looks 24 = .ok (.iadd, 1) := by decide +kernel
theorem dX7_looks_25 : decode cX7_looks 25 = .ok (.iaload, 1) := by decide +kernel
theorem dX7_looks_26 : decode cX7_looks 26 = .ok (.iastore, 1) := by decide +kernel
theorem dX7_looks_27 : decode cX7_looks 27 = .ok (.iinc 1 1, 3) := by decide +kernel
theorem dX7_looks_30 : decode cX7_looks 30 = .ok (.goto (-28), 3) := by decide +kernel
theorem dX7_looks_33 : decode cX7_looks 33 = .ok (.aload_n 0, 1) := by decide +kernel
theorem dX7_looks_34 : decode cX7_looks 34 = .ok (.invokevirtual 58, 3) := by decide +kernel
theorem dX7_looks_37 : decode cX7_looks 37 = .ok (.return_, 1) := by decide +kernel
def f_X7_looks_2 (k2 : Nat × Int32 → Hp → Option (Unit × Hp)) (v : Nat × Int32) (h0 : Hp) : Option (Unit × Hp) :=
  match v with
  | (l0, l1) => (gR h0 l0 7 0).bind fun r1 => (aL h0 r1 (1 : Int32)).bind fun x2 => if x2 ≤ l1 then ((f_X7_counts l0 h0).bind fun q4 => some ((), q4.2)) else ((gR h0 l0 7 3).bind fun r5 => (gR h0 l0 7 0).bind fun r6 => (aL h0 r6 ((78 : Int32) + l1)).bind fun x7 => (aS h0 r5 l1 x7).bind fun h8 => (some (l1 + 1)).bind fun x9 => k2 (l0, x9) h8)
set_option maxRecDepth 100000 in
set_option maxHeartbeats 4000000 in
theorem c_X7_looks_2 {X : Cx} {adr : Nat → Nat} {q : Unit × Hp} (hr : (mth X).sig.returnType = none) (n : Nat) : ∀ v h0, lp (f_X7_looks_2) n v h0 = some q → AW X cX7_looks 2 RX7 (rmd 4 0 0) (Qmet X 0 0 (Qe none q.2 adr)) 0 0 adr h0 2 [(0, .ref v.1), (1, .int v.2)] [] := by
  refine aw_lp (fun k2 hk2 v h0 hf => ?_) n
  obtain ⟨l0, l1⟩ := v
  unfold f_X7_looks_2 at hf
  dsimp only at hf
  show AW X cX7_looks 2 RX7 (rmd 4 0 0) (Qmet X 0 0 (Qe none q.2 adr)) 0 0 adr h0 2 [(0, .ref l0), (1, .int l1)] []
  refine aw_iload_n 1 dX7_looks_2 rfl rfl ?_
  refine aw_aload_n 0 dX7_looks_3 rfl rfl ?_
  obtain ⟨r1, er1, hf⟩ := b_some hf
  refine aw_getR dX7_looks_4 gfX7_9 er1 ?_
  refine aw_iconst (v := 1) dX7_looks_7 (by decide) ?_
  obtain ⟨x2, ex2, hf⟩ := b_some hf
  refine aw_iald dX7_looks_8 ex2 ?_
  refine aw_icmp_ge (tgt := 33) dX7_looks_9 (by decide) (fun c3 => ?_) (fun c3 => ?_)
  · have hf := i_pos c3 hf
    refine aw_aload_n 0 dX7_looks_33 rfl rfl ?_
    obtain ⟨q4, eq4, hf⟩ := b_some hf
    refine aw_cV0 (as := []) dX7_looks_34 moX7_counts voX7_counts mlX7_58 (k_X7_counts eq4) rfl (rm_ok (by omega) (by decide)) ⟨Nat.le_refl _, Nat.le_refl _⟩ (Nat.le_of_ble_eq_true rfl) rfl (c_X7_counts eq4) ?_
    have hq := Option.some.inj hf
    subst hq
    exact aw_vret hr dX7_looks_37 ⟨rfl, rfl, rfl⟩
  · have hf := i_neg c3 hf
    refine aw_aload_n 0 dX7_looks_12 rfl rfl ?_
    obtain ⟨r5, er5, hf⟩ := b_some hf
    refine aw_getR dX7_looks_13 gfX7_16 er5 ?_
    refine aw_iload_n 1 dX7_looks_16 rfl rfl ?_
    refine aw_aload_n 0 dX7_looks_17 rfl rfl ?_
    obtain ⟨r6, er6, hf⟩ := b_some hf
    refine aw_getR dX7_looks_18 gfX7_9 er6 ?_
    refine aw_bipush (v := 78) dX7_looks_21 (by decide) ?_
    refine aw_iload_n 1 dX7_looks_23 rfl rfl ?_
    refine aw_iadd dX7_looks_24 ?_
    obtain ⟨x7, ex7, hf⟩ := b_some hf
    refine aw_iald dX7_looks_25 ex7 ?_
    obtain ⟨h8, eh8, hf⟩ := b_some hf
    refine aw_iast dX7_looks_26 eh8 ?_
    obtain ⟨x9, ex9, hf⟩ := b_some hf
    refine aw_iinc (v := x9) (L' := [(1, .int x9), (0, .ref l0)]) 1 dX7_looks_27 rfl (Option.some.inj ex9) (by decide) rfl ?_
    refine aw_goto (tgt := 2) dX7_looks_30 (by decide) ?_
    exact aw_sub [1, 0] rfl (hk2 _ _ hf)
def f_X7_looks (l0 : Nat) (h0 : Hp) : Option (Unit × Hp) :=
  (ck h0 l0 7).bind fun _ => lp (f_X7_looks_2) 600 (l0, (0 : Int32)) h0
set_option maxRecDepth 100000 in
set_option maxHeartbeats 4000000 in
theorem c_X7_looks {l0 : Nat} {h0 : Hp} {q : Unit × Hp} (hf : f_X7_looks l0 h0 = some q) : Mt 4 yX7_looks cX7_looks 2 none [.ref l0] h0 none q.2 := by
  refine MtQ.of (by decide) (Nat.le_of_ble_eq_true rfl) (fun X adr hr hn => ?_)
  unfold f_X7_looks at hf
  show AW X cX7_looks 2 RX7 (rmd 4 0 0) (Qmet X 0 0 (Qe none q.2 adr)) 0 0 adr h0 0 [(0, .ref l0)] []
  obtain ⟨u0, e0, hf⟩ := b_some hf
  refine aw_iconst (v := 0) dX7_looks_0 (by decide) ?_
  refine aw_istore_n (L' := [(1, .int (0 : Int32)), (0, .ref l0)]) dX7_looks_1 rfl (by decide) rfl ?_
  exact aw_sub [1, 0] rfl (c_X7_looks_2 hr 600 _ _ hf)
theorem k_X7_looks {l0 : Nat} {h0 : Hp} {q : Unit × Hp} (hf : f_X7_looks l0 h0 = some q) : ck h0 l0 7 = some () := by
  unfold f_X7_looks at hf
  obtain ⟨u0, e0, hf⟩ := b_some hf
  exact e0
theorem dX7_all_0 : decode cX7_all 0 = .ok (.aload_n 0, 1) := by decide +kernel
theorem dX7_all_1 : decode cX7_all 1 = .ok (.invokevirtual 61, 3) := by decide +kernel
theorem dX7_all_4 : decode cX7_all 4 = .ok (.aload_n 0, 1) := by decide +kernel
theorem dX7_all_5 : decode cX7_all 5 = .ok (.invokevirtual 214, 3) := by decide +kernel
theorem dX7_all_8 : decode cX7_all 8 = .ok (.ireturn, 1) := by decide +kernel
def f_X7_all (l0 : Nat) (h0 : Hp) : Option (Int32 × Hp) :=
  (ck h0 l0 7).bind fun _ => (f_X7_looks l0 h0).bind fun q1 => (f_X7_inSet l0 q1.2).bind fun q2 => some (q2.1, q2.2)
set_option maxRecDepth 100000 in
set_option maxHeartbeats 4000000 in
theorem c_X7_all {l0 : Nat} {h0 : Hp} {q : Int32 × Hp} (hf : f_X7_all l0 h0 = some q) : Mt 17 yX7_all cX7_all 1 (some .int) [.ref l0] h0 (some (.int q.1)) q.2 := by
  refine MtQ.of (by decide) (Nat.le_of_ble_eq_true rfl) (fun X adr hr hn => ?_)
  unfold f_X7_all at hf
  show AW X cX7_all 1 RX7 (rmd 17 0 0) (Qmet X 0 0 (Qe (some (.int q.1)) q.2 adr)) 0 0 adr h0 0 [(0, .ref l0)] []
  obtain ⟨u0, e0, hf⟩ := b_some hf
  refine aw_aload_n 0 dX7_all_0 rfl rfl ?_
  obtain ⟨q1, eq1, hf⟩ := b_some hf
  refine aw_cV0 (as := []) dX7_all_1 moX7_looks voX7_looks mlX7_61 (k_X7_looks eq1) rfl (rm_ok (by omega) (by decide)) ⟨Nat.le_refl _, Nat.le_refl _⟩ (Nat.le_of_ble_eq_true rfl) rfl (c_X7_looks eq1) ?_
  refine aw_aload_n 0 dX7_all_4 rfl rfl ?_
  obtain ⟨q2, eq2, hf⟩ := b_some hf
  refine aw_cV (as := []) dX7_all_5 moX7_inSet voX7_inSet mlX7_214 (k_X7_inSet eq2) rfl (rm_ok (by omega) (by decide)) ⟨Nat.le_refl _, Nat.le_refl _⟩ (Nat.le_of_ble_eq_true rfl) rfl (c_X7_inSet eq2) ?_
  have hq := Option.some.inj hf
  subst hq
  exact aw_iret hr dX7_all_8 ⟨rfl, rfl, rfl⟩
theorem k_X7_all {l0 : Nat} {h0 : Hp} {q : Int32 × Hp} (hf : f_X7_all l0 h0 = some q) : ck h0 l0 7 = some () := by
  unfold f_X7_all at hf
  obtain ⟨u0, e0, hf⟩ := b_some hf
  exact e0
theorem dX7_copies_0 : decode cX7_copies 0 = .ok (.iconst 0, 1) := by decide +kernel
theorem dX7_copies_1 : decode cX7_copies 1 = .ok (.istore_n 2, 1) := by decide +kernel
theorem dX7_copies_2 : decode cX7_copies 2 = .ok (.iload_n 2, 1) := by decide +kernel
theorem dX7_copies_3 : decode cX7_copies 3 = .ok (.bipush 87, 2) := by decide +kernel
theorem dX7_copies_5 : decode cX7_copies 5 = .ok (.if_icmp .ge 15, 3) := by decide +kernel
theorem dX7_copies_8 : decode cX7_copies 8 = .ok (.aload_n 1, 1) := by decide +kernel
theorem dX7_copies_9 : decode cX7_copies 9 = .ok (.iload_n 2, 1) := by decide +kernel
theorem dX7_copies_10 : decode cX7_copies 10 = .ok (.aload_n 0, 1) := by decide +kernel
theorem dX7_copies_11 : decode cX7_copies 11 = .ok (.iload_n 2, 1) := by decide +kernel
theorem dX7_copies_12 : decode cX7_copies 12 = .ok (.iaload, 1) := by decide +kernel
theorem dX7_copies_13 : decode cX7_copies 13 = .ok (.iastore, 1) := by decide +kernel
theorem dX7_copies_14 : decode cX7_copies 14 = .ok (.iinc 2 1, 3) := by decide +kernel
theorem dX7_copies_17 : decode cX7_copies 17 = .ok (.goto (-15), 3) := by decide +kernel
theorem dX7_copies_20 : decode cX7_copies 20 = .ok (.return_, 1) := by decide +kernel
def f_X7_copies_2 (k2 : Nat × Nat × Int32 → Hp → Option (Unit × Hp)) (v : Nat × Nat × Int32) (h0 : Hp) : Option (Unit × Hp) :=
  match v with
  | (l0, l1, l2) => if (87 : Int32) ≤ l2 then (some ((), h0)) else ((aL h0 l0 l2).bind fun x2 => (aS h0 l1 l2 x2).bind fun h3 => (some (l2 + 1)).bind fun x4 => k2 (l0, l1, x4) h3)
set_option maxRecDepth 100000 in
set_option maxHeartbeats 4000000 in
theorem c_X7_copies_2 {X : Cx} {adr : Nat → Nat} {q : Unit × Hp} (hr : (mth X).sig.returnType = none) (n : Nat) : ∀ v h0, lp (f_X7_copies_2) n v h0 = some q → AW X cX7_copies 3 RX7 (rmd 1 0 0) (Qmet X 0 0 (Qe none q.2 adr)) 0 0 adr h0 2 [(0, .ref v.1), (1, .ref v.2.1), (2, .int v.2.2)] [] := by
  refine aw_lp (fun k2 hk2 v h0 hf => ?_) n
  obtain ⟨l0, l1, l2⟩ := v
  unfold f_X7_copies_2 at hf
  dsimp only at hf
  show AW X cX7_copies 3 RX7 (rmd 1 0 0) (Qmet X 0 0 (Qe none q.2 adr)) 0 0 adr h0 2 [(0, .ref l0), (1, .ref l1), (2, .int l2)] []
  refine aw_iload_n 2 dX7_copies_2 rfl rfl ?_
  refine aw_bipush (v := 87) dX7_copies_3 (by decide) ?_
  refine aw_icmp_ge (tgt := 20) dX7_copies_5 (by decide) (fun c1 => ?_) (fun c1 => ?_)
  · have hf := i_pos c1 hf
    have hq := Option.some.inj hf
    subst hq
    exact aw_vret hr dX7_copies_20 ⟨rfl, rfl, rfl⟩
  · have hf := i_neg c1 hf
    refine aw_aload_n 1 dX7_copies_8 rfl rfl ?_
    refine aw_iload_n 2 dX7_copies_9 rfl rfl ?_
    refine aw_aload_n 0 dX7_copies_10 rfl rfl ?_
    refine aw_iload_n 2 dX7_copies_11 rfl rfl ?_
    obtain ⟨x2, ex2, hf⟩ := b_some hf
    refine aw_iald dX7_copies_12 ex2 ?_
    obtain ⟨h3, eh3, hf⟩ := b_some hf
    refine aw_iast dX7_copies_13 eh3 ?_
    obtain ⟨x4, ex4, hf⟩ := b_some hf
    refine aw_iinc (v := x4) (L' := [(2, .int x4), (0, .ref l0), (1, .ref l1)]) 2 dX7_copies_14 rfl (Option.some.inj ex4) (by decide) rfl ?_
    refine aw_goto (tgt := 2) dX7_copies_17 (by decide) ?_
    exact aw_sub [1, 2, 0] rfl (hk2 _ _ hf)
def f_X7_copies (l0 : Nat) (l1 : Nat) (h0 : Hp) : Option (Unit × Hp) :=
  lp (f_X7_copies_2) 600 (l0, l1, (0 : Int32)) h0
set_option maxRecDepth 100000 in
set_option maxHeartbeats 4000000 in
theorem c_X7_copies {l0 : Nat} {l1 : Nat} {h0 : Hp} {q : Unit × Hp} (hf : f_X7_copies l0 l1 h0 = some q) : Mt 1 yX7_copies cX7_copies 3 none [.ref l0, .ref l1] h0 none q.2 := by
  refine MtQ.of (by decide) (Nat.le_of_ble_eq_true rfl) (fun X adr hr hn => ?_)
  unfold f_X7_copies at hf
  show AW X cX7_copies 3 RX7 (rmd 1 0 0) (Qmet X 0 0 (Qe none q.2 adr)) 0 0 adr h0 0 [(0, .ref l0), (1, .ref l1)] []
  refine aw_iconst (v := 0) dX7_copies_0 (by decide) ?_
  refine aw_istore_n (L' := [(2, .int (0 : Int32)), (0, .ref l0), (1, .ref l1)]) dX7_copies_1 rfl (by decide) rfl ?_
  exact aw_sub [1, 2, 0] rfl (c_X7_copies_2 hr 600 _ _ hf)
theorem dX7_back_0 : decode cX7_back 0 = .ok (.aload_n 0, 1) := by decide +kernel
theorem dX7_back_1 : decode cX7_back 1 = .ok (.getfield 262, 3) := by decide +kernel
theorem dX7_back_4 : decode cX7_back 4 = .ok (.ifCond .ne 6, 3) := by decide +kernel
theorem dX7_back_7 : decode cX7_back 7 = .ok (.bipush (-3), 2) := by decide +kernel
theorem dX7_back_9 : decode cX7_back 9 = .ok (.ireturn, 1) := by decide +kernel
theorem dX7_back_10 : decode cX7_back 10 = .ok (.aload_n 0, 1) := by decide +kernel
theorem dX7_back_11 : decode cX7_back 11 = .ok (.getfield 13, 3) := by decide +kernel
theorem dX7_back_14 : decode cX7_back 14 = .ok (.aload_n 0, 1) := by decide +kernel
theorem dX7_back_15 : decode cX7_back 15 = .ok (.getfield 9, 3) := by decide +kernel
theorem dX7_back_18 : decode cX7_back 18 = .ok (.invokestatic 265, 3) := by decide +kernel
theorem dX7_back_21 : decode cX7_back 21 = .ok (.aload_n 0, 1) := by decide +kernel
theorem dX7_back_22 : decode cX7_back 22 = .ok (.getfield 9, 3) := by decide +kernel
theorem dX7_back_25 : decode cX7_back 25 = .ok (.iconst 1, 1) := by decide +kernel
theorem dX7_back_26 : decode cX7_back 26 = .ok (.iaload, 1) := by decide +kernel
theorem dX7_back_27 : decode cX7_back 27 = .ok (.ireturn, 1) := by decide +kernel
def f_X7_back (l0 : Nat) (h0 : Hp) : Option (Int32 × Hp) :=
  (ck h0 l0 7).bind fun _ => (gI h0 l0 7 2).bind fun x1 => if x1 = 0 then (some ((-3 : Int32), h0)) else ((gR h0 l0 7 1).bind fun r3 => (gR h0 l0 7 0).bind fun r4 => (f_X7_copies r3 r4 h0).bind fun q5 => (gR q5.2 l0 7 0).bind fun r6 => (aL q5.2 r6 (1 : Int32)).bind fun x7 => some (x7, q5.2))
set_option maxRecDepth 100000 in
set_option maxHeartbeats 4000000 in
theorem c_X7_back {l0 : Nat} {h0 : Hp} {q : Int32 × Hp} (hf : f_X7_back l0 h0 = some q) : Mt 2 yX7_back cX7_back 1 (some .int) [.ref l0] h0 (some (.int q.1)) q.2 := by
  refine MtQ.of (by decide) (Nat.le_of_ble_eq_true rfl) (fun X adr hr hn => ?_)
  unfold f_X7_back at hf
  show AW X cX7_back 1 RX7 (rmd 2 0 0) (Qmet X 0 0 (Qe (some (.int q.1)) q.2 adr)) 0 0 adr h0 0 [(0, .ref l0)] []
  obtain ⟨u0, e0, hf⟩ := b_some hf
  refine aw_aload_n 0 dX7_back_0 rfl rfl ?_
  obtain ⟨x1, ex1, hf⟩ := b_some hf
  refine aw_getI dX7_back_1 gfX7_262 ex1 ?_
  refine aw_if_ne (tgt := 10) dX7_back_4 (by decide) (fun c2 => ?_) (fun c2 => ?_)
  · have hf := i_neg c2 hf
    refine aw_aload_n 0 dX7_back_10 rfl rfl ?_
    obtain ⟨r3, er3, hf⟩ := b_some hf
    refine aw_getR dX7_back_11 gfX7_13 er3 ?_
    refine aw_aload_n 0 dX7_back_14 rfl rfl ?_
    obtain ⟨r4, er4, hf⟩ := b_some hf
    refine aw_getR dX7_back_15 gfX7_9 er4 ?_
    obtain ⟨q5, eq5, hf⟩ := b_some hf
    refine aw_cS0 (as := [.ref r3, .ref r4]) dX7_back_18 moX7_copies soX7_copies mlX7_265 (rm_ok (by omega) (by decide)) ⟨Nat.le_refl _, Nat.le_refl _⟩ (Nat.le_of_ble_eq_true rfl) rfl (c_X7_copies eq5) ?_
    refine aw_aload_n 0 dX7_back_21 rfl rfl ?_
    obtain ⟨r6, er6, hf⟩ := b_some hf
    refine aw_getR dX7_back_22 gfX7_9 er6 ?_
    refine aw_iconst (v := 1) dX7_back_25 (by decide) ?_
    obtain ⟨x7, ex7, hf⟩ := b_some hf
    refine aw_iald dX7_back_26 ex7 ?_
    have hq := Option.some.inj hf
    subst hq
    exact aw_iret hr dX7_back_27 ⟨rfl, rfl, rfl⟩
  · have hf := i_pos c2 hf
    refine aw_bipush (v := -3) dX7_back_7 (by decide) ?_
    have hq := Option.some.inj hf
    subst hq
    exact aw_iret hr dX7_back_9 ⟨rfl, rfl, rfl⟩
theorem k_X7_back {l0 : Nat} {h0 : Hp} {q : Int32 × Hp} (hf : f_X7_back l0 h0 = some q) : ck h0 l0 7 = some () := by
  unfold f_X7_back at hf
  obtain ⟨u0, e0, hf⟩ := b_some hf
  exact e0
theorem dX7_in_0 : decode cX7_in 0 = .ok (.lload_n 0, 1) := by decide +kernel
theorem dX7_in_1 : decode cX7_in 1 = .ok (.lload_n 2, 1) := by decide +kernel
theorem dX7_in_2 : decode cX7_in 2 = .ok (.lcmp, 1) := by decide +kernel
theorem dX7_in_3 : decode cX7_in 3 = .ok (.ifCond .lt 14, 3) := by decide +kernel
theorem dX7_in_6 : decode cX7_in 6 = .ok (.lload_n 0, 1) := by decide +kernel
theorem dX7_in_7 : decode cX7_in 7 = .ok (.lload 4, 2) := by decide +kernel
theorem dX7_in_9 : decode cX7_in 9 = .ok (.lcmp, 1) := by decide +kernel
theorem dX7_in_10 : decode cX7_in 10 = .ok (.ifCond .gt 7, 3) := by decide +kernel
theorem dX7_in_13 : decode cX7_in 13 = .ok (.iconst 1, 1) := by decide +kernel
theorem dX7_in_14 : decode cX7_in 14 = .ok (.goto 4, 3) := by decide +kernel
theorem dX7_in_17 : decode cX7_in 17 = .ok (.iconst 0, 1) := by decide +kernel
theorem dX7_in_18 : decode cX7_in 18 = .ok (.ireturn, 1) := by decide +kernel
def f_X7_in (l0 : Int64) (l2 : Int64) (l4 : Int64) (h0 : Hp) : Option (Int32 × Hp) :=
  if (lg_cmp l0 l2) < 0 then (some ((0 : Int32), h0)) else (if 0 < (lg_cmp l0 l4) then (some ((0 : Int32), h0)) else (some ((1 : Int32), h0)))
set_option maxRecDepth 100000 in
set_option maxHeartbeats 4000000 in
theorem c_X7_in {l0 : Int64} {l2 : Int64} {l4 : Int64} {h0 : Hp} {q : Int32 × Hp} (hf : f_X7_in l0 l2 l4 h0 = some q) : Mt 1 yX7_in cX7_in 6 (some .boolean) [.long l0, .long l2, .long l4] h0 (some (.int q.1)) q.2 := by
  refine MtQ.of (by decide) (Nat.le_of_ble_eq_true rfl) (fun X adr hr hn => ?_)
  unfold f_X7_in at hf
  show AW X cX7_in 6 RX7 (rmd 1 0 0) (Qmet X 0 0 (Qe (some (.int q.1)) q.2 adr)) 0 0 adr h0 0 [(0, .long l0), (2, .long l2), (4, .long l4)] []
  refine aw_lload_n 0 dX7_in_0 rfl rfl ?_
  refine aw_lload_n 1 dX7_in_1 rfl rfl ?_
  refine aw_lcmp dX7_in_2 ?_
  refine aw_if_lt (tgt := 17) dX7_in_3 (by decide) (fun c1 => ?_) (fun c1 => ?_)
  · have hf := i_pos c1 hf
    refine aw_iconst (v := 0) dX7_in_17 (by decide) ?_
    have hq := Option.some.inj hf
    subst hq
    exact aw_zret hr (by decide) dX7_in_18 ⟨rfl, rfl, rfl⟩
  · have hf := i_neg c1 hf
    refine aw_lload_n 0 dX7_in_6 rfl rfl ?_
    refine aw_lload 2 dX7_in_7 rfl ?_
    refine aw_lcmp dX7_in_9 ?_
    refine aw_if_gt (tgt := 17) dX7_in_10 (by decide) (fun c2 => ?_) (fun c2 => ?_)
    · have hf := i_pos c2 hf
      refine aw_iconst (v := 0) dX7_in_17 (by decide) ?_
      have hq := Option.some.inj hf
      subst hq
      exact aw_zret hr (by decide) dX7_in_18 ⟨rfl, rfl, rfl⟩
    · have hf := i_neg c2 hf
      refine aw_iconst (v := 1) dX7_in_13 (by decide) ?_
      refine aw_goto (tgt := 18) dX7_in_14 (by decide) ?_
      have hq := Option.some.inj hf
      subst hq
      exact aw_zret hr (by decide) dX7_in_18 ⟨rfl, rfl, rfl⟩
theorem dX7_isTeam_0 : decode cX7_isTeam 0 = .ok (.iload_n 1, 1) := by decide +kernel
theorem dX7_isTeam_1 : decode cX7_isTeam 1 = .ok (.i2l, 1) := by decide +kernel
theorem dX7_isTeam_2 : decode cX7_isTeam 2 = .ok (.lconst 0, 1) := by decide +kernel
theorem dX7_isTeam_3 : decode cX7_isTeam 3 = .ok (.aload_n 0, 1) := by decide +kernel
theorem dX7_isTeam_4 : decode cX7_isTeam 4 = .ok (.getfield 9, 3) := by decide +kernel
theorem dX7_isTeam_7 : decode cX7_isTeam 7 = .ok (.iconst 0, 1) := by decide +kernel
theorem dX7_isTeam_8 : decode cX7_isTeam 8 = .ok (.iaload, 1) := by decide +kernel
theorem dX7_isTeam_9 : decode cX7_isTeam 9 = .ok (.iconst 1, 1) := by decide +kernel
theorem dX7_isTeam_10 : decode cX7_isTeam 10 = .ok (.isub, 1) := by decide +kernel
theorem dX7_isTeam_11 : decode cX7_isTeam 11 = .ok (.i2l, 1) := by decide +kernel
theorem dX7_isTeam_12 : decode cX7_isTeam 12 = .ok (.invokestatic 43, 3) := by decide +kernel
theorem dX7_isTeam_15 : decode cX7_isTeam 15 = .ok (.ireturn, 1) := by decide +kernel
def f_X7_isTeam (l0 : Nat) (l1 : Int32) (h0 : Hp) : Option (Int32 × Hp) :=
  (ck h0 l0 7).bind fun _ => (gR h0 l0 7 0).bind fun r1 => (aL h0 r1 (0 : Int32)).bind fun x2 => (f_X7_in (Int32.toInt64 l1) (0 : Int64) (Int32.toInt64 (x2 - (1 : Int32))) h0).bind fun q3 => (bz q3.1).bind fun u4 => some (q3.1, q3.2)
set_option maxRecDepth 100000 in
set_option maxHeartbeats 4000000 in
theorem c_X7_isTeam {l0 : Nat} {l1 : Int32} {h0 : Hp} {q : Int32 × Hp} (hf : f_X7_isTeam l0 l1 h0 = some q) : Mt 2 yX7_isTeam cX7_isTeam 2 (some .boolean) [.ref l0, .int l1] h0 (some (.int q.1)) q.2 := by
  refine MtQ.of (by decide) (Nat.le_of_ble_eq_true rfl) (fun X adr hr hn => ?_)
  unfold f_X7_isTeam at hf
  show AW X cX7_isTeam 2 RX7 (rmd 2 0 0) (Qmet X 0 0 (Qe (some (.int q.1)) q.2 adr)) 0 0 adr h0 0 [(0, .ref l0), (1, .int l1)] []
  obtain ⟨u0, e0, hf⟩ := b_some hf
  refine aw_iload_n 1 dX7_isTeam_0 rfl rfl ?_
  refine aw_i2l dX7_isTeam_1 ?_
  refine aw_lconst (v := 0) dX7_isTeam_2 (by decide) ?_
  refine aw_aload_n 0 dX7_isTeam_3 rfl rfl ?_
  obtain ⟨r1, er1, hf⟩ := b_some hf
  refine aw_getR dX7_isTeam_4 gfX7_9 er1 ?_
  refine aw_iconst (v := 0) dX7_isTeam_7 (by decide) ?_
  obtain ⟨x2, ex2, hf⟩ := b_some hf
  refine aw_iald dX7_isTeam_8 ex2 ?_
  refine aw_iconst (v := 1) dX7_isTeam_9 (by decide) ?_
  refine aw_isub dX7_isTeam_10 ?_
  refine aw_i2l dX7_isTeam_11 ?_
  obtain ⟨q3, eq3, hf⟩ := b_some hf
  refine aw_cS (as := [.long (Int32.toInt64 l1), .long (0 : Int64), .long (Int32.toInt64 (x2 - (1 : Int32)))]) dX7_isTeam_12 moX7_in soX7_in mlX7_43 (rm_ok (by omega) (by decide)) ⟨Nat.le_refl _, Nat.le_refl _⟩ (Nat.le_of_ble_eq_true rfl) rfl (c_X7_in eq3) ?_
  obtain ⟨u4, eu4, hf⟩ := b_some hf
  have hq := Option.some.inj hf
  subst hq
  exact aw_zret hr (bz_nar eu4) dX7_isTeam_15 ⟨rfl, rfl, rfl⟩
theorem k_X7_isTeam {l0 : Nat} {l1 : Int32} {h0 : Hp} {q : Int32 × Hp} (hf : f_X7_isTeam l0 l1 h0 = some q) : ck h0 l0 7 = some () := by
  unfold f_X7_isTeam at hf
  obtain ⟨u0, e0, hf⟩ := b_some hf
  exact e0
theorem dX7_between_0 : decode cX7_between 0 = .ok (.aload_n 0, 1) := by decide +kernel
theorem dX7_between_1 : decode cX7_between 1 = .ok (.iload_n 1, 1) := by decide +kernel
theorem dX7_between_2 : decode cX7_between 2 = .ok (.invokevirtual 205, 3) := by decide +kernel
theorem dX7_between_5 : decode cX7_between 5 = .ok (.ifCond .eq 16, 3) := by decide +kernel
theorem dX7_between_8 : decode cX7_between 8 = .ok (.aload_n 0, 1) := by decide +kernel
theorem dX7_between_9 : decode cX7_between 9 = .ok (.iload_n 2, 1) := by decide +kernel
theorem dX7_between_10 : decode cX7_between 10 = .ok (.invokevirtual 205, 3) := by decide +kernel
theorem dX7_between_13 : decode cX7_between 13 = .ok (.ifCond .eq 8, 3) := by decide +kernel
theorem dX7_between_16 : decode cX7_between 16 = .ok (.iload_n 1, 1) := by decide +kernel
theorem dX7_between_17 : decode cX7_between 17 = .ok (.iload_n 2, 1) := by decide +kernel
theorem dX7_between_18 : decode cX7_between 18 = .ok (.if_icmp .ne 6, 3) := by decide +kernel
theorem dX7_between_21 : decode cX7_between 21 = .ok (.bipush (-2), 2) := by decide +kernel
theorem dX7_between_23 : decode cX7_between 23 = .ok (.ireturn, 1) := by decide +kernel
theorem dX7_between_24 : decode cX7_between 24 = .ok (.iconst 0, 1) := by decide +kernel
theorem dX7_between_25 : decode cX7_between 25 = .ok (.istore_n 3, 1) := by decide +kernel
theorem dX7_between_26 : decode cX7_between 26 = .ok (.iconst 0, 1) := by decide +kernel
theorem dX7_between_27 : decode cX7_between 27 = .ok (.istore 4, 2) := by decide +kernel
theorem dX7_between_29 : decode cX7_between 29 = .ok (.iload 4, 2) := by decide +kernel
theorem dX7_between_31 : decode cX7_between 31 = .ok (.aload_n 0, 1) := by decide +kernel
theorem dX7_between_32 : decode cX7_between 32 = .ok (.getfield 9, 3) := by decide +kernel
theorem dX7_between_35 : decode cX7_between 35 = .ok (.iconst 1, 1) := by decide +kernel
theorem dX7_between_36 : decode cX7_between 36 = .ok (.iaload, 1) := by decide +kernel
theorem dX7_between_37 : decode cX7_between 37 = .ok (.if_icmp .ge 40, 3) := by decide +kernel
theorem dX7_between_40 : decode cX7_between 40 = .ok (.iload_n 3, 1) := by decide +kernel
theorem dX7_between_41 : decode cX7_between 41 = .ok (.aload_n 0, 1) := by decide +kernel
theorem dX7_between_42 : decode cX7_between 42 = .ok (.iload 4, 2) := by decide +kernel
theorem dX7_between_44 : decode cX7_between 44 = .ok (.iload_n 1, 1) := by decide +kernel
theorem dX7_between_45 : decode cX7_between 45 = .ok (.invokevirtual 64, 3) := by decide +kernel
theorem dX7_between_48 : decode cX7_between 48 = .ok (.ifCond .eq 20, 3) := by decide +kernel
theorem dX7_between_51 : decode cX7_between 51 = .ok (.aload_n 0, 1) := by decide +kernel
theorem dX7_between_52 : decode cX7_between 52 = .ok (.iload 4, 2) := by decide +kernel
theorem dX7_between_54 : decode cX7_between 54 = .ok (.iload_n 2, 1) := by decide +kernel
theorem dX7_between_55 : decode cX7_between 55 = .ok (.invokevirtual 64, 3) := by decide +kernel
theorem dX7_between_58 : decode cX7_between 58 = .ok (.ifCond .eq 10, 3) := by decide +kernel
theorem dX7_between_61 : decode cX7_between 61 = .ok (.iconst 1, 1) := by decide +kernel
theorem dX7_between_62 : decode cX7_between 62 = .ok (.iload 4, 2) := by decide +kernel
theorem dX7_between_64 : decode cX7_between 64 = .ok (.ishl, 1) := by decide +kernel
theorem dX7_between_65 : decode cX7_between 65 = .ok (.goto 4, 3) := by decide +kernel
theorem dX7_between_68 : decode cX7_between 68 = .ok (.iconst 0, 1) := by decide +kernel
theorem dX7_between_69 : decode cX7_between 69 = .ok (.ior, 1) := by decide +kernel
theorem dX7_between_70 : decode cX7_between 70 = .ok (.istore_n 3, 1) := by decide +kernel
theorem dX7_between_71 : decode cX7_between 71 = .ok (.iinc 4 1, 3) := by decide +kernel
theorem dX7_between_74 : decode cX7_between 74 = .ok (.goto (-45), 3) := by decide +kernel
theorem dX7_between_77 : decode cX7_between 77 = .ok (.iload_n 3, 1) := by decide +kernel
theorem dX7_between_78 : decode cX7_between 78 = .ok (.ireturn, 1) := by decide +kernel
def f_X7_between_68 (k29 : Nat × Int32 × Int32 × Int32 × Int32 → Hp → Option (Int32 × Hp)) (l0 : Nat) (l1 : Int32) (l2 : Int32) (l4 : Int32) (s0 : Int32) (h0 : Hp) : Option (Int32 × Hp) :=
  (some (s0 ||| (0 : Int32))).bind fun x1 => (some (l4 + 1)).bind fun x2 => k29 (l0, l1, l2, x1, x2) h0
set_option maxRecDepth 100000 in
set_option maxHeartbeats 4000000 in
theorem c_X7_between_68 {X : Cx} {adr : Nat → Nat} {q : Int32 × Hp} (hr : (mth X).sig.returnType = (some .int)) {k29 : Nat × Int32 × Int32 × Int32 × Int32 → Hp → Option (Int32 × Hp)} (hk29 : ∀ v h, k29 v h = some q → AW X cX7_between 5 RX7 (rmd 3 0 0) (Qmet X 0 0 (Qe (some (.int q.1)) q.2 adr)) 0 0 adr h 29 [(0, .ref v.1), (1, .int v.2.1), (2, .int v.2.2.1), (3, .int v.2.2.2.1), (4, .int v.2.2.2.2)] []) {l0 : Nat} {l1 : Int32} {l2 : Int32} {l4 : Int32} {s0 : Int32} {h0 : Hp} (hf : f_X7_between_68 k29 l0 l1 l2 l4 s0 h0 = some q) : AW X cX7_between 5 RX7 (rmd 3 0 0) (Qmet X 0 0 (Qe (some (.int q.1)) q.2 adr)) 0 0 adr h0 68 [(0, .ref l0), (1, .int l1), (2, .int l2), (4, .int l4)] [.int s0] := by
  unfold f_X7_between_68 at hf
  refine aw_iconst (v := 0) dX7_between_68 (by decide) ?_
  refine aw_ior dX7_between_69 ?_
  obtain ⟨x1, ex1, hf⟩ := b_some hf
  refine aw_nm ex1 ?_
  refine aw_istore_n (L' := [(3, .int x1), (0, .ref l0), (1, .int l1), (2, .int l2), (4, .int l4)]) dX7_between_70 rfl (by decide) rfl ?_
  obtain ⟨x2, ex2, hf⟩ := b_some hf
  refine aw_iinc (v := x2) (L' := [(4, .int x2), (3, .int x1), (0, .ref l0), (1, .int l1), (2, .int l2)]) 4 dX7_between_71 rfl (Option.some.inj ex2) (by decide) rfl ?_
  refine aw_goto (tgt := 29) dX7_between_74 (by decide) ?_
  exact aw_sub [2, 3, 4, 1, 0] rfl (hk29 _ _ hf)
def f_X7_between_29 (k29 : Nat × Int32 × Int32 × Int32 × Int32 → Hp → Option (Int32 × Hp)) (v : Nat × Int32 × Int32 × Int32 × Int32) (h0 : Hp) : Option (Int32 × Hp) :=
  match v with
  | (l0, l1, l2, l3, l4) => (gR h0 l0 7 0).bind fun r1 => (aL h0 r1 (1 : Int32)).bind fun x2 => if x2 ≤ l4 then (some (l3, h0)) else ((f_X7_isOf l0 l4 l1 h0).bind fun q4 => if q4.1 = 0 then (f_X7_between_68 k29 l0 l1 l2 l4 l3 q4.2) else ((f_X7_isOf l0 l4 l2 q4.2).bind fun q6 => if q6.1 = 0 then (f_X7_between_68 k29 l0 l1 l2 l4 l3 q6.2) else ((some (l3 ||| ((1 : Int32) <<< (l4 &&& 31)))).bind fun x8 => (some (l4 + 1)).bind fun x9 => k29 (l0, l1, l2, x8, x9) q6.2)))
set_option maxRecDepth 100000 in
set_option maxHeartbeats 4000000 in
theorem c_X7_between_29 {X : Cx} {adr : Nat → Nat} {q : Int32 × Hp} (hr : (mth X).sig.returnType = (some .int)) (n : Nat) : ∀ v h0, lp (f_X7_between_29) n v h0 = some q → AW X cX7_between 5 RX7 (rmd 3 0 0) (Qmet X 0 0 (Qe (some (.int q.1)) q.2 adr)) 0 0 adr h0 29 [(0, .ref v.1), (1, .int v.2.1), (2, .int v.2.2.1), (3, .int v.2.2.2.1), (4, .int v.2.2.2.2)] [] := by
  refine aw_lp (fun k29 hk29 v h0 hf => ?_) n
  obtain ⟨l0, l1, l2, l3, l4⟩ := v
  unfold f_X7_between_29 at hf
  dsimp only at hf
  show AW X cX7_between 5 RX7 (rmd 3 0 0) (Qmet X 0 0 (Qe (some (.int q.1)) q.2 adr)) 0 0 adr h0 29 [(0, .ref l0), (1, .int l1), (2, .int l2), (3, .int l3), (4, .int l4)] []
  refine aw_iload 4 dX7_between_29 rfl ?_
  refine aw_aload_n 0 dX7_between_31 rfl rfl ?_
  obtain ⟨r1, er1, hf⟩ := b_some hf
  refine aw_getR dX7_between_32 gfX7_9 er1 ?_
  refine aw_iconst (v := 1) dX7_between_35 (by decide) ?_
  obtain ⟨x2, ex2, hf⟩ := b_some hf
  refine aw_iald dX7_between_36 ex2 ?_
  refine aw_icmp_ge (tgt := 77) dX7_between_37 (by decide) (fun c3 => ?_) (fun c3 => ?_)
  · have hf := i_pos c3 hf
    refine aw_iload_n 3 dX7_between_77 rfl rfl ?_
    have hq := Option.some.inj hf
    subst hq
    exact aw_iret hr dX7_between_78 ⟨rfl, rfl, rfl⟩
  · have hf := i_neg c3 hf
    refine aw_iload_n 3 dX7_between_40 rfl rfl ?_
    refine aw_aload_n 0 dX7_between_41 rfl rfl ?_
    refine aw_iload 4 dX7_between_42 rfl ?_
    refine aw_iload_n 1 dX7_between_44 rfl rfl ?_
    obtain ⟨q4, eq4, hf⟩ := b_some hf
    refine aw_cV (as := [.int l4, .int l1]) dX7_between_45 moX7_isOf voX7_isOf mlX7_64 (k_X7_isOf eq4) rfl (rm_ok (by omega) (by decide)) ⟨Nat.le_refl _, Nat.le_refl _⟩ (Nat.le_of_ble_eq_true rfl) rfl (c_X7_isOf eq4) ?_
    refine aw_if_eq (tgt := 68) dX7_between_48 (by decide) (fun c5 => ?_) (fun c5 => ?_)
    · have hf := i_pos c5 hf
      exact aw_sub [0, 1, 2, 4] rfl (c_X7_between_68 hr hk29 hf)
    · have hf := i_neg c5 hf
      refine aw_aload_n 0 dX7_between_51 rfl rfl ?_
      refine aw_iload 4 dX7_between_52 rfl ?_
      refine aw_iload_n 2 dX7_between_54 rfl rfl ?_
      obtain ⟨q6, eq6, hf⟩ := b_some hf
      refine aw_cV (as := [.int l4, .int l2]) dX7_between_55 moX7_isOf voX7_isOf mlX7_64 (k_X7_isOf eq6) rfl (rm_ok (by omega) (by decide)) ⟨Nat.le_refl _, Nat.le_refl _⟩ (Nat.le_of_ble_eq_true rfl) rfl (c_X7_isOf eq6) ?_
      refine aw_if_eq (tgt := 68) dX7_between_58 (by decide) (fun c7 => ?_) (fun c7 => ?_)
      · have hf := i_pos c7 hf
        exact aw_sub [0, 1, 2, 4] rfl (c_X7_between_68 hr hk29 hf)
      · have hf := i_neg c7 hf
        refine aw_iconst (v := 1) dX7_between_61 (by decide) ?_
        refine aw_iload 4 dX7_between_62 rfl ?_
        refine aw_ishl dX7_between_64 ?_
        refine aw_goto (tgt := 69) dX7_between_65 (by decide) ?_
        refine aw_ior dX7_between_69 ?_
        obtain ⟨x8, ex8, hf⟩ := b_some hf
        refine aw_nm ex8 ?_
        refine aw_istore_n (L' := [(3, .int x8), (0, .ref l0), (1, .int l1), (2, .int l2), (4, .int l4)]) dX7_between_70 rfl (by decide) rfl ?_
        obtain ⟨x9, ex9, hf⟩ := b_some hf
        refine aw_iinc (v := x9) (L' := [(4, .int x9), (3, .int x8), (0, .ref l0), (1, .int l1), (2, .int l2)]) 4 dX7_between_71 rfl (Option.some.inj ex9) (by decide) rfl ?_
        refine aw_goto (tgt := 29) dX7_between_74 (by decide) ?_
        exact aw_sub [2, 3, 4, 1, 0] rfl (hk29 _ _ hf)
def f_X7_between (l0 : Nat) (l1 : Int32) (l2 : Int32) (h0 : Hp) : Option (Int32 × Hp) :=
  (ck h0 l0 7).bind fun _ => (f_X7_isTeam l0 l1 h0).bind fun q1 => if q1.1 = 0 then (some ((-2 : Int32), q1.2)) else ((f_X7_isTeam l0 l2 q1.2).bind fun q3 => if q3.1 = 0 then (some ((-2 : Int32), q3.2)) else (if l1 = l2 then (some ((-2 : Int32), q3.2)) else (lp (f_X7_between_29) 600 (l0, l1, l2, (0 : Int32), (0 : Int32)) q3.2)))
set_option maxRecDepth 100000 in
set_option maxHeartbeats 4000000 in
theorem c_X7_between {l0 : Nat} {l1 : Int32} {l2 : Int32} {h0 : Hp} {q : Int32 × Hp} (hf : f_X7_between l0 l1 l2 h0 = some q) : Mt 3 yX7_between cX7_between 5 (some .int) [.ref l0, .int l1, .int l2] h0 (some (.int q.1)) q.2 := by
  refine MtQ.of (by decide) (Nat.le_of_ble_eq_true rfl) (fun X adr hr hn => ?_)
  unfold f_X7_between at hf
  show AW X cX7_between 5 RX7 (rmd 3 0 0) (Qmet X 0 0 (Qe (some (.int q.1)) q.2 adr)) 0 0 adr h0 0 [(0, .ref l0), (1, .int l1), (2, .int l2)] []
  obtain ⟨u0, e0, hf⟩ := b_some hf
  refine aw_aload_n 0 dX7_between_0 rfl rfl ?_
  refine aw_iload_n 1 dX7_between_1 rfl rfl ?_
  obtain ⟨q1, eq1, hf⟩ := b_some hf
  refine aw_cV (as := [.int l1]) dX7_between_2 moX7_isTeam voX7_isTeam mlX7_205 (k_X7_isTeam eq1) rfl (rm_ok (by omega) (by decide)) ⟨Nat.le_refl _, Nat.le_refl _⟩ (Nat.le_of_ble_eq_true rfl) rfl (c_X7_isTeam eq1) ?_
  refine aw_if_eq (tgt := 21) dX7_between_5 (by decide) (fun c2 => ?_) (fun c2 => ?_)
  · have hf := i_pos c2 hf
    refine aw_bipush (v := -2) dX7_between_21 (by decide) ?_
    have hq := Option.some.inj hf
    subst hq
    exact aw_iret hr dX7_between_23 ⟨rfl, rfl, rfl⟩
  · have hf := i_neg c2 hf
    refine aw_aload_n 0 dX7_between_8 rfl rfl ?_
    refine aw_iload_n 2 dX7_between_9 rfl rfl ?_
    obtain ⟨q3, eq3, hf⟩ := b_some hf
    refine aw_cV (as := [.int l2]) dX7_between_10 moX7_isTeam voX7_isTeam mlX7_205 (k_X7_isTeam eq3) rfl (rm_ok (by omega) (by decide)) ⟨Nat.le_refl _, Nat.le_refl _⟩ (Nat.le_of_ble_eq_true rfl) rfl (c_X7_isTeam eq3) ?_
    refine aw_if_eq (tgt := 21) dX7_between_13 (by decide) (fun c4 => ?_) (fun c4 => ?_)
    · have hf := i_pos c4 hf
      refine aw_bipush (v := -2) dX7_between_21 (by decide) ?_
      have hq := Option.some.inj hf
      subst hq
      exact aw_iret hr dX7_between_23 ⟨rfl, rfl, rfl⟩
    · have hf := i_neg c4 hf
      refine aw_iload_n 1 dX7_between_16 rfl rfl ?_
      refine aw_iload_n 2 dX7_between_17 rfl rfl ?_
      refine aw_icmp_ne (tgt := 24) dX7_between_18 (by decide) (fun c5 => ?_) (fun c5 => ?_)
      · have hf := i_neg c5 hf
        refine aw_iconst (v := 0) dX7_between_24 (by decide) ?_
        refine aw_istore_n (L' := [(3, .int (0 : Int32)), (0, .ref l0), (1, .int l1), (2, .int l2)]) dX7_between_25 rfl (by decide) rfl ?_
        refine aw_iconst (v := 0) dX7_between_26 (by decide) ?_
        refine aw_istore (L' := [(4, .int (0 : Int32)), (3, .int (0 : Int32)), (0, .ref l0), (1, .int l1), (2, .int l2)]) dX7_between_27 (by decide) rfl ?_
        exact aw_sub [2, 3, 4, 1, 0] rfl (c_X7_between_29 hr 600 _ _ hf)
      · have hf := i_pos c5 hf
        refine aw_bipush (v := -2) dX7_between_21 (by decide) ?_
        have hq := Option.some.inj hf
        subst hq
        exact aw_iret hr dX7_between_23 ⟨rfl, rfl, rfl⟩
theorem k_X7_between {l0 : Nat} {l1 : Int32} {l2 : Int32} {h0 : Hp} {q : Int32 × Hp} (hf : f_X7_between l0 l1 l2 h0 = some q) : ck h0 l0 7 = some () := by
  unfold f_X7_between at hf
  obtain ⟨u0, e0, hf⟩ := b_some hf
  exact e0
theorem dX7_byteAt_0 : decode cX7_byteAt 0 = .ok (.iload_n 1, 1) := by decide +kernel
theorem dX7_byteAt_1 : decode cX7_byteAt 1 = .ok (.aload_n 0, 1) := by decide +kernel
theorem dX7_byteAt_2 : decode cX7_byteAt 2 = .ok (.getfield 129, 3) := by decide +kernel
theorem dX7_byteAt_5 : decode cX7_byteAt 5 = .ok (.if_icmp .ge 12, 3) := by decide +kernel
theorem dX7_byteAt_8 : decode cX7_byteAt 8 = .ok (.aload_n 0, 1) := by decide +kernel
theorem dX7_byteAt_9 : decode cX7_byteAt 9 = .ok (.getfield 25, 3) := by decide +kernel
theorem dX7_byteAt_12 : decode cX7_byteAt 12 = .ok (.iload_n 1, 1) := by decide +kernel
theorem dX7_byteAt_13 : decode cX7_byteAt 13 = .ok (.iaload, 1) := by decide +kernel
theorem dX7_byteAt_14 : decode cX7_byteAt 14 = .ok (.goto 4, 3) := by decide +kernel
theorem dX7_byteAt_17 : decode cX7_byteAt 17 = .ok (.iconst (-1), 1) := by decide +kernel
theorem dX7_byteAt_18 : decode cX7_byteAt 18 = .ok (.ireturn, 1) := by decide +kernel
def f_X7_byteAt (l0 : Nat) (l1 : Int32) (h0 : Hp) : Option (Int32 × Hp) :=
  (ck h0 l0 7).bind fun _ => (gI h0 l0 7 11).bind fun x1 => if x1 ≤ l1 then (some ((-1 : Int32), h0)) else ((gR h0 l0 7 10).bind fun r3 => (aL h0 r3 l1).bind fun x4 => some (x4, h0))
set_option maxRecDepth 100000 in
set_option maxHeartbeats 4000000 in
theorem c_X7_byteAt {l0 : Nat} {l1 : Int32} {h0 : Hp} {q : Int32 × Hp} (hf : f_X7_byteAt l0 l1 h0 = some q) : Mt 1 yX7_byteAt cX7_byteAt 2 (some .int) [.ref l0, .int l1] h0 (some (.int q.1)) q.2 := by
  refine MtQ.of (by decide) (Nat.le_of_ble_eq_true rfl) (fun X adr hr hn => ?_)
  unfold f_X7_byteAt at hf
  show AW X cX7_byteAt 2 RX7 (rmd 1 0 0) (Qmet X 0 0 (Qe (some (.int q.1)) q.2 adr)) 0 0 adr h0 0 [(0, .ref l0), (1, .int l1)] []
  obtain ⟨u0, e0, hf⟩ := b_some hf
  refine aw_iload_n 1 dX7_byteAt_0 rfl rfl ?_
  refine aw_aload_n 0 dX7_byteAt_1 rfl rfl ?_
  obtain ⟨x1, ex1, hf⟩ := b_some hf
  refine aw_getI dX7_byteAt_2 gfX7_129 ex1 ?_
  refine aw_icmp_ge (tgt := 17) dX7_byteAt_5 (by decide) (fun c2 => ?_) (fun c2 => ?_)
  · have hf := i_pos c2 hf
    refine aw_iconst (v := -1) dX7_byteAt_17 (by decide) ?_
    have hq := Option.some.inj hf
    subst hq
    exact aw_iret hr dX7_byteAt_18 ⟨rfl, rfl, rfl⟩
  · have hf := i_neg c2 hf
    refine aw_aload_n 0 dX7_byteAt_8 rfl rfl ?_
    obtain ⟨r3, er3, hf⟩ := b_some hf
    refine aw_getR dX7_byteAt_9 gfX7_25 er3 ?_
    refine aw_iload_n 1 dX7_byteAt_12 rfl rfl ?_
    obtain ⟨x4, ex4, hf⟩ := b_some hf
    refine aw_iald dX7_byteAt_13 ex4 ?_
    refine aw_goto (tgt := 18) dX7_byteAt_14 (by decide) ?_
    have hq := Option.some.inj hf
    subst hq
    exact aw_iret hr dX7_byteAt_18 ⟨rfl, rfl, rfl⟩
theorem k_X7_byteAt {l0 : Nat} {l1 : Int32} {h0 : Hp} {q : Int32 × Hp} (hf : f_X7_byteAt l0 l1 h0 = some q) : ck h0 l0 7 = some () := by
  unfold f_X7_byteAt at hf
  obtain ⟨u0, e0, hf⟩ := b_some hf
  exact e0
theorem dX7_canBePassed_0 : decode cX7_canBePassed 0 = .ok (.iload_n 2, 1) := by decide +kernel
theorem dX7_canBePassed_1 : decode cX7_canBePassed 1 = .ok (.aload_n 0, 1) := by decide +kernel
theorem dX7_canBePassed_2 : decode cX7_canBePassed 2 = .ok (.getfield 9, 3) := by decide +kernel
theorem dX7_canBePassed_5 : decode cX7_canBePassed 5 = .ok (.iconst 1, 1) := by decide +kernel
theorem dX7_canBePassed_6 : decode cX7_canBePassed 6 = .ok (.iaload, 1) := by decide +kernel
theorem dX7_canBePassed_7 : decode cX7_canBePassed 7 = .ok (.if_icmp .ne 40, 3) := by decide +kernel
theorem dX7_canBePassed_10 : decode cX7_canBePassed 10 = .ok (.iconst 0, 1) := by decide +kernel
theorem dX7_canBePassed_11 : decode cX7_canBePassed 11 = .ok (.istore_n 3, 1) := by decide +kernel
theorem dX7_canBePassed_12 : decode cX7_canBePassed 12 = .ok (.iload_n 3, 1) := by decide +kernel
theorem dX7_canBePassed_13 : decode cX7_canBePassed 13 = .ok (.aload_n 0, 1) := by decide +kernel
theorem dX7_canBePassed_14 : decode cX7_canBePassed 14 = .ok (.getfield 9, 3) := by decide +kernel
theorem dX7_canBePassed_17 : decode cX7_canBePassed 17 = .ok (.iconst 0, 1) := by decide +kernel
theorem dX7_canBePassed_18 : decode cX7_canBePassed 18 = .ok (.iaload, 1) := by decide +kernel
theorem dX7_canBePassed_19 : decode cX7_canBePassed 19 = .ok (.if_icmp .ge 26, 3) := by decide +kernel
theorem dX7_canBePassed_22 : decode cX7_canBePassed 22 = .ok (.aload_n 0, 1) := by decide +kernel
theorem dX7_canBePassed_23 : decode cX7_canBePassed 23 = .ok (.getfield 19, 3) := by decide +kernel
theorem dX7_canBePassed_26 : decode cX7_canBePassed 26 = .ok (.iload_n 3, 1) := by decide +kernel
theorem dX7_canBePassed_27 : decode cX7_canBePassed 27 = .ok (.iaload, 1) := by decide +kernel
theorem dX7_canBePassed_28 : decode cX7_canBePassed 28 = .ok (.aload_n 0, 1) := by decide +kernel
theorem dX7_canBePassed_29 : decode cX7_canBePassed 29 = .ok (.getfield 19, 3) := by decide +kernel
theorem dX7_canBePassed_32 : decode cX7_canBePassed 32 = .ok (.iload_n 1, 1) := by decide +kernel
theorem dX7_canBePassed_33 : decode cX7_canBePassed 33 = .ok (.iaload, 1) := by decide +kernel
theorem dX7_canBePassed_34 : decode cX7_canBePassed 34 = .ok (.if_icmp .le 5, 3) := by decide +kernel
theorem dX7_canBePassed_37 : decode cX7_canBePassed 37 = .ok (.iconst 1, 1) := by decide +kernel
theorem dX7_canBePassed_38 : decode cX7_canBePassed 38 = .ok (.ireturn, 1) := by decide +kernel
theorem dX7_canBePassed_39 : decode cX7_canBePassed 39 = .ok (.iinc 3 1, 3) := by decide +kernel
theorem dX7_canBePassed_42 : decode cX7_canBePassed 42 = .ok (.goto (-30), 3) := by decide +kernel
theorem dX7_canBePassed_45 : decode cX7_canBePassed 45 = .ok (.iconst 0, 1) := by decide +kernel
theorem dX7_canBePassed_46 : decode cX7_canBePassed 46 = .ok (.ireturn, 1) := by decide +kernel
theorem dX7_canBePassed_47 : decode cX7_canBePassed 47 = .ok (.aload_n 0, 1) := by decide +kernel
theorem dX7_canBePassed_48 : decode cX7_canBePassed 48 = .ok (.getfield 16, 3) := by decide +kernel
theorem dX7_canBePassed_51 : decode cX7_canBePassed 51 = .ok (.iload_n 2, 1) := by decide +kernel
theorem dX7_canBePassed_52 : decode cX7_canBePassed 52 = .ok (.iaload, 1) := by decide +kernel
theorem dX7_canBePassed_53 : decode cX7_canBePassed 53 = .ok (.iconst (-1), 1) := by decide +kernel
theorem dX7_canBePassed_54 : decode cX7_canBePassed 54 = .ok (.if_icmp .eq 12, 3) := by decide +kernel
theorem dX7_canBePassed_57 : decode cX7_canBePassed 57 = .ok (.aload_n 0, 1) := by decide +kernel
theorem dX7_canBePassed_58 : decode cX7_canBePassed 58 = .ok (.iload_n 1, 1) := by decide +kernel
theorem dX7_canBePassed_59 : decode cX7_canBePassed 59 = .ok (.iload_n 2, 1) := by decide +kernel
theorem dX7_canBePassed_60 : decode cX7_canBePassed 60 = .ok (.iconst 1, 1) := by decide +kernel
theorem dX7_canBePassed_61 : decode cX7_canBePassed 61 = .ok (.iadd, 1) := by decide +kernel
theorem dX7_canBePassed_62 : decode cX7_canBePassed 62 = .ok (.invokevirtual 118, 3) := by decide +kernel
theorem dX7_canBePassed_65 : decode cX7_canBePassed 65 = .ok (.ireturn, 1) := by decide +kernel
theorem dX7_canBePassed_66 : decode cX7_canBePassed 66 = .ok (.iconst 0, 1) := by decide +kernel
theorem dX7_canBePassed_67 : decode cX7_canBePassed 67 = .ok (.istore_n 3, 1) := by decide +kernel
theorem dX7_canBePassed_68 : decode cX7_canBePassed 68 = .ok (.iconst 0, 1) := by decide +kernel
theorem dX7_canBePassed_69 : decode cX7_canBePassed 69 = .ok (.istore 4, 2) := by decide +kernel
theorem dX7_canBePassed_71 : decode cX7_canBePassed 71 = .ok (.iload 4, 2) := by decide +kernel
theorem dX7_canBePassed_73 : decode cX7_canBePassed 73 = .ok (.aload_n 0, 1) := by decide +kernel
theorem dX7_canBePassed_74 : decode cX7_canBePassed 74 = .ok (.invokevirtual 98, 3) := by decide +kernel
theorem dX7_canBePassed_77 : decode cX7_canBePassed 77 = .ok (.if_icmp .ge 44, 3) := by decide +kernel
theorem dX7_canBePassed_80 : decode cX7_canBePassed 80 = .ok (.iload_n 3, 1) := by decide +kernel
theorem dX7_canBePassed_81 : decode cX7_canBePassed 81 = .ok (.ifCond .ne 40, 3) := by decide +kernel
theorem dX7_canBePassed_84 : decode cX7_canBePassed 84 = .ok (.aload_n 0, 1) := by decide +kernel
theorem dX7_canBePassed_85 : decode cX7_canBePassed 85 = .ok (.iload_n 2, 1) := by decide +kernel
theorem dX7_canBePassed_86 : decode cX7_canBePassed 86 = .ok (.iload 4, 2) := by decide +kernel
theorem dX7_canBePassed_88 : decode cX7_canBePassed 88 = .ok (.invokestatic 105, 3) := by decide +kernel
theorem dX7_canBePassed_91 : decode cX7_canBePassed 91 = .ok (.iconst 1, 1) := by decide +kernel
theorem dX7_canBePassed_92 : decode cX7_canBePassed 92 = .ok (.invokevirtual 54, 3) := by decide +kernel
theorem dX7_canBePassed_95 : decode cX7_canBePassed 95 = .ok (.aload_n 0, 1) := by decide +kernel
theorem dX7_canBePassed_96 : decode cX7_canBePassed 96 = .ok (.iload_n 1, 1) := by decide +kernel
theorem dX7_canBePassed_97 : decode cX7_canBePassed 97 = .ok (.iload_n 2, 1) := by decide +kernel
theorem dX7_canBePassed_98 : decode cX7_canBePassed 98 = .ok (.iconst 1, 1) := by decide +kernel
theorem dX7_canBePassed_99 : decode cX7_canBePassed 99 = .ok (.iadd, 1) := by decide +kernel
theorem dX7_canBePassed_100 : decode cX7_canBePassed 100 = .ok (.invokevirtual 118, 3) := by decide +kernel
theorem dX7_canBePassed_103 : decode cX7_canBePassed 103 = .ok (.istore_n 3, 1) := by decide +kernel
theorem dX7_canBePassed_104 : decode cX7_canBePassed 104 = .ok (.aload_n 0, 1) := by decide +kernel
theorem dX7_canBePassed_105 : decode cX7_canBePassed 105 = .ok (.iload_n 2, 1) := by decide +kernel
theorem dX7_canBePassed_106 : decode cX7_canBePassed 106 = .ok (.iload 4, 2) := by decide +kernel
theorem dX7_canBePassed_108 : decode cX7_canBePassed 108 = .ok (.invokestatic 105, 3) := by decide +kernel
theorem dX7_canBePassed_111 : decode cX7_canBePassed 111 = .ok (.iconst (-1), 1) := by decide +kernel
theorem dX7_canBePassed_112 : decode cX7_canBePassed 112 = .ok (.invokevirtual 54, 3) := by decide +kernel
theorem dX7_canBePassed_115 : decode cX7_canBePassed 115 = .ok (.iinc 4 1, 3) := by decide +kernel
theorem dX7_canBePassed_118 : decode cX7_canBePassed 118 = .ok (.goto (-47), 3) := by decide +kernel
theorem dX7_canBePassed_121 : decode cX7_canBePassed 121 = .ok (.iload_n 3, 1) := by decide +kernel
theorem dX7_canBePassed_122 : decode cX7_canBePassed 122 = .ok (.ireturn, 1) := by decide +kernel
def f_X7_canBePassed_12 (ks : Nat × Int32 × Int32 → Hp → Option (Int32 × Hp)) (k12 : Nat × Int32 × Int32 → Hp → Option (Int32 × Hp)) (v : Nat × Int32 × Int32) (h0 : Hp) : Option (Int32 × Hp) :=
  match v with
  | (l0, l1, l3) => (gR h0 l0 7 0).bind fun r1 => (aL h0 r1 (0 : Int32)).bind fun x2 => if x2 ≤ l3 then (some ((0 : Int32), h0)) else ((gR h0 l0 7 4).bind fun r4 => (aL h0 r4 l3).bind fun x5 => (gR h0 l0 7 4).bind fun r6 => (aL h0 r6 l1).bind fun x7 => if x5 ≤ x7 then ((some (l3 + 1)).bind fun x9 => k12 (l0, l1, x9) h0) else (some ((1 : Int32), h0)))
set_option maxRecDepth 100000 in
set_option maxHeartbeats 4000000 in
theorem c_X7_canBePassed_12 {X : Cx} {adr : Nat → Nat} {q : Int32 × Hp} {d : Nat} (hdd : 2 ≤ d) {ks : Nat × Int32 × Int32 → Hp → Option (Int32 × Hp)} (hks : ∀ a h p, ks a h = some p → Mt d yX7_canBePassed cX7_canBePassed 5 (some .boolean) [.ref a.1, .int a.2.1, .int a.2.2] h (some (.int p.1)) p.2) (hr : (mth X).sig.returnType = (some .boolean)) (n : Nat) : ∀ v h0, lp (f_X7_canBePassed_12 ks) n v h0 = some q → AW X cX7_canBePassed 5 RX7 (rmd (d + 1) 0 0) (Qmet X 0 0 (Qe (some (.int q.1)) q.2 adr)) 0 0 adr h0 12 [(0, .ref v.1), (1, .int v.2.1), (3, .int v.2.2)] [] := by
  refine aw_lp (fun k12 hk12 v h0 hf => ?_) n
  obtain ⟨l0, l1, l3⟩ := v
  unfold f_X7_canBePassed_12 at hf
  dsimp only at hf
  show AW X cX7_canBePassed 5 RX7 (rmd (d + 1) 0 0) (Qmet X 0 0 (Qe (some (.int q.1)) q.2 adr)) 0 0 adr h0 12 [(0, .ref l0), (1, .int l1), (3, .int l3)] []
  refine aw_iload_n 2 dX7_canBePassed_12 rfl rfl ?_
  refine aw_aload_n 0 dX7_canBePassed_13 rfl rfl ?_
  obtain ⟨r1, er1, hf⟩ := b_some hf
  refine aw_getR dX7_canBePassed_14 gfX7_9 er1 ?_
  refine aw_iconst (v := 0) dX7_canBePassed_17 (by decide) ?_
  obtain ⟨x2, ex2, hf⟩ := b_some hf
  refine aw_iald dX7_canBePassed_18 ex2 ?_
  refine aw_icmp_ge (tgt := 45) dX7_canBePassed_19 (by decide) (fun c3 => ?_) (fun c3 => ?_)
  · have hf := i_pos c3 hf
    refine aw_iconst (v := 0) dX7_canBePassed_45 (by decide) ?_
    have hq := Option.some.inj hf
    subst hq
    exact aw_zret hr (by decide) dX7_canBePassed_46 ⟨rfl, rfl, rfl⟩
  · have hf := i_neg c3 hf
    refine aw_aload_n 0 dX7_canBePassed_22 rfl rfl ?_
    obtain ⟨r4, er4, hf⟩ := b_some hf
    refine aw_getR dX7_canBePassed_23 gfX7_19 er4 ?_
    refine aw_iload_n 2 dX7_canBePassed_26 rfl rfl ?_
    obtain ⟨x5, ex5, hf⟩ := b_some hf
    refine aw_iald dX7_canBePassed_27 ex5 ?_
    refine aw_aload_n 0 dX7_canBePassed_28 rfl rfl ?_
    obtain ⟨r6, er6, hf⟩ := b_some hf
    refine aw_getR dX7_canBePassed_29 gfX7_19 er6 ?_
    refine aw_iload_n 1 dX7_canBePassed_32 rfl rfl ?_
    obtain ⟨x7, ex7, hf⟩ := b_some hf
    refine aw_iald dX7_canBePassed_33 ex7 ?_
    refine aw_icmp_le (tgt := 39) dX7_canBePassed_34 (by decide) (fun c8 => ?_) (fun c8 => ?_)
    · have hf := i_pos c8 hf
      obtain ⟨x9, ex9, hf⟩ := b_some hf
      refine aw_iinc (v := x9) (L' := [(3, .int x9), (0, .ref l0), (1, .int l1)]) 2 dX7_canBePassed_39 rfl (Option.some.inj ex9) (by decide) rfl ?_
      refine aw_goto (tgt := 12) dX7_canBePassed_42 (by decide) ?_
      exact aw_sub [1, 2, 0] rfl (hk12 _ _ hf)
    · have hf := i_neg c8 hf
      refine aw_iconst (v := 1) dX7_canBePassed_37 (by decide) ?_
      have hq := Option.some.inj hf
      subst hq
      exact aw_zret hr (by decide) dX7_canBePassed_38 ⟨rfl, rfl, rfl⟩
def f_X7_canBePassed_71 (ks : Nat × Int32 × Int32 → Hp → Option (Int32 × Hp)) (k71 : Nat × Int32 × Int32 × Int32 × Int32 → Hp → Option (Int32 × Hp)) (v : Nat × Int32 × Int32 × Int32 × Int32) (h0 : Hp) : Option (Int32 × Hp) :=
  match v with
  | (l0, l1, l2, l3, l4) => (f_X7_results l0 h0).bind fun q1 => if q1.1 ≤ l4 then ((bz l3).bind fun u3 => some (l3, q1.2)) else (if l3 = 0 then ((f_X7_resultAt l4 q1.2).bind fun q6 => (f_X7_brings l0 l2 q6.1 (1 : Int32) q6.2).bind fun q7 => (ck q7.2 l0 7).bind fun u9 => (ks (l0, l1, (l2 + (1 : Int32))) q7.2).bind fun q8 => (f_X7_resultAt l4 q8.2).bind fun q10 => (f_X7_brings l0 l2 q10.1 (-1 : Int32) q10.2).bind fun q11 => (some (l4 + 1)).bind fun x12 => k71 (l0, l1, l2, q8.1, x12) q11.2) else ((bz l3).bind fun u5 => some (l3, q1.2)))
set_option maxRecDepth 100000 in
set_option maxHeartbeats 4000000 in
theorem c_X7_canBePassed_71 {X : Cx} {adr : Nat → Nat} {q : Int32 × Hp} {d : Nat} (hdd : 2 ≤ d) {ks : Nat × Int32 × Int32 → Hp → Option (Int32 × Hp)} (hks : ∀ a h p, ks a h = some p → Mt d yX7_canBePassed cX7_canBePassed 5 (some .boolean) [.ref a.1, .int a.2.1, .int a.2.2] h (some (.int p.1)) p.2) (hr : (mth X).sig.returnType = (some .boolean)) (n : Nat) : ∀ v h0, lp (f_X7_canBePassed_71 ks) n v h0 = some q → AW X cX7_canBePassed 5 RX7 (rmd (d + 1) 0 0) (Qmet X 0 0 (Qe (some (.int q.1)) q.2 adr)) 0 0 adr h0 71 [(0, .ref v.1), (1, .int v.2.1), (2, .int v.2.2.1), (3, .int v.2.2.2.1), (4, .int v.2.2.2.2)] [] := by
  refine aw_lp (fun k71 hk71 v h0 hf => ?_) n
  obtain ⟨l0, l1, l2, l3, l4⟩ := v
  unfold f_X7_canBePassed_71 at hf
  dsimp only at hf
  show AW X cX7_canBePassed 5 RX7 (rmd (d + 1) 0 0) (Qmet X 0 0 (Qe (some (.int q.1)) q.2 adr)) 0 0 adr h0 71 [(0, .ref l0), (1, .int l1), (2, .int l2), (3, .int l3), (4, .int l4)] []
  refine aw_iload 4 dX7_canBePassed_71 rfl ?_
  refine aw_aload_n 0 dX7_canBePassed_73 rfl rfl ?_
  obtain ⟨q1, eq1, hf⟩ := b_some hf
  refine aw_cV (as := []) dX7_canBePassed_74 moX7_results voX7_results mlX7_98 (k_X7_results eq1) rfl (rm_ok (by omega) (by decide)) ⟨Nat.le_refl _, Nat.le_refl _⟩ (Nat.le_of_ble_eq_true rfl) rfl (c_X7_results eq1) ?_
  refine aw_icmp_ge (tgt := 121) dX7_canBePassed_77 (by decide) (fun c2 => ?_) (fun c2 => ?_)
  · have hf := i_pos c2 hf
    refine aw_iload_n 3 dX7_canBePassed_121 rfl rfl ?_
    obtain ⟨u3, eu3, hf⟩ := b_some hf
    have hq := Option.some.inj hf
    subst hq
    exact aw_zret hr (bz_nar eu3) dX7_canBePassed_122 ⟨rfl, rfl, rfl⟩
  · have hf := i_neg c2 hf
    refine aw_iload_n 3 dX7_canBePassed_80 rfl rfl ?_
    refine aw_if_ne (tgt := 121) dX7_canBePassed_81 (by decide) (fun c4 => ?_) (fun c4 => ?_)
    · have hf := i_neg c4 hf
      refine aw_iload_n 3 dX7_canBePassed_121 rfl rfl ?_
      obtain ⟨u5, eu5, hf⟩ := b_some hf
      have hq := Option.some.inj hf
      subst hq
      exact aw_zret hr (bz_nar eu5) dX7_canBePassed_122 ⟨rfl, rfl, rfl⟩
    · have hf := i_pos c4 hf
      refine aw_aload_n 0 dX7_canBePassed_84 rfl rfl ?_
      refine aw_iload_n 2 dX7_canBePassed_85 rfl rfl ?_
      refine aw_iload 4 dX7_canBePassed_86 rfl ?_
      obtain ⟨q6, eq6, hf⟩ := b_some hf
      refine aw_cS (as := [.int l4]) dX7_canBePassed_88 moX7_resultAt soX7_resultAt mlX7_105 (rm_ok (by omega) (by decide)) ⟨Nat.le_refl _, Nat.le_refl _⟩ (Nat.le_of_ble_eq_true rfl) rfl (c_X7_resultAt eq6) ?_
      refine aw_iconst (v := 1) dX7_canBePassed_91 (by decide) ?_
      obtain ⟨q7, eq7, hf⟩ := b_some hf
      refine aw_cV0 (as := [.int l2, .int q6.1, .int (1 : Int32)]) dX7_canBePassed_92 moX7_brings voX7_brings mlX7_54 (k_X7_brings eq7) rfl (rm_ok (by omega) (by decide)) ⟨Nat.le_refl _, Nat.le_refl _⟩ (Nat.le_of_ble_eq_true rfl) rfl (c_X7_brings eq7) ?_
      refine aw_aload_n 0 dX7_canBePassed_95 rfl rfl ?_
      refine aw_iload_n 1 dX7_canBePassed_96 rfl rfl ?_
      refine aw_iload_n 2 dX7_canBePassed_97 rfl rfl ?_
      refine aw_iconst (v := 1) dX7_canBePassed_98 (by decide) ?_
      refine aw_iadd dX7_canBePassed_99 ?_
      obtain ⟨u9, eu9, hf⟩ := b_some hf
      obtain ⟨q8, eq8, hf⟩ := b_some hf
      refine aw_cV (as := [.int l1, .int (l2 + (1 : Int32))]) dX7_canBePassed_100 moX7_canBePassed voX7_canBePassed mlX7_118 eu9 rfl (rm_ok (by omega) (by decide)) ⟨Nat.le_refl _, Nat.le_refl _⟩ (Nat.le_of_ble_eq_true rfl) rfl (hks _ _ _ eq8) ?_
      refine aw_istore_n (L' := [(3, .int q8.1), (0, .ref l0), (1, .int l1), (2, .int l2), (4, .int l4)]) dX7_canBePassed_103 rfl (by decide) rfl ?_
      refine aw_aload_n 1 dX7_canBePassed_104 rfl rfl ?_
      refine aw_iload_n 3 dX7_canBePassed_105 rfl rfl ?_
      refine aw_iload 4 dX7_canBePassed_106 rfl ?_
      obtain ⟨q10, eq10, hf⟩ := b_some hf
      refine aw_cS (as := [.int l4]) dX7_canBePassed_108 moX7_resultAt soX7_resultAt mlX7_105 (rm_ok (by omega) (by decide)) ⟨Nat.le_refl _, Nat.le_refl _⟩ (Nat.le_of_ble_eq_true rfl) rfl (c_X7_resultAt eq10) ?_
      refine aw_iconst (v := -1) dX7_canBePassed_111 (by decide) ?_
      obtain ⟨q11, eq11, hf⟩ := b_some hf
      refine aw_cV0 (as := [.int l2, .int q10.1, .int (-1 : Int32)]) dX7_canBePassed_112 moX7_brings voX7_brings mlX7_54 (k_X7_brings eq11) rfl (rm_ok (by omega) (by decide)) ⟨Nat.le_refl _, Nat.le_refl _⟩ (Nat.le_of_ble_eq_true rfl) rfl (c_X7_brings eq11) ?_
      obtain ⟨x12, ex12, hf⟩ := b_some hf
      refine aw_iinc (v := x12) (L' := [(4, .int x12), (3, .int q8.1), (0, .ref l0), (1, .int l1), (2, .int l2)]) 4 dX7_canBePassed_115 rfl (Option.some.inj ex12) (by decide) rfl ?_
      refine aw_goto (tgt := 71) dX7_canBePassed_118 (by decide) ?_
      exact aw_sub [2, 3, 4, 1, 0] rfl (hk71 _ _ hf)
def f_X7_canBePassed_r (ks : Nat × Int32 × Int32 → Hp → Option (Int32 × Hp)) (l0 : Nat) (l1 : Int32) (l2 : Int32) (h0 : Hp) : Option (Int32 × Hp) :=
  (ck h0 l0 7).bind fun _ => (gR h0 l0 7 0).bind fun r1 => (aL h0 r1 (1 : Int32)).bind fun x2 => if l2 = x2 then (lp (f_X7_canBePassed_12 ks) 600 (l0, l1, (0 : Int32)) h0) else ((gR h0 l0 7 3).bind fun r4 => (aL h0 r4 l2).bind fun x5 => if x5 = (-1 : Int32) then (lp (f_X7_canBePassed_71 ks) 600 (l0, l1, l2, (0 : Int32), (0 : Int32)) h0) else ((ck h0 l0 7).bind fun u8 => (ks (l0, l1, (l2 + (1 : Int32))) h0).bind fun q7 => (bz q7.1).bind fun u9 => some (q7.1, q7.2)))
set_option maxRecDepth 100000 in
set_option maxHeartbeats 4000000 in
theorem c_X7_canBePassed_r {d : Nat} (hdd : 2 ≤ d) {ks : Nat × Int32 × Int32 → Hp → Option (Int32 × Hp)} (hks : ∀ a h p, ks a h = some p → Mt d yX7_canBePassed cX7_canBePassed 5 (some .boolean) [.ref a.1, .int a.2.1, .int a.2.2] h (some (.int p.1)) p.2) {l0 : Nat} {l1 : Int32} {l2 : Int32} {h0 : Hp} {q : Int32 × Hp} (hf : f_X7_canBePassed_r ks l0 l1 l2 h0 = some q) : Mt (d + 1) yX7_canBePassed cX7_canBePassed 5 (some .boolean) [.ref l0, .int l1, .int l2] h0 (some (.int q.1)) q.2 := by
  refine MtQ.of (by decide) (Nat.le_of_ble_eq_true rfl) (fun X adr hr hn => ?_)
  unfold f_X7_canBePassed_r at hf
  show AW X cX7_canBePassed 5 RX7 (rmd (d + 1) 0 0) (Qmet X 0 0 (Qe (some (.int q.1)) q.2 adr)) 0 0 adr h0 0 [(0, .ref l0), (1, .int l1), (2, .int l2)] []
  obtain ⟨u0, e0, hf⟩ := b_some hf
  refine aw_iload_n 2 dX7_canBePassed_0 rfl rfl ?_
  refine aw_aload_n 0 dX7_canBePassed_1 rfl rfl ?_
  obtain ⟨r1, er1, hf⟩ := b_some hf
  refine aw_getR dX7_canBePassed_2 gfX7_9 er1 ?_
  refine aw_iconst (v := 1) dX7_canBePassed_5 (by decide) ?_
  obtain ⟨x2, ex2, hf⟩ := b_some hf
  refine aw_iald dX7_canBePassed_6 ex2 ?_
  refine aw_icmp_ne (tgt := 47) dX7_canBePassed_7 (by decide) (fun c3 => ?_) (fun c3 => ?_)
  · have hf := i_neg c3 hf
    refine aw_aload_n 0 dX7_canBePassed_47 rfl rfl ?_
    obtain ⟨r4, er4, hf⟩ := b_some hf
    refine aw_getR dX7_canBePassed_48 gfX7_16 er4 ?_
    refine aw_iload_n 2 dX7_canBePassed_51 rfl rfl ?_
    obtain ⟨x5, ex5, hf⟩ := b_some hf
    refine aw_iald dX7_canBePassed_52 ex5 ?_
    refine aw_iconst (v := -1) dX7_canBePassed_53 (by decide) ?_
    refine aw_icmp_eq (tgt := 66) dX7_canBePassed_54 (by decide) (fun c6 => ?_) (fun c6 => ?_)
    · have hf := i_pos c6 hf
      refine aw_iconst (v := 0) dX7_canBePassed_66 (by decide) ?_
      refine aw_istore_n (L' := [(3, .int (0 : Int32)), (0, .ref l0), (1, .int l1), (2, .int l2)]) dX7_canBePassed_67 rfl (by decide) rfl ?_
      refine aw_iconst (v := 0) dX7_canBePassed_68 (by decide) ?_
      refine aw_istore (L' := [(4, .int (0 : Int32)), (3, .int (0 : Int32)), (0, .ref l0), (1, .int l1), (2, .int l2)]) dX7_canBePassed_69 (by decide) rfl ?_
      exact aw_sub [2, 3, 4, 1, 0] rfl (c_X7_canBePassed_71 hdd hks hr 600 _ _ hf)
    · have hf := i_neg c6 hf
      refine aw_aload_n 0 dX7_canBePassed_57 rfl rfl ?_
      refine aw_iload_n 1 dX7_canBePassed_58 rfl rfl ?_
      refine aw_iload_n 2 dX7_canBePassed_59 rfl rfl ?_
      refine aw_iconst (v := 1) dX7_canBePassed_60 (by decide) ?_
      refine aw_iadd dX7_canBePassed_61 ?_
      obtain ⟨u8, eu8, hf⟩ := b_some hf
      obtain ⟨q7, eq7, hf⟩ := b_some hf
      refine aw_cV (as := [.int l1, .int (l2 + (1 : Int32))]) dX7_canBePassed_62 moX7_canBePassed voX7_canBePassed mlX7_118 eu8 rfl (rm_ok (by omega) (by decide)) ⟨Nat.le_refl _, Nat.le_refl _⟩ (Nat.le_of_ble_eq_true rfl) rfl (hks _ _ _ eq7) ?_
      obtain ⟨u9, eu9, hf⟩ := b_some hf
      have hq := Option.some.inj hf
      subst hq
      exact aw_zret hr (bz_nar eu9) dX7_canBePassed_65 ⟨rfl, rfl, rfl⟩
  · have hf := i_pos c3 hf
    refine aw_iconst (v := 0) dX7_canBePassed_10 (by decide) ?_
    refine aw_istore_n (L' := [(3, .int (0 : Int32)), (0, .ref l0), (1, .int l1), (2, .int l2)]) dX7_canBePassed_11 rfl (by decide) rfl ?_
    exact aw_sub [1, 2, 0] rfl (c_X7_canBePassed_12 hdd hks hr 600 _ _ hf)
def f_X7_canBePassed (n : Nat) (l0 : Nat) (l1 : Int32) (l2 : Int32) (h0 : Hp) : Option (Int32 × Hp) := lp (fun ks a h => f_X7_canBePassed_r ks a.1 a.2.1 a.2.2 h) n (l0, l1, l2) h0
theorem c_X7_canBePassed_l : ∀ (n : Nat) (a : Nat × Int32 × Int32) (h : Hp) (p : Int32 × Hp), lp (fun ks a h => f_X7_canBePassed_r ks a.1 a.2.1 a.2.2 h) n a h = some p → Mt (2 + 1 * n) yX7_canBePassed cX7_canBePassed 5 (some .boolean) [.ref a.1, .int a.2.1, .int a.2.2] h (some (.int p.1)) p.2
  | 0, _, _, _, hf => by cases hf
  | n + 1, a, h, p, hf => c_X7_canBePassed_r (d := 2 + 1 * n) (Nat.le_add_right _ _) (c_X7_canBePassed_l n) hf
theorem c_X7_canBePassed (n : Nat) {l0 : Nat} {l1 : Int32} {l2 : Int32} {h0 : Hp} {q : Int32 × Hp} (hf : f_X7_canBePassed n l0 l1 l2 h0 = some q) : Mt (2 + 1 * n) yX7_canBePassed cX7_canBePassed 5 (some .boolean) [.ref l0, .int l1, .int l2] h0 (some (.int q.1)) q.2 := c_X7_canBePassed_l n _ h0 q hf
theorem k_X7_canBePassed {n : Nat} {l0 : Nat} {l1 : Int32} {l2 : Int32} {h0 : Hp} {q : Int32 × Hp} (hf : f_X7_canBePassed n l0 l1 l2 h0 = some q) : ck h0 l0 7 = some () := by
  cases n with
  | zero => cases hf
  | succ n =>
    obtain ⟨u0, e0, hf⟩ := b_some (show (ck h0 l0 7).bind _ = some q from hf)
    exact e0
theorem dX7_draws_0 : decode cX7_draws 0 = .ok (.aload_n 0, 1) := by decide +kernel
theorem dX7_draws_1 : decode cX7_draws 1 = .ok (.invokevirtual 61, 3) := by decide +kernel
theorem dX7_draws_4 : decode cX7_draws 4 = .ok (.iload_n 1, 1) := by decide +kernel
theorem dX7_draws_5 : decode cX7_draws 5 = .ok (.istore_n 2, 1) := by decide +kernel
theorem dX7_draws_6 : decode cX7_draws 6 = .ok (.iconst 0, 1) := by decide +kernel
theorem dX7_draws_7 : decode cX7_draws 7 = .ok (.istore_n 3, 1) := by decide +kernel
theorem dX7_draws_8 : decode cX7_draws 8 = .ok (.iload_n 3, 1) := by decide +kernel
theorem dX7_draws_9 : decode cX7_draws 9 = .ok (.aload_n 0, 1) := by decide +kernel
theorem dX7_draws_10 : decode cX7_draws 10 = .ok (.getfield 9, 3) := by decide +kernel
theorem dX7_draws_13 : decode cX7_draws 13 = .ok (.iconst 1, 1) := by decide +kernel
theorem dX7_draws_14 : decode cX7_draws 14 = .ok (.iaload, 1) := by decide +kernel
theorem dX7_draws_15 : decode cX7_draws 15 = .ok (.if_icmp .ge 60, 3) := by decide +kernel
theorem dX7_draws_18 : decode cX7_draws 18 = .ok (.aload_n 0, 1) := by decide +kernel
theorem dX7_draws_19 : decode cX7_draws 19 = .ok (.getfield 16, 3) := by decide +kernel
theorem dX7_draws_22 : decode cX7_draws 22 = .ok (.iload_n 3, 1) := by decide +kernel
theorem dX7_draws_23 : decode cX7_draws 23 = .ok (.iaload, 1) := by decide +kernel
theorem dX7_draws_24 : decode cX7_draws 24 = .ok (.iconst (-1), 1) := by decide +kernel
theorem dX7_draws_25 : decode cX7_draws 25 = .ok (.if_icmp .ne 44, 3) := by decide +kernel
theorem dX7_draws_28 : decode cX7_draws 28 = .ok (.iload_n 2, 1) := by decide +kernel
theorem dX7_draws_29 : decode cX7_draws 29 = .ok (.ldc 241, 2) := by decide +kernel
theorem dX7_draws_31 : decode cX7_draws 31 = .ok (.imul, 1) := by decide +kernel
theorem dX7_draws_32 : decode cX7_draws 32 = .ok (.sipush 12345, 3) := by decide +kernel
theorem dX7_draws_35 : decode cX7_draws 35 = .ok (.iadd, 1) := by decide +kernel
theorem dX7_draws_36 : decode cX7_draws 36 = .ok (.istore_n 2, 1) := by decide +kernel
theorem dX7_draws_37 : decode cX7_draws 37 = .ok (.aload_n 0, 1) := by decide +kernel
theorem dX7_draws_38 : decode cX7_draws 38 = .ok (.iload_n 3, 1) := by decide +kernel
theorem dX7_draws_39 : decode cX7_draws 39 = .ok (.aload_n 0, 1) := by decide +kernel
theorem dX7_draws_40 : decode cX7_draws 40 = .ok (.getfield 9, 3) := by decide +kernel
theorem dX7_draws_43 : decode cX7_draws 43 = .ok (.iconst 2, 1) := by decide +kernel
theorem dX7_draws_44 : decode cX7_draws 44 = .ok (.iaload, 1) := by decide +kernel
theorem dX7_draws_45 : decode cX7_draws 45 = .ok (.ifCond .ne 14, 3) := by decide +kernel
theorem dX7_draws_48 : decode cX7_draws 48 = .ok (.iconst 1, 1) := by decide +kernel
theorem dX7_draws_49 : decode cX7_draws 49 = .ok (.iload_n 2, 1) := by decide +kernel
theorem dX7_draws_50 : decode cX7_draws 50 = .ok (.bipush 9, 2) := by decide +kernel
theorem dX7_draws_52 : decode cX7_draws 52 = .ok (.iushr, 1) := by decide +kernel
theorem dX7_draws_53 : decode cX7_draws 53 = .ok (.iconst 2, 1) := by decide +kernel
theorem dX7_draws_54 : decode cX7_draws 54 = .ok (.irem, 1) := by decide +kernel
theorem dX7_draws_55 : decode cX7_draws 55 = .ok (.iadd, 1) := by decide +kernel
theorem dX7_draws_56 : decode cX7_draws 56 = .ok (.goto 9, 3) := by decide +kernel
theorem dX7_draws_59 : decode cX7_draws 59 = .ok (.iload_n 2, 1) := by decide +kernel
theorem dX7_draws_60 : decode cX7_draws 60 = .ok (.bipush 9, 2) := by decide +kernel
theorem dX7_draws_62 : decode cX7_draws 62 = .ok (.iushr, 1) := by decide +kernel
theorem dX7_draws_63 : decode cX7_draws 63 = .ok (.iconst 3, 1) := by decide +kernel
theorem dX7_draws_64 : decode cX7_draws 64 = .ok (.irem, 1) := by decide +kernel
theorem dX7_draws_65 : decode cX7_draws 65 = .ok (.iconst 1, 1) := by decide +kernel
theorem dX7_draws_66 : decode cX7_draws 66 = .ok (.invokevirtual 54, 3) := by decide +kernel
theorem dX7_draws_69 : decode cX7_draws 69 = .ok (.iinc 3 1, 3) := by decide +kernel
theorem dX7_draws_72 : decode cX7_draws 72 = .ok (.goto (-64), 3) := by decide +kernel
theorem dX7_draws_75 : decode cX7_draws 75 = .ok (.return_, 1) := by decide +kernel
def f_X7_draws_65 (k8 : Nat × Int32 × Int32 → Hp → Option (Unit × Hp)) (l0 : Nat) (l2 : Int32) (l3 : Int32) (s0 : Int32) (s1 : Int32) (s2 : Nat) (h0 : Hp) : Option (Unit × Hp) :=
  (f_X7_brings s2 s1 s0 (1 : Int32) h0).bind fun q1 => (some (l3 + 1)).bind fun x2 => k8 (l0, l2, x2) q1.2
set_option maxRecDepth 100000 in
set_option maxHeartbeats 4000000 in
theorem c_X7_draws_65 {X : Cx} {adr : Nat → Nat} {q : Unit × Hp} (hr : (mth X).sig.returnType = none) {k8 : Nat × Int32 × Int32 → Hp → Option (Unit × Hp)} (hk8 : ∀ v h, k8 v h = some q → AW X cX7_draws 4 RX7 (rmd 5 0 0) (Qmet X 0 0 (Qe none q.2 adr)) 0 0 adr h 8 [(0, .ref v.1), (2, .int v.2.1), (3, .int v.2.2)] []) {l0 : Nat} {l2 : Int32} {l3 : Int32} {s0 : Int32} {s1 : Int32} {s2 : Nat} {h0 : Hp} (hf : f_X7_draws_65 k8 l0 l2 l3 s0 s1 s2 h0 = some q) : AW X cX7_draws 4 RX7 (rmd 5 0 0) (Qmet X 0 0 (Qe none q.2 adr)) 0 0 adr h0 65 [(0, .ref l0), (2, .int l2), (3, .int l3)] [.int s0, .int s1, .ref s2] := by
  unfold f_X7_draws_65 at hf
  refine aw_iconst (v := 1) dX7_draws_65 (by decide) ?_
  obtain ⟨q1, eq1, hf⟩ := b_some hf
  refine aw_cV0 (as := [.int s1, .int s0, .int (1 : Int32)]) dX7_draws_66 moX7_brings voX7_brings mlX7_54 (k_X7_brings eq1) rfl (rm_ok (by omega) (by decide)) ⟨Nat.le_refl _, Nat.le_refl _⟩ (Nat.le_of_ble_eq_true rfl) rfl (c_X7_brings eq1) ?_
  obtain ⟨x2, ex2, hf⟩ := b_some hf
  refine aw_iinc (v := x2) (L' := [(3, .int x2), (0, .ref l0), (2, .int l2)]) 2 dX7_draws_69 rfl (Option.some.inj ex2) (by decide) rfl ?_
  refine aw_goto (tgt := 8) dX7_draws_72 (by decide) ?_
  exact aw_sub [1, 2, 0] rfl (hk8 _ _ hf)
def f_X7_draws_8 (k8 : Nat × Int32 × Int32 → Hp → Option (Unit × Hp)) (v : Nat × Int32 × Int32) (h0 : Hp) : Option (Unit × Hp) :=
  match v with
  | (l0, l2, l3) => (gR h0 l0 7 0).bind fun r1 => (aL h0 r1 (1 : Int32)).bind fun x2 => if x2 ≤ l3 then (some ((), h0)) else ((gR h0 l0 7 3).bind fun r4 => (aL h0 r4 l3).bind fun x5 => if x5 = (-1 : Int32) then ((some ((l2 * (1103515245 : Int32)) + (12345 : Int32))).bind fun x8 => (gR h0 l0 7 0).bind fun r9 => (aL h0 r9 (2 : Int32)).bind fun x10 => if x10 = 0 then (f_X7_draws_65 k8 l0 x8 l3 ((1 : Int32) + ((ushr x8 (9 : Int32)) - (ushr x8 (9 : Int32)) / (2 : Int32) * (2 : Int32))) l3 l0 h0) else (f_X7_draws_65 k8 l0 x8 l3 ((ushr x8 (9 : Int32)) - (ushr x8 (9 : Int32)) / (3 : Int32) * (3 : Int32)) l3 l0 h0)) else ((some (l3 + 1)).bind fun x7 => k8 (l0, l2, x7) h0))
set_option maxRecDepth 100000 in
set_option maxHeartbeats 4000000 in
theorem c_X7_draws_8 {X : Cx} {adr : Nat → Nat} {q : Unit × Hp} (hr : (mth X).sig.returnType = none) (n : Nat) : ∀ v h0, lp (f_X7_draws_8) n v h0 = some q → AW X cX7_draws 4 RX7 (rmd 5 0 0) (Qmet X 0 0 (Qe none q.2 adr)) 0 0 adr h0 8 [(0, .ref v.1), (2, .int v.2.1), (3, .int v.2.2)] [] := by
  refine aw_lp (fun k8 hk8 v h0 hf => ?_) n
  obtain ⟨l0, l2, l3⟩ := v
  unfold f_X7_draws_8 at hf
  dsimp only at hf
  show AW X cX7_draws 4 RX7 (rmd 5 0 0) (Qmet X 0 0 (Qe none q.2 adr)) 0 0 adr h0 8 [(0, .ref l0), (2, .int l2), (3, .int l3)] []
  refine aw_iload_n 2 dX7_draws_8 rfl rfl ?_
  refine aw_aload_n 0 dX7_draws_9 rfl rfl ?_
  obtain ⟨r1, er1, hf⟩ := b_some hf
  refine aw_getR dX7_draws_10 gfX7_9 er1 ?_
  refine aw_iconst (v := 1) dX7_draws_13 (by decide) ?_
  obtain ⟨x2, ex2, hf⟩ := b_some hf
  refine aw_iald dX7_draws_14 ex2 ?_
  refine aw_icmp_ge (tgt := 75) dX7_draws_15 (by decide) (fun c3 => ?_) (fun c3 => ?_)
  · have hf := i_pos c3 hf
    have hq := Option.some.inj hf
    subst hq
    exact aw_vret hr dX7_draws_75 ⟨rfl, rfl, rfl⟩
  · have hf := i_neg c3 hf
    refine aw_aload_n 0 dX7_draws_18 rfl rfl ?_
    obtain ⟨r4, er4, hf⟩ := b_some hf
    refine aw_getR dX7_draws_19 gfX7_16 er4 ?_
    refine aw_iload_n 2 dX7_draws_22 rfl rfl ?_
    obtain ⟨x5, ex5, hf⟩ := b_some hf
    refine aw_iald dX7_draws_23 ex5 ?_
    refine aw_iconst (v := -1) dX7_draws_24 (by decide) ?_
    refine aw_icmp_ne (tgt := 69) dX7_draws_25 (by decide) (fun c6 => ?_) (fun c6 => ?_)
    · have hf := i_neg c6 hf
      obtain ⟨x7, ex7, hf⟩ := b_some hf
      refine aw_iinc (v := x7) (L' := [(3, .int x7), (0, .ref l0), (2, .int l2)]) 2 dX7_draws_69 rfl (Option.some.inj ex7) (by decide) rfl ?_
      refine aw_goto (tgt := 8) dX7_draws_72 (by decide) ?_
      exact aw_sub [1, 2, 0] rfl (hk8 _ _ hf)
    · have hf := i_pos c6 hf
      refine aw_iload_n 1 dX7_draws_28 rfl rfl ?_
      refine aw_ldc dX7_draws_29 kcX7_241 ?_
      refine aw_imul dX7_draws_31 ?_
      refine aw_sipush (v := 12345) dX7_draws_32 (by decide) ?_
      refine aw_iadd dX7_draws_35 ?_
      obtain ⟨x8, ex8, hf⟩ := b_some hf
      refine aw_nm ex8 ?_
      refine aw_istore_n (L' := [(2, .int x8), (0, .ref l0), (3, .int l3)]) dX7_draws_36 rfl (by decide) rfl ?_
      refine aw_aload_n 1 dX7_draws_37 rfl rfl ?_
      refine aw_iload_n 2 dX7_draws_38 rfl rfl ?_
      refine aw_aload_n 1 dX7_draws_39 rfl rfl ?_
      obtain ⟨r9, er9, hf⟩ := b_some hf
      refine aw_getR dX7_draws_40 gfX7_9 er9 ?_
      refine aw_iconst (v := 2) dX7_draws_43 (by decide) ?_
      obtain ⟨x10, ex10, hf⟩ := b_some hf
      refine aw_iald dX7_draws_44 ex10 ?_
      refine aw_if_ne (tgt := 59) dX7_draws_45 (by decide) (fun c11 => ?_) (fun c11 => ?_)
      · have hf := i_neg c11 hf
        refine aw_iload_n 0 dX7_draws_59 rfl rfl ?_
        refine aw_bipush (v := 9) dX7_draws_60 (by decide) ?_
        refine aw_iushr dX7_draws_62 ?_
        refine aw_iconst (v := 3) dX7_draws_63 (by decide) ?_
        refine aw_irem dX7_draws_64 (by decide) ?_
        exact aw_sub [1, 0, 2] rfl (c_X7_draws_65 hr hk8 hf)
      · have hf := i_pos c11 hf
        refine aw_iconst (v := 1) dX7_draws_48 (by decide) ?_
        refine aw_iload_n 0 dX7_draws_49 rfl rfl ?_
        refine aw_bipush (v := 9) dX7_draws_50 (by decide) ?_
        refine aw_iushr dX7_draws_52 ?_
        refine aw_iconst (v := 2) dX7_draws_53 (by decide) ?_
        refine aw_irem dX7_draws_54 (by decide) ?_
        refine aw_iadd dX7_draws_55 ?_
        refine aw_goto (tgt := 65) dX7_draws_56 (by decide) ?_
        exact aw_sub [1, 0, 2] rfl (c_X7_draws_65 hr hk8 hf)
def f_X7_draws (l0 : Nat) (l1 : Int32) (h0 : Hp) : Option (Unit × Hp) :=
  (ck h0 l0 7).bind fun _ => (f_X7_looks l0 h0).bind fun q1 => lp (f_X7_draws_8) 600 (l0, l1, (0 : Int32)) q1.2
set_option maxRecDepth 100000 in
set_option maxHeartbeats 4000000 in
theorem c_X7_draws {l0 : Nat} {l1 : Int32} {h0 : Hp} {q : Unit × Hp} (hf : f_X7_draws l0 l1 h0 = some q) : Mt 5 yX7_draws cX7_draws 4 none [.ref l0, .int l1] h0 none q.2 := by
  refine MtQ.of (by decide) (Nat.le_of_ble_eq_true rfl) (fun X adr hr hn => ?_)
  unfold f_X7_draws at hf
  show AW X cX7_draws 4 RX7 (rmd 5 0 0) (Qmet X 0 0 (Qe none q.2 adr)) 0 0 adr h0 0 [(0, .ref l0), (1, .int l1)] []
  obtain ⟨u0, e0, hf⟩ := b_some hf
  refine aw_aload_n 0 dX7_draws_0 rfl rfl ?_
  obtain ⟨q1, eq1, hf⟩ := b_some hf
  refine aw_cV0 (as := []) dX7_draws_1 moX7_looks voX7_looks mlX7_61 (k_X7_looks eq1) rfl (rm_ok (by omega) (by decide)) ⟨Nat.le_refl _, Nat.le_refl _⟩ (Nat.le_of_ble_eq_true rfl) rfl (c_X7_looks eq1) ?_
  refine aw_iload_n 1 dX7_draws_4 rfl rfl ?_
  refine aw_istore_n (L' := [(2, .int l1), (0, .ref l0), (1, .int l1)]) dX7_draws_5 rfl (by decide) rfl ?_
  refine aw_iconst (v := 0) dX7_draws_6 (by decide) ?_
  refine aw_istore_n (L' := [(3, .int (0 : Int32)), (2, .int l1), (0, .ref l0), (1, .int l1)]) dX7_draws_7 rfl (by decide) rfl ?_
  exact aw_sub [2, 1, 0] rfl (c_X7_draws_8 hr 600 _ _ hf)
theorem k_X7_draws {l0 : Nat} {l1 : Int32} {h0 : Hp} {q : Unit × Hp} (hf : f_X7_draws l0 l1 h0 = some q) : ck h0 l0 7 = some () := by
  unfold f_X7_draws at hf
  obtain ⟨u0, e0, hf⟩ := b_some hf
  exact e0
theorem dX7_firstOnes_0 : decode cX7_firstOnes 0 = .ok (.iconst 0, 1) := by decide +kernel
theorem dX7_firstOnes_1 : decode cX7_firstOnes 1 = .ok (.istore_n 1, 1) := by decide +kernel
theorem dX7_firstOnes_2 : decode cX7_firstOnes 2 = .ok (.iconst 0, 1) := by decide +kernel
theorem dX7_firstOnes_3 : decode cX7_firstOnes 3 = .ok (.istore_n 2, 1) := by decide +kernel
theorem dX7_firstOnes_4 : decode cX7_firstOnes 4 = .ok (.iload_n 2, 1) := by decide +kernel
theorem dX7_firstOnes_5 : decode cX7_firstOnes 5 = .ok (.aload_n 0, 1) := by decide +kernel
theorem dX7_firstOnes_6 : decode cX7_firstOnes 6 = .ok (.getfield 9, 3) := by decide +kernel
theorem dX7_firstOnes_9 : decode cX7_firstOnes 9 = .ok (.iconst 0, 1) := by decide +kernel
theorem dX7_firstOnes_10 : decode cX7_firstOnes 10 = .ok (.iaload, 1) := by decide +kernel
theorem dX7_firstOnes_11 : decode cX7_firstOnes 11 = .ok (.if_icmp .ge 71, 3) := by decide +kernel
theorem dX7_firstOnes_14 : decode cX7_firstOnes 14 = .ok (.iconst 1, 1) := by decide +kernel
theorem dX7_firstOnes_15 : decode cX7_firstOnes 15 = .ok (.istore_n 3, 1) := by decide +kernel
theorem dX7_firstOnes_16 : decode cX7_firstOnes 16 = .ok (.iconst 0, 1) := by decide +kernel
theorem dX7_firstOnes_17 : decode cX7_firstOnes 17 = .ok (.istore 4, 2) := by decide +kernel
theorem dX7_firstOnes_19 : decode cX7_firstOnes 19 = .ok (.iload 4, 2) := by decide +kernel
theorem dX7_firstOnes_21 : decode cX7_firstOnes 21 = .ok (.aload_n 0, 1) := by decide +kernel
theorem dX7_firstOnes_22 : decode cX7_firstOnes 22 = .ok (.getfield 9, 3) := by decide +kernel
theorem dX7_firstOnes_25 : decode cX7_firstOnes 25 = .ok (.iconst 0, 1) := by decide +kernel
theorem dX7_firstOnes_26 : decode cX7_firstOnes 26 = .ok (.iaload, 1) := by decide +kernel
theorem dX7_firstOnes_27 : decode cX7_firstOnes 27 = .ok (.if_icmp .ge 35, 3) := by decide +kernel
theorem dX7_firstOnes_30 : decode cX7_firstOnes 30 = .ok (.iload_n 3, 1) := by decide +kernel
theorem dX7_firstOnes_31 : decode cX7_firstOnes 31 = .ok (.ifCond .eq 23, 3) := by decide +kernel
theorem dX7_firstOnes_34 : decode cX7_firstOnes 34 = .ok (.aload_n 0, 1) := by decide +kernel
theorem dX7_firstOnes_35 : decode cX7_firstOnes 35 = .ok (.getfield 19, 3) := by decide +kernel
theorem dX7_firstOnes_38 : decode cX7_firstOnes 38 = .ok (.iload 4, 2) := by decide +kernel
theorem dX7_firstOnes_40 : decode cX7_firstOnes 40 = .ok (.iaload, 1) := by decide +kernel
theorem dX7_firstOnes_41 : decode cX7_firstOnes 41 = .ok (.aload_n 0, 1) := by decide +kernel
theorem dX7_firstOnes_42 : decode cX7_firstOnes 42 = .ok (.getfield 19, 3) := by decide +kernel
theorem dX7_firstOnes_45 : decode cX7_firstOnes 45 = .ok (.iload_n 2, 1) := by decide +kernel
theorem dX7_firstOnes_46 : decode cX7_firstOnes 46 = .ok (.iaload, 1) := by decide +kernel
theorem dX7_firstOnes_47 : decode cX7_firstOnes 47 = .ok (.if_icmp .gt 7, 3) := by decide +kernel
theorem dX7_firstOnes_50 : decode cX7_firstOnes 50 = .ok (.iconst 1, 1) := by decide +kernel
theorem dX7_firstOnes_51 : decode cX7_firstOnes 51 = .ok (.goto 4, 3) := by decide +kernel
theorem dX7_firstOnes_54 : decode cX7_firstOnes 54 = .ok (.iconst 0, 1) := by decide +kernel
theorem dX7_firstOnes_55 : decode cX7_firstOnes 55 = .ok (.istore_n 3, 1) := by decide +kernel
theorem dX7_firstOnes_56 : decode cX7_firstOnes 56 = .ok (.iinc 4 1, 3) := by decide +kernel
theorem dX7_firstOnes_59 : decode cX7_firstOnes 59 = .ok (.goto (-40), 3) := by decide +kernel
theorem dX7_firstOnes_62 : decode cX7_firstOnes 62 = .ok (.iload_n 1, 1) := by decide +kernel
theorem dX7_firstOnes_63 : decode cX7_firstOnes 63 = .ok (.iload_n 3, 1) := by decide +kernel
theorem dX7_firstOnes_64 : decode cX7_firstOnes 64 = .ok (.ifCond .eq 9, 3) := by decide +kernel
theorem dX7_firstOnes_67 : decode cX7_firstOnes 67 = .ok (.iconst 1, 1) := by decide +kernel
theorem dX7_firstOnes_68 : decode cX7_firstOnes 68 = .ok (.iload_n 2, 1) := by decide +kernel
theorem dX7_firstOnes_69 : decode cX7_firstOnes 69 = .ok (.ishl, 1) := by decide +kernel
theorem dX7_firstOnes_70 : decode cX7_firstOnes 70 = .ok (.goto 4, 3) := by decide +kernel
theorem dX7_firstOnes_73 : decode cX7_firstOnes 73 = .ok (.iconst 0, 1) := by decide +kernel
theorem dX7_firstOnes_74 : decode cX7_firstOnes 74 = .ok (.ior, 1) := by decide +kernel
theorem dX7_firstOnes_75 : decode cX7_firstOnes 75 = .ok (.istore_n 1, 1) := by decide +kernel
theorem dX7_firstOnes_76 : decode cX7_firstOnes 76 = .ok (.iinc 2 1, 3) := by decide +kernel
theorem dX7_firstOnes_79 : decode cX7_firstOnes 79 = .ok (.goto (-75), 3) := by decide +kernel
theorem dX7_firstOnes_82 : decode cX7_firstOnes 82 = .ok (.iload_n 1, 1) := by decide +kernel
theorem dX7_firstOnes_83 : decode cX7_firstOnes 83 = .ok (.ireturn, 1) := by decide +kernel
def f_X7_firstOnes_19 (k4 : Nat × Int32 × Int32 → Hp → Option (Int32 × Hp)) (k19 : Nat × Int32 × Int32 × Int32 × Int32 → Hp → Option (Int32 × Hp)) (v : Nat × Int32 × Int32 × Int32 × Int32) (h0 : Hp) : Option (Int32 × Hp) :=
  match v with
  | (l0, l1, l2, l3, l4) => (gR h0 l0 7 0).bind fun r1 => (aL h0 r1 (0 : Int32)).bind fun x2 => if x2 ≤ l4 then (if l3 = 0 then ((some (l1 ||| (0 : Int32))).bind fun x5 => (some (l2 + 1)).bind fun x6 => k4 (l0, x5, x6) h0) else ((some (l1 ||| ((1 : Int32) <<< (l2 &&& 31)))).bind fun x7 => (some (l2 + 1)).bind fun x8 => k4 (l0, x7, x8) h0)) else (if l3 = 0 then ((some (l4 + 1)).bind fun x10 => k19 (l0, l1, l2, (0 : Int32), x10) h0) else ((gR h0 l0 7 4).bind fun r11 => (aL h0 r11 l4).bind fun x12 => (gR h0 l0 7 4).bind fun r13 => (aL h0 r13 l2).bind fun x14 => if x14 < x12 then ((some (l4 + 1)).bind fun x16 => k19 (l0, l1, l2, (0 : Int32), x16) h0) else ((some (l4 + 1)).bind fun x17 => k19 (l0, l1, l2, (1 : Int32), x17) h0)))
set_option maxRecDepth 100000 in
set_option maxHeartbeats 4000000 in
theorem c_X7_firstOnes_19 {X : Cx} {adr : Nat → Nat} {q : Int32 × Hp} (hr : (mth X).sig.returnType = (some .int)) {k4 : Nat × Int32 × Int32 → Hp → Option (Int32 × Hp)} (hk4 : ∀ v h, k4 v h = some q → AW X cX7_firstOnes 5 RX7 (rmd 1 0 0) (Qmet X 0 0 (Qe (some (.int q.1)) q.2 adr)) 0 0 adr h 4 [(0, .ref v.1), (1, .int v.2.1), (2, .int v.2.2)] []) (n : Nat) : ∀ v h0, lp (f_X7_firstOnes_19 k4) n v h0 = some q → AW X cX7_firstOnes 5 RX7 (rmd 1 0 0) (Qmet X 0 0 (Qe (some (.int q.1)) q.2 adr)) 0 0 adr h0 19 [(0, .ref v.1), (1, .int v.2.1), (2, .int v.2.2.1), (3, .int v.2.2.2.1), (4, .int v.2.2.2.2)] [] := by
  refine aw_lp (fun k19 hk19 v h0 hf => ?_) n
  obtain ⟨l0, l1, l2, l3, l4⟩ := v
  unfold f_X7_firstOnes_19 at hf
  dsimp only at hf
  show AW X cX7_firstOnes 5 RX7 (rmd 1 0 0) (Qmet X 0 0 (Qe (some (.int q.1)) q.2 adr)) 0 0 adr h0 19 [(0, .ref l0), (1, .int l1), (2, .int l2), (3, .int l3), (4, .int l4)] []
  refine aw_iload 4 dX7_firstOnes_19 rfl ?_
  refine aw_aload_n 0 dX7_firstOnes_21 rfl rfl ?_
  obtain ⟨r1, er1, hf⟩ := b_some hf
  refine aw_getR dX7_firstOnes_22 gfX7_9 er1 ?_
  refine aw_iconst (v := 0) dX7_firstOnes_25 (by decide) ?_
  obtain ⟨x2, ex2, hf⟩ := b_some hf
  refine aw_iald dX7_firstOnes_26 ex2 ?_
  refine aw_icmp_ge (tgt := 62) dX7_firstOnes_27 (by decide) (fun c3 => ?_) (fun c3 => ?_)
  · have hf := i_pos c3 hf
    refine aw_iload_n 1 dX7_firstOnes_62 rfl rfl ?_
    refine aw_iload_n 3 dX7_firstOnes_63 rfl rfl ?_
    refine aw_if_eq (tgt := 73) dX7_firstOnes_64 (by decide) (fun c4 => ?_) (fun c4 => ?_)
    · have hf := i_pos c4 hf
      refine aw_iconst (v := 0) dX7_firstOnes_73 (by decide) ?_
      refine aw_ior dX7_firstOnes_74 ?_
      obtain ⟨x5, ex5, hf⟩ := b_some hf
      refine aw_nm ex5 ?_
      refine aw_istore_n (L' := [(1, .int x5), (0, .ref l0), (2, .int l2), (3, .int l3), (4, .int l4)]) dX7_firstOnes_75 rfl (by decide) rfl ?_
      obtain ⟨x6, ex6, hf⟩ := b_some hf
      refine aw_iinc (v := x6) (L' := [(2, .int x6), (1, .int x5), (0, .ref l0), (3, .int l3), (4, .int l4)]) 2 dX7_firstOnes_76 rfl (Option.some.inj ex6) (by decide) rfl ?_
      refine aw_goto (tgt := 4) dX7_firstOnes_79 (by decide) ?_
      exact aw_sub [2, 1, 0] rfl (hk4 _ _ hf)
    · have hf := i_neg c4 hf
      refine aw_iconst (v := 1) dX7_firstOnes_67 (by decide) ?_
      refine aw_iload_n 2 dX7_firstOnes_68 rfl rfl ?_
      refine aw_ishl dX7_firstOnes_69 ?_
      refine aw_goto (tgt := 74) dX7_firstOnes_70 (by decide) ?_
      refine aw_ior dX7_firstOnes_74 ?_
      obtain ⟨x7, ex7, hf⟩ := b_some hf
      refine aw_nm ex7 ?_
      refine aw_istore_n (L' := [(1, .int x7), (0, .ref l0), (2, .int l2), (3, .int l3), (4, .int l4)]) dX7_firstOnes_75 rfl (by decide) rfl ?_
      obtain ⟨x8, ex8, hf⟩ := b_some hf
      refine aw_iinc (v := x8) (L' := [(2, .int x8), (1, .int x7), (0, .ref l0), (3, .int l3), (4, .int l4)]) 2 dX7_firstOnes_76 rfl (Option.some.inj ex8) (by decide) rfl ?_
      refine aw_goto (tgt := 4) dX7_firstOnes_79 (by decide) ?_
      exact aw_sub [2, 1, 0] rfl (hk4 _ _ hf)
  · have hf := i_neg c3 hf
    refine aw_iload_n 3 dX7_firstOnes_30 rfl rfl ?_
    refine aw_if_eq (tgt := 54) dX7_firstOnes_31 (by decide) (fun c9 => ?_) (fun c9 => ?_)
    · have hf := i_pos c9 hf
      refine aw_iconst (v := 0) dX7_firstOnes_54 (by decide) ?_
      refine aw_istore_n (L' := [(3, .int (0 : Int32)), (0, .ref l0), (1, .int l1), (2, .int l2), (4, .int l4)]) dX7_firstOnes_55 rfl (by decide) rfl ?_
      obtain ⟨x10, ex10, hf⟩ := b_some hf
      refine aw_iinc (v := x10) (L' := [(4, .int x10), (3, .int (0 : Int32)), (0, .ref l0), (1, .int l1), (2, .int l2)]) 4 dX7_firstOnes_56 rfl (Option.some.inj ex10) (by decide) rfl ?_
      refine aw_goto (tgt := 19) dX7_firstOnes_59 (by decide) ?_
      exact aw_sub [2, 3, 4, 1, 0] rfl (hk19 _ _ hf)
    · have hf := i_neg c9 hf
      refine aw_aload_n 0 dX7_firstOnes_34 rfl rfl ?_
      obtain ⟨r11, er11, hf⟩ := b_some hf
      refine aw_getR dX7_firstOnes_35 gfX7_19 er11 ?_
      refine aw_iload 4 dX7_firstOnes_38 rfl ?_
      obtain ⟨x12, ex12, hf⟩ := b_some hf
      refine aw_iald dX7_firstOnes_40 ex12 ?_
      refine aw_aload_n 0 dX7_firstOnes_41 rfl rfl ?_
      obtain ⟨r13, er13, hf⟩ := b_some hf
      refine aw_getR dX7_firstOnes_42 gfX7_19 er13 ?_
      refine aw_iload_n 2 dX7_firstOnes_45 rfl rfl ?_
      obtain ⟨x14, ex14, hf⟩ := b_some hf
      refine aw_iald dX7_firstOnes_46 ex14 ?_
      refine aw_icmp_gt (tgt := 54) dX7_firstOnes_47 (by decide) (fun c15 => ?_) (fun c15 => ?_)
      · have hf := i_pos c15 hf
        refine aw_iconst (v := 0) dX7_firstOnes_54 (by decide) ?_
        refine aw_istore_n (L' := [(3, .int (0 : Int32)), (0, .ref l0), (1, .int l1), (2, .int l2), (4, .int l4)]) dX7_firstOnes_55 rfl (by decide) rfl ?_
        obtain ⟨x16, ex16, hf⟩ := b_some hf
        refine aw_iinc (v := x16) (L' := [(4, .int x16), (3, .int (0 : Int32)), (0, .ref l0), (1, .int l1), (2, .int l2)]) 4 dX7_firstOnes_56 rfl (Option.some.inj ex16) (by decide) rfl ?_
        refine aw_goto (tgt := 19) dX7_firstOnes_59 (by decide) ?_
        exact aw_sub [2, 3, 4, 1, 0] rfl (hk19 _ _ hf)
      · have hf := i_neg c15 hf
        refine aw_iconst (v := 1) dX7_firstOnes_50 (by decide) ?_
        refine aw_goto (tgt := 55) dX7_firstOnes_51 (by decide) ?_
        refine aw_istore_n (L' := [(3, .int (1 : Int32)), (0, .ref l0), (1, .int l1), (2, .int l2), (4, .int l4)]) dX7_firstOnes_55 rfl (by decide) rfl ?_
        obtain ⟨x17, ex17, hf⟩ := b_some hf
        refine aw_iinc (v := x17) (L' := [(4, .int x17), (3, .int (1 : Int32)), (0, .ref l0), (1, .int l1), (2, .int l2)]) 4 dX7_firstOnes_56 rfl (Option.some.inj ex17) (by decide) rfl ?_
        refine aw_goto (tgt := 19) dX7_firstOnes_59 (by decide) ?_
        exact aw_sub [2, 3, 4, 1, 0] rfl (hk19 _ _ hf)
def f_X7_firstOnes_4 (k4 : Nat × Int32 × Int32 → Hp → Option (Int32 × Hp)) (v : Nat × Int32 × Int32) (h0 : Hp) : Option (Int32 × Hp) :=
  match v with
  | (l0, l1, l2) => (gR h0 l0 7 0).bind fun r1 => (aL h0 r1 (0 : Int32)).bind fun x2 => if x2 ≤ l2 then (some (l1, h0)) else (lp (f_X7_firstOnes_19 k4) 600 (l0, l1, l2, (1 : Int32), (0 : Int32)) h0)
set_option maxRecDepth 100000 in
set_option maxHeartbeats 4000000 in
theorem c_X7_firstOnes_4 {X : Cx} {adr : Nat → Nat} {q : Int32 × Hp} (hr : (mth X).sig.returnType = (some .int)) (n : Nat) : ∀ v h0, lp (f_X7_firstOnes_4) n v h0 = some q → AW X cX7_firstOnes 5 RX7 (rmd 1 0 0) (Qmet X 0 0 (Qe (some (.int q.1)) q.2 adr)) 0 0 adr h0 4 [(0, .ref v.1), (1, .int v.2.1), (2, .int v.2.2)] [] := by
  refine aw_lp (fun k4 hk4 v h0 hf => ?_) n
  obtain ⟨l0, l1, l2⟩ := v
  unfold f_X7_firstOnes_4 at hf
  dsimp only at hf
  show AW X cX7_firstOnes 5 RX7 (rmd 1 0 0) (Qmet X 0 0 (Qe (some (.int q.1)) q.2 adr)) 0 0 adr h0 4 [(0, .ref l0), (1, .int l1), (2, .int l2)] []
  refine aw_iload_n 2 dX7_firstOnes_4 rfl rfl ?_
  refine aw_aload_n 0 dX7_firstOnes_5 rfl rfl ?_
  obtain ⟨r1, er1, hf⟩ := b_some hf
  refine aw_getR dX7_firstOnes_6 gfX7_9 er1 ?_
  refine aw_iconst (v := 0) dX7_firstOnes_9 (by decide) ?_
  obtain ⟨x2, ex2, hf⟩ := b_some hf
  refine aw_iald dX7_firstOnes_10 ex2 ?_
  refine aw_icmp_ge (tgt := 82) dX7_firstOnes_11 (by decide) (fun c3 => ?_) (fun c3 => ?_)
  · have hf := i_pos c3 hf
    refine aw_iload_n 1 dX7_firstOnes_82 rfl rfl ?_
    have hq := Option.some.inj hf
    subst hq
    exact aw_iret hr dX7_firstOnes_83 ⟨rfl, rfl, rfl⟩
  · have hf := i_neg c3 hf
    refine aw_iconst (v := 1) dX7_firstOnes_14 (by decide) ?_
    refine aw_istore_n (L' := [(3, .int (1 : Int32)), (0, .ref l0), (1, .int l1), (2, .int l2)]) dX7_firstOnes_15 rfl (by decide) rfl ?_
    refine aw_iconst (v := 0) dX7_firstOnes_16 (by decide) ?_
    refine aw_istore (L' := [(4, .int (0 : Int32)), (3, .int (1 : Int32)), (0, .ref l0), (1, .int l1), (2, .int l2)]) dX7_firstOnes_17 (by decide) rfl ?_
    exact aw_sub [2, 3, 4, 1, 0] rfl (c_X7_firstOnes_19 hr hk4 600 _ _ hf)
def f_X7_firstOnes (l0 : Nat) (h0 : Hp) : Option (Int32 × Hp) :=
  (ck h0 l0 7).bind fun _ => lp (f_X7_firstOnes_4) 600 (l0, (0 : Int32), (0 : Int32)) h0
set_option maxRecDepth 100000 in
set_option maxHeartbeats 4000000 in
theorem c_X7_firstOnes {l0 : Nat} {h0 : Hp} {q : Int32 × Hp} (hf : f_X7_firstOnes l0 h0 = some q) : Mt 1 yX7_firstOnes cX7_firstOnes 5 (some .int) [.ref l0] h0 (some (.int q.1)) q.2 := by
  refine MtQ.of (by decide) (Nat.le_of_ble_eq_true rfl) (fun X adr hr hn => ?_)
  unfold f_X7_firstOnes at hf
  show AW X cX7_firstOnes 5 RX7 (rmd 1 0 0) (Qmet X 0 0 (Qe (some (.int q.1)) q.2 adr)) 0 0 adr h0 0 [(0, .ref l0)] []
  obtain ⟨u0, e0, hf⟩ := b_some hf
  refine aw_iconst (v := 0) dX7_firstOnes_0 (by decide) ?_
  refine aw_istore_n (L' := [(1, .int (0 : Int32)), (0, .ref l0)]) dX7_firstOnes_1 rfl (by decide) rfl ?_
  refine aw_iconst (v := 0) dX7_firstOnes_2 (by decide) ?_
  refine aw_istore_n (L' := [(2, .int (0 : Int32)), (1, .int (0 : Int32)), (0, .ref l0)]) dX7_firstOnes_3 rfl (by decide) rfl ?_
  exact aw_sub [2, 1, 0] rfl (c_X7_firstOnes_4 hr 600 _ _ hf)
theorem k_X7_firstOnes {l0 : Nat} {h0 : Hp} {q : Int32 × Hp} (hf : f_X7_firstOnes l0 h0 = some q) : ck h0 l0 7 = some () := by
  unfold f_X7_firstOnes at hf
  obtain ⟨u0, e0, hf⟩ := b_some hf
  exact e0
theorem dX7_chance_0 : decode cX7_chance 0 = .ok (.aload_n 0, 1) := by decide +kernel
theorem dX7_chance_1 : decode cX7_chance 1 = .ok (.iload_n 1, 1) := by decide +kernel
theorem dX7_chance_2 : decode cX7_chance 2 = .ok (.invokevirtual 205, 3) := by decide +kernel
theorem dX7_chance_5 : decode cX7_chance 5 = .ok (.ifCond .eq 26, 3) := by decide +kernel
theorem dX7_chance_8 : decode cX7_chance 8 = .ok (.iload_n 3, 1) := by decide +kernel
theorem dX7_chance_9 : decode cX7_chance 9 = .ok (.i2l, 1) := by decide +kernel
theorem dX7_chance_10 : decode cX7_chance 10 = .ok (.lconst 1, 1) := by decide +kernel
theorem dX7_chance_11 : decode cX7_chance 11 = .ok (.ldc2_w 248, 3) := by decide +kernel
theorem dX7_chance_14 : decode cX7_chance 14 = .ok (.invokestatic 43, 3) := by decide +kernel
theorem dX7_chance_17 : decode cX7_chance 17 = .ok (.ifCond .eq 14, 3) := by decide +kernel
theorem dX7_chance_20 : decode cX7_chance 20 = .ok (.iload 4, 2) := by decide +kernel
theorem dX7_chance_22 : decode cX7_chance 22 = .ok (.i2l, 1) := by decide +kernel
theorem dX7_chance_23 : decode cX7_chance 23 = .ok (.lconst 0, 1) := by decide +kernel
theorem dX7_chance_24 : decode cX7_chance 24 = .ok (.lconst 1, 1) := by decide +kernel
theorem dX7_chance_25 : decode cX7_chance 25 = .ok (.invokestatic 43, 3) := by decide +kernel
theorem dX7_chance_28 : decode cX7_chance 28 = .ok (.ifCond .ne 6, 3) := by decide +kernel
theorem dX7_chance_31 : decode cX7_chance 31 = .ok (.bipush (-2), 2) := by decide +kernel
theorem dX7_chance_33 : decode cX7_chance 33 = .ok (.ireturn, 1) := by decide +kernel
theorem dX7_chance_34 : decode cX7_chance 34 = .ok (.iconst 0, 1) := by decide +kernel
theorem dX7_chance_35 : decode cX7_chance 35 = .ok (.istore 5, 2) := by decide +kernel
theorem dX7_chance_37 : decode cX7_chance 37 = .ok (.iconst 0, 1) := by decide +kernel
theorem dX7_chance_38 : decode cX7_chance 38 = .ok (.istore 6, 2) := by decide +kernel
theorem dX7_chance_40 : decode cX7_chance 40 = .ok (.iload 6, 2) := by decide +kernel
theorem dX7_chance_42 : decode cX7_chance 42 = .ok (.iload_n 3, 1) := by decide +kernel
theorem dX7_chance_43 : decode cX7_chance 43 = .ok (.if_icmp .ge 38, 3) := by decide +kernel
theorem dX7_chance_46 : decode cX7_chance 46 = .ok (.aload_n 0, 1) := by decide +kernel
theorem dX7_chance_47 : decode cX7_chance 47 = .ok (.iload_n 2, 1) := by decide +kernel
theorem dX7_chance_48 : decode cX7_chance 48 = .ok (.iload 6, 2) := by decide +kernel
theorem dX7_chance_50 : decode cX7_chance 50 = .ok (.iadd, 1) := by decide +kernel
theorem dX7_chance_51 : decode cX7_chance 51 = .ok (.invokevirtual 242, 3) := by decide +kernel
theorem dX7_chance_54 : decode cX7_chance 54 = .ok (.iload 5, 2) := by decide +kernel
theorem dX7_chance_56 : decode cX7_chance 56 = .ok (.aload_n 0, 1) := by decide +kernel
theorem dX7_chance_57 : decode cX7_chance 57 = .ok (.invokevirtual 245, 3) := by decide +kernel
theorem dX7_chance_60 : decode cX7_chance 60 = .ok (.iload_n 1, 1) := by decide +kernel
theorem dX7_chance_61 : decode cX7_chance 61 = .ok (.invokestatic 92, 3) := by decide +kernel
theorem dX7_chance_64 : decode cX7_chance 64 = .ok (.ifCond .eq 7, 3) := by decide +kernel
theorem dX7_chance_67 : decode cX7_chance 67 = .ok (.iconst 1, 1) := by decide +kernel
theorem dX7_chance_68 : decode cX7_chance 68 = .ok (.goto 4, 3) := by decide +kernel
theorem dX7_chance_71 : decode cX7_chance 71 = .ok (.iconst 0, 1) := by decide +kernel
theorem dX7_chance_72 : decode cX7_chance 72 = .ok (.iadd, 1) := by decide +kernel
theorem dX7_chance_73 : decode cX7_chance 73 = .ok (.istore 5, 2) := by decide +kernel
theorem dX7_chance_75 : decode cX7_chance 75 = .ok (.iinc 6 1, 3) := by decide +kernel
theorem dX7_chance_78 : decode cX7_chance 78 = .ok (.goto (-38), 3) := by decide +kernel
theorem dX7_chance_81 : decode cX7_chance 81 = .ok (.iload 5, 2) := by decide +kernel
theorem dX7_chance_83 : decode cX7_chance 83 = .ok (.istore 6, 2) := by decide +kernel
theorem dX7_chance_85 : decode cX7_chance 85 = .ok (.iload_n 3, 1) := by decide +kernel
theorem dX7_chance_86 : decode cX7_chance 86 = .ok (.istore 7, 2) := by decide +kernel
theorem dX7_chance_88 : decode cX7_chance 88 = .ok (.iload 7, 2) := by decide +kernel
theorem dX7_chance_90 : decode cX7_chance 90 = .ok (.ifCond .eq 21, 3) := by decide +kernel
theorem dX7_chance_93 : decode cX7_chance 93 = .ok (.iload 6, 2) := by decide +kernel
theorem dX7_chance_95 : decode cX7_chance 95 = .ok (.iload 7, 2) := by decide +kernel
theorem dX7_chance_97 : decode cX7_chance 97 = .ok (.irem, 1) := by decide +kernel
theorem dX7_chance_98 : decode cX7_chance 98 = .ok (.istore 8, 2) := by decide +kernel
theorem dX7_chance_100 : decode cX7_chance 100 = .ok (.iload 7, 2) := by decide +kernel
theorem dX7_chance_102 : decode cX7_chance 102 = .ok (.istore 6, 2) := by decide +kernel
theorem dX7_chance_104 : decode cX7_chance 104 = .ok (.iload 8, 2) := by decide +kernel
theorem dX7_chance_106 : decode cX7_chance 106 = .ok (.istore 7, 2) := by decide +kernel
theorem dX7_chance_108 : decode cX7_chance 108 = .ok (.goto (-20), 3) := by decide +kernel
theorem dX7_chance_111 : decode cX7_chance 111 = .ok (.iload 4, 2) := by decide +kernel
theorem dX7_chance_113 : decode cX7_chance 113 = .ok (.ifCond .ne 8, 3) := by decide +kernel
theorem dX7_chance_116 : decode cX7_chance 116 = .ok (.iload 5, 2) := by decide +kernel
theorem dX7_chance_118 : decode cX7_chance 118 = .ok (.goto 4, 3) := by decide +kernel
theorem dX7_chance_121 : decode cX7_chance 121 = .ok (.iload_n 3, 1) := by decide +kernel
theorem dX7_chance_122 : decode cX7_chance 122 = .ok (.iload 6, 2) := by decide +kernel
theorem dX7_chance_124 : decode cX7_chance 124 = .ok (.idiv, 1) := by decide +kernel
theorem dX7_chance_125 : decode cX7_chance 125 = .ok (.ireturn, 1) := by decide +kernel
def f_X7_chance_122 (l6 : Int32) (s0 : Int32) (h0 : Hp) : Option (Int32 × Hp) :=
  if l6 = 0 then none else some ((s0 / l6), h0)
set_option maxRecDepth 100000 in
set_option maxHeartbeats 4000000 in
theorem c_X7_chance_122 {X : Cx} {adr : Nat → Nat} {q : Int32 × Hp} (hr : (mth X).sig.returnType = (some .int)) {l6 : Int32} {s0 : Int32} {h0 : Hp} (hf : f_X7_chance_122 l6 s0 h0 = some q) : AW X cX7_chance 9 RX7 (rmd 6 0 0) (Qmet X 0 0 (Qe (some (.int q.1)) q.2 adr)) 0 0 adr h0 122 [(6, .int l6)] [.int s0] := by
  unfold f_X7_chance_122 at hf
  refine aw_iload 0 dX7_chance_122 rfl ?_
  by_cases z1 : l6 = 0
  · exact absurd (i_pos z1 hf) (by simp)
  have hf := i_neg z1 hf
  refine aw_idiv dX7_chance_124 z1 ?_
  have hq := Option.some.inj hf
  subst hq
  exact aw_iret hr dX7_chance_125 ⟨rfl, rfl, rfl⟩
def f_X7_chance_88 (k88 : Int32 × Int32 × Int32 × Int32 × Int32 → Hp → Option (Int32 × Hp)) (v : Int32 × Int32 × Int32 × Int32 × Int32) (h0 : Hp) : Option (Int32 × Hp) :=
  match v with
  | (l3, l4, l5, l6, l7) => if l7 = 0 then (if l4 = 0 then (f_X7_chance_122 l6 l5 h0) else (f_X7_chance_122 l6 l3 h0)) else (if l7 = 0 then none else (some (l6 - l6 / l7 * l7)).bind fun x4 => k88 (l3, l4, l5, l7, x4) h0)
set_option maxRecDepth 100000 in
set_option maxHeartbeats 4000000 in
theorem c_X7_chance_88 {X : Cx} {adr : Nat → Nat} {q : Int32 × Hp} (hr : (mth X).sig.returnType = (some .int)) (n : Nat) : ∀ v h0, lp (f_X7_chance_88) n v h0 = some q → AW X cX7_chance 9 RX7 (rmd 6 0 0) (Qmet X 0 0 (Qe (some (.int q.1)) q.2 adr)) 0 0 adr h0 88 [(3, .int v.1), (4, .int v.2.1), (5, .int v.2.2.1), (6, .int v.2.2.2.1), (7, .int v.2.2.2.2)] [] := by
  refine aw_lp (fun k88 hk88 v h0 hf => ?_) n
  obtain ⟨l3, l4, l5, l6, l7⟩ := v
  unfold f_X7_chance_88 at hf
  dsimp only at hf
  show AW X cX7_chance 9 RX7 (rmd 6 0 0) (Qmet X 0 0 (Qe (some (.int q.1)) q.2 adr)) 0 0 adr h0 88 [(3, .int l3), (4, .int l4), (5, .int l5), (6, .int l6), (7, .int l7)] []
  refine aw_iload 4 dX7_chance_88 rfl ?_
  refine aw_if_eq (tgt := 111) dX7_chance_90 (by decide) (fun c1 => ?_) (fun c1 => ?_)
  · have hf := i_pos c1 hf
    refine aw_iload 1 dX7_chance_111 rfl ?_
    refine aw_if_ne (tgt := 121) dX7_chance_113 (by decide) (fun c2 => ?_) (fun c2 => ?_)
    · have hf := i_neg c2 hf
      refine aw_iload_n 0 dX7_chance_121 rfl rfl ?_
      exact aw_sub [3] rfl (c_X7_chance_122 hr hf)
    · have hf := i_pos c2 hf
      refine aw_iload 2 dX7_chance_116 rfl ?_
      refine aw_goto (tgt := 122) dX7_chance_118 (by decide) ?_
      exact aw_sub [3] rfl (c_X7_chance_122 hr hf)
  · have hf := i_neg c1 hf
    refine aw_iload 3 dX7_chance_93 rfl ?_
    refine aw_iload 4 dX7_chance_95 rfl ?_
    by_cases z3 : l7 = 0
    · exact absurd (i_pos z3 hf) (by simp)
    have hf := i_neg z3 hf
    refine aw_irem dX7_chance_97 z3 ?_
    obtain ⟨x4, ex4, hf⟩ := b_some hf
    refine aw_nm ex4 ?_
    refine aw_istore (L' := [(8, .int x4), (3, .int l3), (4, .int l4), (5, .int l5), (6, .int l6), (7, .int l7)]) dX7_chance_98 (by decide) rfl ?_
    refine aw_iload 5 dX7_chance_100 rfl ?_
    refine aw_istore (L' := [(6, .int l7), (8, .int x4), (3, .int l3), (4, .int l4), (5, .int l5), (7, .int l7)]) dX7_chance_102 (by decide) rfl ?_
    refine aw_iload 1 dX7_chance_104 rfl ?_
    refine aw_istore (L' := [(7, .int x4), (6, .int l7), (8, .int x4), (3, .int l3), (4, .int l4), (5, .int l5)]) dX7_chance_106 (by decide) rfl ?_
    refine aw_goto (tgt := 88) dX7_chance_108 (by decide) ?_
    exact aw_sub [3, 4, 5, 1, 0] rfl (hk88 _ _ hf)
def f_X7_chance_40 (k40 : Nat × Int32 × Int32 × Int32 × Int32 × Int32 × Int32 → Hp → Option (Int32 × Hp)) (v : Nat × Int32 × Int32 × Int32 × Int32 × Int32 × Int32) (h0 : Hp) : Option (Int32 × Hp) :=
  match v with
  | (l0, l1, l2, l3, l4, l5, l6) => if l3 ≤ l6 then (lp (f_X7_chance_88) 600 (l3, l4, l5, l5, l3) h0) else ((f_X7_draws l0 (l2 + l6) h0).bind fun q2 => (f_X7_firstOnes l0 q2.2).bind fun q3 => (f_X7_has q3.1 l1 q3.2).bind fun q4 => if q4.1 = 0 then ((some (l5 + (0 : Int32))).bind fun x6 => (some (l6 + 1)).bind fun x7 => k40 (l0, l1, l2, l3, l4, x6, x7) q4.2) else ((some (l5 + (1 : Int32))).bind fun x8 => (some (l6 + 1)).bind fun x9 => k40 (l0, l1, l2, l3, l4, x8, x9) q4.2))
set_option maxRecDepth 100000 in
set_option maxHeartbeats 4000000 in
theorem c_X7_chance_40 {X : Cx} {adr : Nat → Nat} {q : Int32 × Hp} (hr : (mth X).sig.returnType = (some .int)) (n : Nat) : ∀ v h0, lp (f_X7_chance_40) n v h0 = some q → AW X cX7_chance 9 RX7 (rmd 6 0 0) (Qmet X 0 0 (Qe (some (.int q.1)) q.2 adr)) 0 0 adr h0 40 [(0, .ref v.1), (1, .int v.2.1), (2, .int v.2.2.1), (3, .int v.2.2.2.1), (4, .int v.2.2.2.2.1), (5, .int v.2.2.2.2.2.1), (6, .int v.2.2.2.2.2.2)] [] := by
  refine aw_lp (fun k40 hk40 v h0 hf => ?_) n
  obtain ⟨l0, l1, l2, l3, l4, l5, l6⟩ := v
  unfold f_X7_chance_40 at hf
  dsimp only at hf
  show AW X cX7_chance 9 RX7 (rmd 6 0 0) (Qmet X 0 0 (Qe (some (.int q.1)) q.2 adr)) 0 0 adr h0 40 [(0, .ref l0), (1, .int l1), (2, .int l2), (3, .int l3), (4, .int l4), (5, .int l5), (6, .int l6)] []
  refine aw_iload 6 dX7_chance_40 rfl ?_
  refine aw_iload_n 3 dX7_chance_42 rfl rfl ?_
  refine aw_icmp_ge (tgt := 81) dX7_chance_43 (by decide) (fun c1 => ?_) (fun c1 => ?_)
  · have hf := i_pos c1 hf
    refine aw_iload 5 dX7_chance_81 rfl ?_
    refine aw_istore (L' := [(6, .int l5), (0, .ref l0), (1, .int l1), (2, .int l2), (3, .int l3), (4, .int l4), (5, .int l5)]) dX7_chance_83 (by decide) rfl ?_
    refine aw_iload_n 4 dX7_chance_85 rfl rfl ?_
    refine aw_istore (L' := [(7, .int l3), (6, .int l5), (0, .ref l0), (1, .int l1), (2, .int l2), (3, .int l3), (4, .int l4), (5, .int l5)]) dX7_chance_86 (by decide) rfl ?_
    exact aw_sub [5, 6, 7, 1, 0] rfl (c_X7_chance_88 hr 600 _ _ hf)
  · have hf := i_neg c1 hf
    refine aw_aload_n 0 dX7_chance_46 rfl rfl ?_
    refine aw_iload_n 2 dX7_chance_47 rfl rfl ?_
    refine aw_iload 6 dX7_chance_48 rfl ?_
    refine aw_iadd dX7_chance_50 ?_
    obtain ⟨q2, eq2, hf⟩ := b_some hf
    refine aw_cV0 (as := [.int (l2 + l6)]) dX7_chance_51 moX7_draws voX7_draws mlX7_242 (k_X7_draws eq2) rfl (rm_ok (by omega) (by decide)) ⟨Nat.le_refl _, Nat.le_refl _⟩ (Nat.le_of_ble_eq_true rfl) rfl (c_X7_draws eq2) ?_
    refine aw_iload 5 dX7_chance_54 rfl ?_
    refine aw_aload_n 0 dX7_chance_56 rfl rfl ?_
    obtain ⟨q3, eq3, hf⟩ := b_some hf
    refine aw_cV (as := []) dX7_chance_57 moX7_firstOnes voX7_firstOnes mlX7_245 (k_X7_firstOnes eq3) rfl (rm_ok (by omega) (by decide)) ⟨Nat.le_refl _, Nat.le_refl _⟩ (Nat.le_of_ble_eq_true rfl) rfl (c_X7_firstOnes eq3) ?_
    refine aw_iload_n 1 dX7_chance_60 rfl rfl ?_
    obtain ⟨q4, eq4, hf⟩ := b_some hf
    refine aw_cS (as := [.int q3.1, .int l1]) dX7_chance_61 moX7_has soX7_has mlX7_92 (rm_ok (by omega) (by decide)) ⟨Nat.le_refl _, Nat.le_refl _⟩ (Nat.le_of_ble_eq_true rfl) rfl (c_X7_has eq4) ?_
    refine aw_if_eq (tgt := 71) dX7_chance_64 (by decide) (fun c5 => ?_) (fun c5 => ?_)
    · have hf := i_pos c5 hf
      refine aw_iconst (v := 0) dX7_chance_71 (by decide) ?_
      refine aw_iadd dX7_chance_72 ?_
      obtain ⟨x6, ex6, hf⟩ := b_some hf
      refine aw_nm ex6 ?_
      refine aw_istore (L' := [(5, .int x6), (0, .ref l0), (1, .int l1), (2, .int l2), (3, .int l3), (4, .int l4), (6, .int l6)]) dX7_chance_73 (by decide) rfl ?_
      obtain ⟨x7, ex7, hf⟩ := b_some hf
      refine aw_iinc (v := x7) (L' := [(6, .int x7), (5, .int x6), (0, .ref l0), (1, .int l1), (2, .int l2), (3, .int l3), (4, .int l4)]) 6 dX7_chance_75 rfl (Option.some.inj ex7) (by decide) rfl ?_
      refine aw_goto (tgt := 40) dX7_chance_78 (by decide) ?_
      exact aw_sub [2, 3, 4, 5, 6, 1, 0] rfl (hk40 _ _ hf)
    · have hf := i_neg c5 hf
      refine aw_iconst (v := 1) dX7_chance_67 (by decide) ?_
      refine aw_goto (tgt := 72) dX7_chance_68 (by decide) ?_
      refine aw_iadd dX7_chance_72 ?_
      obtain ⟨x8, ex8, hf⟩ := b_some hf
      refine aw_nm ex8 ?_
      refine aw_istore (L' := [(5, .int x8), (0, .ref l0), (1, .int l1), (2, .int l2), (3, .int l3), (4, .int l4), (6, .int l6)]) dX7_chance_73 (by decide) rfl ?_
      obtain ⟨x9, ex9, hf⟩ := b_some hf
      refine aw_iinc (v := x9) (L' := [(6, .int x9), (5, .int x8), (0, .ref l0), (1, .int l1), (2, .int l2), (3, .int l3), (4, .int l4)]) 6 dX7_chance_75 rfl (Option.some.inj ex9) (by decide) rfl ?_
      refine aw_goto (tgt := 40) dX7_chance_78 (by decide) ?_
      exact aw_sub [2, 3, 4, 5, 6, 1, 0] rfl (hk40 _ _ hf)
def f_X7_chance (l0 : Nat) (l1 : Int32) (l2 : Int32) (l3 : Int32) (l4 : Int32) (h0 : Hp) : Option (Int32 × Hp) :=
  (ck h0 l0 7).bind fun _ => (f_X7_isTeam l0 l1 h0).bind fun q1 => if q1.1 = 0 then (some ((-2 : Int32), q1.2)) else ((f_X7_in (Int32.toInt64 l3) (1 : Int64) (20 : Int64) q1.2).bind fun q3 => if q3.1 = 0 then (some ((-2 : Int32), q3.2)) else ((f_X7_in (Int32.toInt64 l4) (0 : Int64) (1 : Int64) q3.2).bind fun q5 => if q5.1 = 0 then (some ((-2 : Int32), q5.2)) else (lp (f_X7_chance_40) 600 (l0, l1, l2, l3, l4, (0 : Int32), (0 : Int32)) q5.2)))
set_option maxRecDepth 100000 in
set_option maxHeartbeats 4000000 in
theorem c_X7_chance {l0 : Nat} {l1 : Int32} {l2 : Int32} {l3 : Int32} {l4 : Int32} {h0 : Hp} {q : Int32 × Hp} (hf : f_X7_chance l0 l1 l2 l3 l4 h0 = some q) : Mt 6 yX7_chance cX7_chance 9 (some .int) [.ref l0, .int l1, .int l2, .int l3, .int l4] h0 (some (.int q.1)) q.2 := by
  refine MtQ.of (by decide) (Nat.le_of_ble_eq_true rfl) (fun X adr hr hn => ?_)
  unfold f_X7_chance at hf
  show AW X cX7_chance 9 RX7 (rmd 6 0 0) (Qmet X 0 0 (Qe (some (.int q.1)) q.2 adr)) 0 0 adr h0 0 [(0, .ref l0), (1, .int l1), (2, .int l2), (3, .int l3), (4, .int l4)] []
  obtain ⟨u0, e0, hf⟩ := b_some hf
  refine aw_aload_n 0 dX7_chance_0 rfl rfl ?_
  refine aw_iload_n 1 dX7_chance_1 rfl rfl ?_
  obtain ⟨q1, eq1, hf⟩ := b_some hf
  refine aw_cV (as := [.int l1]) dX7_chance_2 moX7_isTeam voX7_isTeam mlX7_205 (k_X7_isTeam eq1) rfl (rm_ok (by omega) (by decide)) ⟨Nat.le_refl _, Nat.le_refl _⟩ (Nat.le_of_ble_eq_true rfl) rfl (c_X7_isTeam eq1) ?_
  refine aw_if_eq (tgt := 31) dX7_chance_5 (by decide) (fun c2 => ?_) (fun c2 => ?_)
  · have hf := i_pos c2 hf
    refine aw_bipush (v := -2) dX7_chance_31 (by decide) ?_
    have hq := Option.some.inj hf
    subst hq
    exact aw_iret hr dX7_chance_33 ⟨rfl, rfl, rfl⟩
  · have hf := i_neg c2 hf
    refine aw_iload_n 3 dX7_chance_8 rfl rfl ?_
    refine aw_i2l dX7_chance_9 ?_
    refine aw_lconst (v := 1) dX7_chance_10 (by decide) ?_
    refine aw_ldc2 dX7_chance_11 klX7_248 ?_
    obtain ⟨q3, eq3, hf⟩ := b_some hf
    refine aw_cS (as := [.long (Int32.toInt64 l3), .long (1 : Int64), .long (20 : Int64)]) dX7_chance_14 moX7_in soX7_in mlX7_43 (rm_ok (by omega) (by decide)) ⟨Nat.le_refl _, Nat.le_refl _⟩ (Nat.le_of_ble_eq_true rfl) rfl (c_X7_in eq3) ?_
    refine aw_if_eq (tgt := 31) dX7_chance_17 (by decide) (fun c4 => ?_) (fun c4 => ?_)
    · have hf := i_pos c4 hf
      refine aw_bipush (v := -2) dX7_chance_31 (by decide) ?_
      have hq := Option.some.inj hf
      subst hq
      exact aw_iret hr dX7_chance_33 ⟨rfl, rfl, rfl⟩
    · have hf := i_neg c4 hf
      refine aw_iload 4 dX7_chance_20 rfl ?_
      refine aw_i2l dX7_chance_22 ?_
      refine aw_lconst (v := 0) dX7_chance_23 (by decide) ?_
      refine aw_lconst (v := 1) dX7_chance_24 (by decide) ?_
      obtain ⟨q5, eq5, hf⟩ := b_some hf
      refine aw_cS (as := [.long (Int32.toInt64 l4), .long (0 : Int64), .long (1 : Int64)]) dX7_chance_25 moX7_in soX7_in mlX7_43 (rm_ok (by omega) (by decide)) ⟨Nat.le_refl _, Nat.le_refl _⟩ (Nat.le_of_ble_eq_true rfl) rfl (c_X7_in eq5) ?_
      refine aw_if_ne (tgt := 34) dX7_chance_28 (by decide) (fun c6 => ?_) (fun c6 => ?_)
      · have hf := i_neg c6 hf
        refine aw_iconst (v := 0) dX7_chance_34 (by decide) ?_
        refine aw_istore (L' := [(5, .int (0 : Int32)), (0, .ref l0), (1, .int l1), (2, .int l2), (3, .int l3), (4, .int l4)]) dX7_chance_35 (by decide) rfl ?_
        refine aw_iconst (v := 0) dX7_chance_37 (by decide) ?_
        refine aw_istore (L' := [(6, .int (0 : Int32)), (5, .int (0 : Int32)), (0, .ref l0), (1, .int l1), (2, .int l2), (3, .int l3), (4, .int l4)]) dX7_chance_38 (by decide) rfl ?_
        exact aw_sub [2, 3, 4, 5, 6, 1, 0] rfl (c_X7_chance_40 hr 600 _ _ hf)
      · have hf := i_pos c6 hf
        refine aw_bipush (v := -2) dX7_chance_31 (by decide) ?_
        have hq := Option.some.inj hf
        subst hq
        exact aw_iret hr dX7_chance_33 ⟨rfl, rfl, rfl⟩
theorem k_X7_chance {l0 : Nat} {l1 : Int32} {l2 : Int32} {l3 : Int32} {l4 : Int32} {h0 : Hp} {q : Int32 × Hp} (hf : f_X7_chance l0 l1 l2 l3 l4 h0 = some q) : ck h0 l0 7 = some () := by
  unfold f_X7_chance at hf
  obtain ⟨u0, e0, hf⟩ := b_some hf
  exact e0
theorem dX7_comesGame_0 : decode cX7_comesGame 0 = .ok (.aload_n 0, 1) := by decide +kernel
theorem dX7_comesGame_1 : decode cX7_comesGame 1 = .ok (.getfield 9, 3) := by decide +kernel
theorem dX7_comesGame_4 : decode cX7_comesGame 4 = .ok (.iconst 1, 1) := by decide +kernel
theorem dX7_comesGame_5 : decode cX7_comesGame 5 = .ok (.iaload, 1) := by decide +kernel
theorem dX7_comesGame_6 : decode cX7_comesGame 6 = .ok (.istore 4, 2) := by decide +kernel
theorem dX7_comesGame_8 : decode cX7_comesGame 8 = .ok (.iload 4, 2) := by decide +kernel
theorem dX7_comesGame_10 : decode cX7_comesGame 10 = .ok (.bipush 9, 2) := by decide +kernel
theorem dX7_comesGame_12 : decode cX7_comesGame 12 = .ok (.if_icmp .ne 6, 3) := by decide +kernel
theorem dX7_comesGame_15 : decode cX7_comesGame 15 = .ok (.bipush (-4), 2) := by decide +kernel
theorem dX7_comesGame_17 : decode cX7_comesGame 17 = .ok (.ireturn, 1) := by decide +kernel
theorem dX7_comesGame_18 : decode cX7_comesGame 18 = .ok (.aload_n 0, 1) := by decide +kernel
theorem dX7_comesGame_19 : decode cX7_comesGame 19 = .ok (.getfield 9, 3) := by decide +kernel
theorem dX7_comesGame_22 : decode cX7_comesGame 22 = .ok (.bipush 51, 2) := by decide +kernel
theorem dX7_comesGame_24 : decode cX7_comesGame 24 = .ok (.iload 4, 2) := by decide +kernel
theorem dX7_comesGame_26 : decode cX7_comesGame 26 = .ok (.iadd, 1) := by decide +kernel
theorem dX7_comesGame_27 : decode cX7_comesGame 27 = .ok (.iload_n 1, 1) := by decide +kernel
theorem dX7_comesGame_28 : decode cX7_comesGame 28 = .ok (.iastore, 1) := by decide +kernel
theorem dX7_comesGame_29 : decode cX7_comesGame 29 = .ok (.aload_n 0, 1) := by decide +kernel
theorem dX7_comesGame_30 : decode cX7_comesGame 30 = .ok (.getfield 9, 3) := by decide +kernel
theorem dX7_comesGame_33 : decode cX7_comesGame 33 = .ok (.bipush 60, 2) := by decide +kernel
theorem dX7_comesGame_35 : decode cX7_comesGame 35 = .ok (.iload 4, 2) := by decide +kernel
theorem dX7_comesGame_37 : decode cX7_comesGame 37 = .ok (.iadd, 1) := by decide +kernel
theorem dX7_comesGame_38 : decode cX7_comesGame 38 = .ok (.iload_n 2, 1) := by decide +kernel
theorem dX7_comesGame_39 : decode cX7_comesGame 39 = .ok (.iastore, 1) := by decide +kernel
theorem dX7_comesGame_40 : decode cX7_comesGame 40 = .ok (.aload_n 0, 1) := by decide +kernel
theorem dX7_comesGame_41 : decode cX7_comesGame 41 = .ok (.getfield 9, 3) := by decide +kernel
theorem dX7_comesGame_44 : decode cX7_comesGame 44 = .ok (.bipush 69, 2) := by decide +kernel
theorem dX7_comesGame_46 : decode cX7_comesGame 46 = .ok (.iload 4, 2) := by decide +kernel
theorem dX7_comesGame_48 : decode cX7_comesGame 48 = .ok (.iadd, 1) := by decide +kernel
theorem dX7_comesGame_49 : decode cX7_comesGame 49 = .ok (.iload_n 3, 1) := by decide +kernel
theorem dX7_comesGame_50 : decode cX7_comesGame 50 = .ok (.iastore, 1) := by decide +kernel
theorem dX7_comesGame_51 : decode cX7_comesGame 51 = .ok (.aload_n 0, 1) := by decide +kernel
theorem dX7_comesGame_52 : decode cX7_comesGame 52 = .ok (.getfield 9, 3) := by decide +kernel
theorem dX7_comesGame_55 : decode cX7_comesGame 55 = .ok (.bipush 78, 2) := by decide +kernel
theorem dX7_comesGame_57 : decode cX7_comesGame 57 = .ok (.iload 4, 2) := by decide +kernel
theorem dX7_comesGame_59 : decode cX7_comesGame 59 = .ok (.iadd, 1) := by decide +kernel
theorem dX7_comesGame_60 : decode cX7_comesGame 60 = .ok (.iconst (-1), 1) := by decide +kernel
theorem dX7_comesGame_61 : decode cX7_comesGame 61 = .ok (.iastore, 1) := by decide +kernel
theorem dX7_comesGame_62 : decode cX7_comesGame 62 = .ok (.aload_n 0, 1) := by decide +kernel
theorem dX7_comesGame_63 : decode cX7_comesGame 63 = .ok (.getfield 9, 3) := by decide +kernel
theorem dX7_comesGame_66 : decode cX7_comesGame 66 = .ok (.iconst 1, 1) := by decide +kernel
theorem dX7_comesGame_67 : decode cX7_comesGame 67 = .ok (.dup2, 1) := by decide +kernel
theorem dX7_comesGame_68 : decode cX7_comesGame 68 = .ok (.iaload, 1) := by decide +kernel
theorem dX7_comesGame_69 : decode cX7_comesGame 69 = .ok (.iconst 1, 1) := by decide +kernel
theorem dX7_comesGame_70 : decode cX7_comesGame 70 = .ok (.iadd, 1) := by decide +kernel
theorem dX7_comesGame_71 : decode cX7_comesGame 71 = .ok (.iastore, 1) := by decide +kernel
theorem dX7_comesGame_72 : decode cX7_comesGame 72 = .ok (.iload 4, 2) := by decide +kernel
theorem dX7_comesGame_74 : decode cX7_comesGame 74 = .ok (.ireturn, 1) := by decide +kernel
def f_X7_comesGame (l0 : Nat) (l1 : Int32) (l2 : Int32) (l3 : Int32) (h0 : Hp) : Option (Int32 × Hp) :=
  (ck h0 l0 7).bind fun _ => (gR h0 l0 7 0).bind fun r1 => (aL h0 r1 (1 : Int32)).bind fun x2 => if x2 = (9 : Int32) then (some ((-4 : Int32), h0)) else ((gR h0 l0 7 0).bind fun r4 => (aS h0 r4 ((51 : Int32) + x2) l1).bind fun h5 => (gR h5 l0 7 0).bind fun r6 => (aS h5 r6 ((60 : Int32) + x2) l2).bind fun h7 => (gR h7 l0 7 0).bind fun r8 => (aS h7 r8 ((69 : Int32) + x2) l3).bind fun h9 => (gR h9 l0 7 0).bind fun r10 => (aS h9 r10 ((78 : Int32) + x2) (-1 : Int32)).bind fun h11 => (gR h11 l0 7 0).bind fun r12 => (aL h11 r12 (1 : Int32)).bind fun x13 => (aS h11 r12 (1 : Int32) (x13 + (1 : Int32))).bind fun h14 => some (x2, h14))
set_option maxRecDepth 100000 in
set_option maxHeartbeats 4000000 in
theorem c_X7_comesGame {l0 : Nat} {l1 : Int32} {l2 : Int32} {l3 : Int32} {h0 : Hp} {q : Int32 × Hp} (hf : f_X7_comesGame l0 l1 l2 l3 h0 = some q) : Mt 1 yX7_comesGame cX7_comesGame 5 (some .int) [.ref l0, .int l1, .int l2, .int l3] h0 (some (.int q.1)) q.2 := by
  refine MtQ.of (by decide) (Nat.le_of_ble_eq_true rfl) (fun X adr hr hn => ?_)
  unfold f_X7_comesGame at hf
  show AW X cX7_comesGame 5 RX7 (rmd 1 0 0) (Qmet X 0 0 (Qe (some (.int q.1)) q.2 adr)) 0 0 adr h0 0 [(0, .ref l0), (1, .int l1), (2, .int l2), (3, .int l3)] []
  obtain ⟨u0, e0, hf⟩ := b_some hf
  refine aw_aload_n 0 dX7_comesGame_0 rfl rfl ?_
  obtain ⟨r1, er1, hf⟩ := b_some hf
  refine aw_getR dX7_comesGame_1 gfX7_9 er1 ?_
  refine aw_iconst (v := 1) dX7_comesGame_4 (by decide) ?_
  obtain ⟨x2, ex2, hf⟩ := b_some hf
  refine aw_iald dX7_comesGame_5 ex2 ?_
  refine aw_istore (L' := [(4, .int x2), (0, .ref l0), (1, .int l1), (2, .int l2), (3, .int l3)]) dX7_comesGame_6 (by decide) rfl ?_
  refine aw_iload 0 dX7_comesGame_8 rfl ?_
  refine aw_bipush (v := 9) dX7_comesGame_10 (by decide) ?_
  refine aw_icmp_ne (tgt := 18) dX7_comesGame_12 (by decide) (fun c3 => ?_) (fun c3 => ?_)
  · have hf := i_neg c3 hf
    refine aw_aload_n 1 dX7_comesGame_18 rfl rfl ?_
    obtain ⟨r4, er4, hf⟩ := b_some hf
    refine aw_getR dX7_comesGame_19 gfX7_9 er4 ?_
    refine aw_bipush (v := 51) dX7_comesGame_22 (by decide) ?_
    refine aw_iload 0 dX7_comesGame_24 rfl ?_
    refine aw_iadd dX7_comesGame_26 ?_
    refine aw_iload_n 2 dX7_comesGame_27 rfl rfl ?_
    obtain ⟨h5, eh5, hf⟩ := b_some hf
    refine aw_iast dX7_comesGame_28 eh5 ?_
    refine aw_aload_n 1 dX7_comesGame_29 rfl rfl ?_
    obtain ⟨r6, er6, hf⟩ := b_some hf
    refine aw_getR dX7_comesGame_30 gfX7_9 er6 ?_
    refine aw_bipush (v := 60) dX7_comesGame_33 (by decide) ?_
    refine aw_iload 0 dX7_comesGame_35 rfl ?_
    refine aw_iadd dX7_comesGame_37 ?_
    refine aw_iload_n 3 dX7_comesGame_38 rfl rfl ?_
    obtain ⟨h7, eh7, hf⟩ := b_some hf
    refine aw_iast dX7_comesGame_39 eh7 ?_
    refine aw_aload_n 1 dX7_comesGame_40 rfl rfl ?_
    obtain ⟨r8, er8, hf⟩ := b_some hf
    refine aw_getR dX7_comesGame_41 gfX7_9 er8 ?_
    refine aw_bipush (v := 69) dX7_comesGame_44 (by decide) ?_
    refine aw_iload 0 dX7_comesGame_46 rfl ?_
    refine aw_iadd dX7_comesGame_48 ?_
    refine aw_iload_n 4 dX7_comesGame_49 rfl rfl ?_
    obtain ⟨h9, eh9, hf⟩ := b_some hf
    refine aw_iast dX7_comesGame_50 eh9 ?_
    refine aw_aload_n 1 dX7_comesGame_51 rfl rfl ?_
    obtain ⟨r10, er10, hf⟩ := b_some hf
    refine aw_getR dX7_comesGame_52 gfX7_9 er10 ?_
    refine aw_bipush (v := 78) dX7_comesGame_55 (by decide) ?_
    refine aw_iload 0 dX7_comesGame_57 rfl ?_
    refine aw_iadd dX7_comesGame_59 ?_
    refine aw_iconst (v := -1) dX7_comesGame_60 (by decide) ?_
    obtain ⟨h11, eh11, hf⟩ := b_some hf
    refine aw_iast dX7_comesGame_61 eh11 ?_
    refine aw_aload_n 1 dX7_comesGame_62 rfl rfl ?_
    obtain ⟨r12, er12, hf⟩ := b_some hf
    refine aw_getR dX7_comesGame_63 gfX7_9 er12 ?_
    refine aw_iconst (v := 1) dX7_comesGame_66 (by decide) ?_
    refine aw_dup2 dX7_comesGame_67 rfl rfl ?_
    obtain ⟨x13, ex13, hf⟩ := b_some hf
    refine aw_iald dX7_comesGame_68 ex13 ?_
    refine aw_iconst (v := 1) dX7_comesGame_69 (by decide) ?_
    refine aw_iadd dX7_comesGame_70 ?_
    obtain ⟨h14, eh14, hf⟩ := b_some hf
    refine aw_iast dX7_comesGame_71 eh14 ?_
    refine aw_iload 0 dX7_comesGame_72 rfl ?_
    have hq := Option.some.inj hf
    subst hq
    exact aw_iret hr dX7_comesGame_74 ⟨rfl, rfl, rfl⟩
  · have hf := i_pos c3 hf
    refine aw_bipush (v := -4) dX7_comesGame_15 (by decide) ?_
    have hq := Option.some.inj hf
    subst hq
    exact aw_iret hr dX7_comesGame_17 ⟨rfl, rfl, rfl⟩
theorem k_X7_comesGame {l0 : Nat} {l1 : Int32} {l2 : Int32} {l3 : Int32} {h0 : Hp} {q : Int32 × Hp} (hf : f_X7_comesGame l0 l1 l2 l3 h0 = some q) : ck h0 l0 7 = some () := by
  unfold f_X7_comesGame at hf
  obtain ⟨u0, e0, hf⟩ := b_some hf
  exact e0
theorem dX7_faults_0 : decode cX7_faults 0 = .ok (.aload_n 0, 1) := by decide +kernel
theorem dX7_faults_1 : decode cX7_faults 1 = .ok (.getfield 146, 3) := by decide +kernel
theorem dX7_faults_4 : decode cX7_faults 4 = .ok (.istore_n 1, 1) := by decide +kernel
theorem dX7_faults_5 : decode cX7_faults 5 = .ok (.aload_n 0, 1) := by decide +kernel
theorem dX7_faults_6 : decode cX7_faults 6 = .ok (.iconst 0, 1) := by decide +kernel
theorem dX7_faults_7 : decode cX7_faults 7 = .ok (.putfield 129, 3) := by decide +kernel
theorem dX7_faults_10 : decode cX7_faults 10 = .ok (.bipush (-100), 2) := by decide +kernel
theorem dX7_faults_12 : decode cX7_faults 12 = .ok (.iload_n 1, 1) := by decide +kernel
theorem dX7_faults_13 : decode cX7_faults 13 = .ok (.isub, 1) := by decide +kernel
theorem dX7_faults_14 : decode cX7_faults 14 = .ok (.ireturn, 1) := by decide +kernel
def f_X7_faults (l0 : Nat) (h0 : Hp) : Option (Int32 × Hp) :=
  (ck h0 l0 7).bind fun _ => (gI h0 l0 7 13).bind fun x1 => (pI h0 l0 7 11 (0 : Int32)).bind fun h2 => some (((-100 : Int32) - x1), h2)
set_option maxRecDepth 100000 in
set_option maxHeartbeats 4000000 in
theorem c_X7_faults {l0 : Nat} {h0 : Hp} {q : Int32 × Hp} (hf : f_X7_faults l0 h0 = some q) : Mt 1 yX7_faults cX7_faults 2 (some .int) [.ref l0] h0 (some (.int q.1)) q.2 := by
  refine MtQ.of (by decide) (Nat.le_of_ble_eq_true rfl) (fun X adr hr hn => ?_)
  unfold f_X7_faults at hf
  show AW X cX7_faults 2 RX7 (rmd 1 0 0) (Qmet X 0 0 (Qe (some (.int q.1)) q.2 adr)) 0 0 adr h0 0 [(0, .ref l0)] []
  obtain ⟨u0, e0, hf⟩ := b_some hf
  refine aw_aload_n 0 dX7_faults_0 rfl rfl ?_
  obtain ⟨x1, ex1, hf⟩ := b_some hf
  refine aw_getI dX7_faults_1 gfX7_146 ex1 ?_
  refine aw_istore_n (L' := [(1, .int x1), (0, .ref l0)]) dX7_faults_4 rfl (by decide) rfl ?_
  refine aw_aload_n 1 dX7_faults_5 rfl rfl ?_
  refine aw_iconst (v := 0) dX7_faults_6 (by decide) ?_
  obtain ⟨h2, eh2, hf⟩ := b_some hf
  refine aw_putI dX7_faults_7 pfX7_129 eh2 ?_
  refine aw_bipush (v := -100) dX7_faults_10 (by decide) ?_
  refine aw_iload_n 0 dX7_faults_12 rfl rfl ?_
  refine aw_isub dX7_faults_13 ?_
  have hq := Option.some.inj hf
  subst hq
  exact aw_iret hr dX7_faults_14 ⟨rfl, rfl, rfl⟩
theorem k_X7_faults {l0 : Nat} {h0 : Hp} {q : Int32 × Hp} (hf : f_X7_faults l0 h0 = some q) : ck h0 l0 7 = some () := by
  unfold f_X7_faults at hf
  obtain ⟨u0, e0, hf⟩ := b_some hf
  exact e0
theorem dX7_isDigit_0 : decode cX7_isDigit 0 = .ok (.iload_n 0, 1) := by decide +kernel
theorem dX7_isDigit_1 : decode cX7_isDigit 1 = .ok (.i2l, 1) := by decide +kernel
theorem dX7_isDigit_2 : decode cX7_isDigit 2 = .ok (.ldc2_w 136, 3) := by decide +kernel
theorem dX7_isDigit_5 : decode cX7_isDigit 5 = .ok (.ldc2_w 138, 3) := by decide +kernel
theorem dX7_isDigit_8 : decode cX7_isDigit 8 = .ok (.invokestatic 43, 3) := by decide +kernel
theorem dX7_isDigit_11 : decode cX7_isDigit 11 = .ok (.ireturn, 1) := by decide +kernel
def f_X7_isDigit (l0 : Int32) (h0 : Hp) : Option (Int32 × Hp) :=
  (f_X7_in (Int32.toInt64 l0) (48 : Int64) (57 : Int64) h0).bind fun q1 => (bz q1.1).bind fun u2 => some (q1.1, q1.2)
set_option maxRecDepth 100000 in
set_option maxHeartbeats 4000000 in
theorem c_X7_isDigit {l0 : Int32} {h0 : Hp} {q : Int32 × Hp} (hf : f_X7_isDigit l0 h0 = some q) : Mt 2 yX7_isDigit cX7_isDigit 1 (some .boolean) [.int l0] h0 (some (.int q.1)) q.2 := by
  refine MtQ.of (by decide) (Nat.le_of_ble_eq_true rfl) (fun X adr hr hn => ?_)
  unfold f_X7_isDigit at hf
  show AW X cX7_isDigit 1 RX7 (rmd 2 0 0) (Qmet X 0 0 (Qe (some (.int q.1)) q.2 adr)) 0 0 adr h0 0 [(0, .int l0)] []
  refine aw_iload_n 0 dX7_isDigit_0 rfl rfl ?_
  refine aw_i2l dX7_isDigit_1 ?_
  refine aw_ldc2 dX7_isDigit_2 klX7_136 ?_
  refine aw_ldc2 dX7_isDigit_5 klX7_138 ?_
  obtain ⟨q1, eq1, hf⟩ := b_some hf
  refine aw_cS (as := [.long (Int32.toInt64 l0), .long (48 : Int64), .long (57 : Int64)]) dX7_isDigit_8 moX7_in soX7_in mlX7_43 (rm_ok (by omega) (by decide)) ⟨Nat.le_refl _, Nat.le_refl _⟩ (Nat.le_of_ble_eq_true rfl) rfl (c_X7_in eq1) ?_
  obtain ⟨u2, eu2, hf⟩ := b_some hf
  have hq := Option.some.inj hf
  subst hq
  exact aw_zret hr (bz_nar eu2) dX7_isDigit_11 ⟨rfl, rfl, rfl⟩
theorem dX7_isLetter_0 : decode cX7_isLetter 0 = .ok (.iload_n 0, 1) := by decide +kernel
theorem dX7_isLetter_1 : decode cX7_isLetter 1 = .ok (.i2l, 1) := by decide +kernel
theorem dX7_isLetter_2 : decode cX7_isLetter 2 = .ok (.ldc2_w 132, 3) := by decide +kernel
theorem dX7_isLetter_5 : decode cX7_isLetter 5 = .ok (.ldc2_w 134, 3) := by decide +kernel
theorem dX7_isLetter_8 : decode cX7_isLetter 8 = .ok (.invokestatic 43, 3) := by decide +kernel
theorem dX7_isLetter_11 : decode cX7_isLetter 11 = .ok (.ireturn, 1) := by decide +kernel
def f_X7_isLetter (l0 : Int32) (h0 : Hp) : Option (Int32 × Hp) :=
  (f_X7_in (Int32.toInt64 l0) (97 : Int64) (122 : Int64) h0).bind fun q1 => (bz q1.1).bind fun u2 => some (q1.1, q1.2)
set_option maxRecDepth 100000 in
set_option maxHeartbeats 4000000 in
theorem c_X7_isLetter {l0 : Int32} {h0 : Hp} {q : Int32 × Hp} (hf : f_X7_isLetter l0 h0 = some q) : Mt 2 yX7_isLetter cX7_isLetter 1 (some .boolean) [.int l0] h0 (some (.int q.1)) q.2 := by
  refine MtQ.of (by decide) (Nat.le_of_ble_eq_true rfl) (fun X adr hr hn => ?_)
  unfold f_X7_isLetter at hf
  show AW X cX7_isLetter 1 RX7 (rmd 2 0 0) (Qmet X 0 0 (Qe (some (.int q.1)) q.2 adr)) 0 0 adr h0 0 [(0, .int l0)] []
  refine aw_iload_n 0 dX7_isLetter_0 rfl rfl ?_
  refine aw_i2l dX7_isLetter_1 ?_
  refine aw_ldc2 dX7_isLetter_2 klX7_132 ?_
  refine aw_ldc2 dX7_isLetter_5 klX7_134 ?_
  obtain ⟨q1, eq1, hf⟩ := b_some hf
  refine aw_cS (as := [.long (Int32.toInt64 l0), .long (97 : Int64), .long (122 : Int64)]) dX7_isLetter_8 moX7_in soX7_in mlX7_43 (rm_ok (by omega) (by decide)) ⟨Nat.le_refl _, Nat.le_refl _⟩ (Nat.le_of_ble_eq_true rfl) rfl (c_X7_in eq1) ?_
  obtain ⟨u2, eu2, hf⟩ := b_some hf
  have hq := Option.some.inj hf
  subst hq
  exact aw_zret hr (bz_nar eu2) dX7_isLetter_11 ⟨rfl, rfl, rfl⟩
theorem dX7_next_0 : decode cX7_next 0 = .ok (.aload_n 0, 1) := by decide +kernel
theorem dX7_next_1 : decode cX7_next 1 = .ok (.aload_n 0, 1) := by decide +kernel
theorem dX7_next_2 : decode cX7_next 2 = .ok (.getfield 140, 3) := by decide +kernel
theorem dX7_next_5 : decode cX7_next 5 = .ok (.invokevirtual 143, 3) := by decide +kernel
theorem dX7_next_8 : decode cX7_next 8 = .ok (.bipush 32, 2) := by decide +kernel
theorem dX7_next_10 : decode cX7_next 10 = .ok (.if_icmp .eq 16, 3) := by decide +kernel
theorem dX7_next_13 : decode cX7_next 13 = .ok (.aload_n 0, 1) := by decide +kernel
theorem dX7_next_14 : decode cX7_next 14 = .ok (.aload_n 0, 1) := by decide +kernel
theorem dX7_next_15 : decode cX7_next 15 = .ok (.getfield 140, 3) := by decide +kernel
theorem dX7_next_18 : decode cX7_next 18 = .ok (.invokevirtual 143, 3) := by decide +kernel
theorem dX7_next_21 : decode cX7_next 21 = .ok (.bipush 10, 2) := by decide +kernel
theorem dX7_next_23 : decode cX7_next 23 = .ok (.if_icmp .ne 16, 3) := by decide +kernel
theorem dX7_next_26 : decode cX7_next 26 = .ok (.aload_n 0, 1) := by decide +kernel
theorem dX7_next_27 : decode cX7_next 27 = .ok (.dup, 1) := by decide +kernel
theorem dX7_next_28 : decode cX7_next 28 = .ok (.getfield 140, 3) := by decide +kernel
theorem dX7_next_31 : decode cX7_next 31 = .ok (.iconst 1, 1) := by decide +kernel
theorem dX7_next_32 : decode cX7_next 32 = .ok (.iadd, 1) := by decide +kernel
theorem dX7_next_33 : decode cX7_next 33 = .ok (.putfield 140, 3) := by decide +kernel
theorem dX7_next_36 : decode cX7_next 36 = .ok (.goto (-36), 3) := by decide +kernel
theorem dX7_next_39 : decode cX7_next 39 = .ok (.aload_n 0, 1) := by decide +kernel
theorem dX7_next_40 : decode cX7_next 40 = .ok (.aload_n 0, 1) := by decide +kernel
theorem dX7_next_41 : decode cX7_next 41 = .ok (.getfield 140, 3) := by decide +kernel
theorem dX7_next_44 : decode cX7_next 44 = .ok (.putfield 146, 3) := by decide +kernel
theorem dX7_next_47 : decode cX7_next 47 = .ok (.aload_n 0, 1) := by decide +kernel
theorem dX7_next_48 : decode cX7_next 48 = .ok (.aload_n 0, 1) := by decide +kernel
theorem dX7_next_49 : decode cX7_next 49 = .ok (.getfield 140, 3) := by decide +kernel
theorem dX7_next_52 : decode cX7_next 52 = .ok (.putfield 149, 3) := by decide +kernel
theorem dX7_next_55 : decode cX7_next 55 = .ok (.aload_n 0, 1) := by decide +kernel
theorem dX7_next_56 : decode cX7_next 56 = .ok (.aload_n 0, 1) := by decide +kernel
theorem dX7_next_57 : decode cX7_next 57 = .ok (.getfield 140, 3) := by decide +kernel
theorem dX7_next_60 : decode cX7_next 60 = .ok (.invokevirtual 143, 3) := by decide +kernel
theorem dX7_next_63 : decode cX7_next 63 = .ok (.invokestatic 152, 3) := by decide +kernel
theorem dX7_next_66 : decode cX7_next 66 = .ok (.istore_n 1, 1) := by decide +kernel
theorem dX7_next_67 : decode cX7_next 67 = .ok (.iload_n 1, 1) := by decide +kernel
theorem dX7_next_68 : decode cX7_next 68 = .ok (.ifCond .eq 20, 3) := by decide +kernel
theorem dX7_next_71 : decode cX7_next 71 = .ok (.aload_n 0, 1) := by decide +kernel
theorem dX7_next_72 : decode cX7_next 72 = .ok (.aload_n 0, 1) := by decide +kernel
theorem dX7_next_73 : decode cX7_next 73 = .ok (.getfield 149, 3) := by decide +kernel
theorem dX7_next_76 : decode cX7_next 76 = .ok (.invokevirtual 143, 3) := by decide +kernel
theorem dX7_next_79 : decode cX7_next 79 = .ok (.invokestatic 152, 3) := by decide +kernel
theorem dX7_next_82 : decode cX7_next 82 = .ok (.ifCond .eq 33, 3) := by decide +kernel
theorem dX7_next_85 : decode cX7_next 85 = .ok (.goto 17, 3) := by decide +kernel
theorem dX7_next_88 : decode cX7_next 88 = .ok (.aload_n 0, 1) := by decide +kernel
theorem dX7_next_89 : decode cX7_next 89 = .ok (.aload_n 0, 1) := by decide +kernel
theorem dX7_next_90 : decode cX7_next 90 = .ok (.getfield 149, 3) := by decide +kernel
theorem dX7_next_93 : decode cX7_next 93 = .ok (.invokevirtual 143, 3) := by decide +kernel
theorem dX7_next_96 : decode cX7_next 96 = .ok (.invokestatic 155, 3) := by decide +kernel
theorem dX7_next_99 : decode cX7_next 99 = .ok (.ifCond .eq 16, 3) := by decide +kernel
theorem dX7_next_102 : decode cX7_next 102 = .ok (.aload_n 0, 1) := by decide +kernel
theorem dX7_next_103 : decode cX7_next 103 = .ok (.dup, 1) := by decide +kernel
theorem dX7_next_104 : decode cX7_next 104 = .ok (.getfield 149, 3) := by decide +kernel
theorem dX7_next_107 : decode cX7_next 107 = .ok (.iconst 1, 1) := by decide +kernel
theorem dX7_next_108 : decode cX7_next 108 = .ok (.iadd, 1) := by decide +kernel
theorem dX7_next_109 : decode cX7_next 109 = .ok (.putfield 149, 3) := by decide +kernel
theorem dX7_next_112 : decode cX7_next 112 = .ok (.goto (-45), 3) := by decide +kernel
theorem dX7_next_115 : decode cX7_next 115 = .ok (.aload_n 0, 1) := by decide +kernel
theorem dX7_next_116 : decode cX7_next 116 = .ok (.aload_n 0, 1) := by decide +kernel
theorem dX7_next_117 : decode cX7_next 117 = .ok (.getfield 149, 3) := by decide +kernel
theorem dX7_next_120 : decode cX7_next 120 = .ok (.putfield 140, 3) := by decide +kernel
theorem dX7_next_123 : decode cX7_next 123 = .ok (.return_, 1) := by decide +kernel
def f_X7_next_26 (k0 : Nat → Hp → Option (Unit × Hp)) (l0 : Nat) (h0 : Hp) : Option (Unit × Hp) :=
  (gI h0 l0 7 12).bind fun x1 => (pI h0 l0 7 12 (x1 + (1 : Int32))).bind fun h2 => k0 l0 h2
set_option maxRecDepth 100000 in
set_option maxHeartbeats 4000000 in
theorem c_X7_next_26 {X : Cx} {adr : Nat → Nat} {q : Unit × Hp} (hr : (mth X).sig.returnType = none) {k0 : Nat → Hp → Option (Unit × Hp)} (hk0 : ∀ v h, k0 v h = some q → AW X cX7_next 2 RX7 (rmd 3 0 0) (Qmet X 0 0 (Qe none q.2 adr)) 0 0 adr h 0 [(0, .ref v)] []) {l0 : Nat} {h0 : Hp} (hf : f_X7_next_26 k0 l0 h0 = some q) : AW X cX7_next 2 RX7 (rmd 3 0 0) (Qmet X 0 0 (Qe none q.2 adr)) 0 0 adr h0 26 [(0, .ref l0)] [] := by
  unfold f_X7_next_26 at hf
  refine aw_aload_n 0 dX7_next_26 rfl rfl ?_
  refine aw_dup dX7_next_27 rfl ?_
  obtain ⟨x1, ex1, hf⟩ := b_some hf
  refine aw_getI dX7_next_28 gfX7_140 ex1 ?_
  refine aw_iconst (v := 1) dX7_next_31 (by decide) ?_
  refine aw_iadd dX7_next_32 ?_
  obtain ⟨h2, eh2, hf⟩ := b_some hf
  refine aw_putI dX7_next_33 pfX7_140 eh2 ?_
  refine aw_goto (tgt := 0) dX7_next_36 (by decide) ?_
  exact aw_sub [0] rfl (hk0 _ _ hf)
def f_X7_next_102 (k67 : Nat × Int32 → Hp → Option (Unit × Hp)) (l0 : Nat) (l1 : Int32) (h0 : Hp) : Option (Unit × Hp) :=
  (gI h0 l0 7 14).bind fun x1 => (pI h0 l0 7 14 (x1 + (1 : Int32))).bind fun h2 => k67 (l0, l1) h2
set_option maxRecDepth 100000 in
set_option maxHeartbeats 4000000 in
theorem c_X7_next_102 {X : Cx} {adr : Nat → Nat} {q : Unit × Hp} (hr : (mth X).sig.returnType = none) {k67 : Nat × Int32 → Hp → Option (Unit × Hp)} (hk67 : ∀ v h, k67 v h = some q → AW X cX7_next 2 RX7 (rmd 3 0 0) (Qmet X 0 0 (Qe none q.2 adr)) 0 0 adr h 67 [(0, .ref v.1), (1, .int v.2)] []) {l0 : Nat} {l1 : Int32} {h0 : Hp} (hf : f_X7_next_102 k67 l0 l1 h0 = some q) : AW X cX7_next 2 RX7 (rmd 3 0 0) (Qmet X 0 0 (Qe none q.2 adr)) 0 0 adr h0 102 [(0, .ref l0), (1, .int l1)] [] := by
  unfold f_X7_next_102 at hf
  refine aw_aload_n 0 dX7_next_102 rfl rfl ?_
  refine aw_dup dX7_next_103 rfl ?_
  obtain ⟨x1, ex1, hf⟩ := b_some hf
  refine aw_getI dX7_next_104 gfX7_149 ex1 ?_
  refine aw_iconst (v := 1) dX7_next_107 (by decide) ?_
  refine aw_iadd dX7_next_108 ?_
  obtain ⟨h2, eh2, hf⟩ := b_some hf
  refine aw_putI dX7_next_109 pfX7_149 eh2 ?_
  refine aw_goto (tgt := 67) dX7_next_112 (by decide) ?_
  exact aw_sub [0, 1] rfl (hk67 _ _ hf)
def f_X7_next_115 (l0 : Nat) (h0 : Hp) : Option (Unit × Hp) :=
  (gI h0 l0 7 14).bind fun x1 => (pI h0 l0 7 12 x1).bind fun h2 => some ((), h2)
set_option maxRecDepth 100000 in
set_option maxHeartbeats 4000000 in
theorem c_X7_next_115 {X : Cx} {adr : Nat → Nat} {q : Unit × Hp} (hr : (mth X).sig.returnType = none) {l0 : Nat} {h0 : Hp} (hf : f_X7_next_115 l0 h0 = some q) : AW X cX7_next 2 RX7 (rmd 3 0 0) (Qmet X 0 0 (Qe none q.2 adr)) 0 0 adr h0 115 [(0, .ref l0)] [] := by
  unfold f_X7_next_115 at hf
  refine aw_aload_n 0 dX7_next_115 rfl rfl ?_
  refine aw_aload_n 0 dX7_next_116 rfl rfl ?_
  obtain ⟨x1, ex1, hf⟩ := b_some hf
  refine aw_getI dX7_next_117 gfX7_149 ex1 ?_
  obtain ⟨h2, eh2, hf⟩ := b_some hf
  refine aw_putI dX7_next_120 pfX7_140 eh2 ?_
  have hq := Option.some.inj hf
  subst hq
  exact aw_vret hr dX7_next_123 ⟨rfl, rfl, rfl⟩
def f_X7_next_67 (k67 : Nat × Int32 → Hp → Option (Unit × Hp)) (v : Nat × Int32) (h0 : Hp) : Option (Unit × Hp) :=
  match v with
  | (l0, l1) => if l1 = 0 then ((gI h0 l0 7 14).bind fun x2 => (f_X7_byteAt l0 x2 h0).bind fun q3 => (f_X7_isDigit q3.1 q3.2).bind fun q4 => if q4.1 = 0 then (f_X7_next_115 l0 q4.2) else (f_X7_next_102 k67 l0 l1 q4.2)) else ((gI h0 l0 7 14).bind fun x6 => (f_X7_byteAt l0 x6 h0).bind fun q7 => (f_X7_isLetter q7.1 q7.2).bind fun q8 => if q8.1 = 0 then (f_X7_next_115 l0 q8.2) else (f_X7_next_102 k67 l0 l1 q8.2))
set_option maxRecDepth 100000 in
set_option maxHeartbeats 4000000 in
theorem c_X7_next_67 {X : Cx} {adr : Nat → Nat} {q : Unit × Hp} (hr : (mth X).sig.returnType = none) (n : Nat) : ∀ v h0, lp (f_X7_next_67) n v h0 = some q → AW X cX7_next 2 RX7 (rmd 3 0 0) (Qmet X 0 0 (Qe none q.2 adr)) 0 0 adr h0 67 [(0, .ref v.1), (1, .int v.2)] [] := by
  refine aw_lp (fun k67 hk67 v h0 hf => ?_) n
  obtain ⟨l0, l1⟩ := v
  unfold f_X7_next_67 at hf
  dsimp only at hf
  show AW X cX7_next 2 RX7 (rmd 3 0 0) (Qmet X 0 0 (Qe none q.2 adr)) 0 0 adr h0 67 [(0, .ref l0), (1, .int l1)] []
  refine aw_iload_n 1 dX7_next_67 rfl rfl ?_
  refine aw_if_eq (tgt := 88) dX7_next_68 (by decide) (fun c1 => ?_) (fun c1 => ?_)
  · have hf := i_pos c1 hf
    refine aw_aload_n 0 dX7_next_88 rfl rfl ?_
    refine aw_aload_n 0 dX7_next_89 rfl rfl ?_
    obtain ⟨x2, ex2, hf⟩ := b_some hf
    refine aw_getI dX7_next_90 gfX7_149 ex2 ?_
    obtain ⟨q3, eq3, hf⟩ := b_some hf
    refine aw_cV (as := [.int x2]) dX7_next_93 moX7_byteAt voX7_byteAt mlX7_143 (k_X7_byteAt eq3) rfl (rm_ok (by omega) (by decide)) ⟨Nat.le_refl _, Nat.le_refl _⟩ (Nat.le_of_ble_eq_true rfl) rfl (c_X7_byteAt eq3) ?_
    obtain ⟨q4, eq4, hf⟩ := b_some hf
    refine aw_cS (as := [.int q3.1]) dX7_next_96 moX7_isDigit soX7_isDigit mlX7_155 (rm_ok (by omega) (by decide)) ⟨Nat.le_refl _, Nat.le_refl _⟩ (Nat.le_of_ble_eq_true rfl) rfl (c_X7_isDigit eq4) ?_
    refine aw_if_eq (tgt := 115) dX7_next_99 (by decide) (fun c5 => ?_) (fun c5 => ?_)
    · have hf := i_pos c5 hf
      exact aw_sub [0] rfl (c_X7_next_115 hr hf)
    · have hf := i_neg c5 hf
      exact aw_sub [0, 1] rfl (c_X7_next_102 hr hk67 hf)
  · have hf := i_neg c1 hf
    refine aw_aload_n 0 dX7_next_71 rfl rfl ?_
    refine aw_aload_n 0 dX7_next_72 rfl rfl ?_
    obtain ⟨x6, ex6, hf⟩ := b_some hf
    refine aw_getI dX7_next_73 gfX7_149 ex6 ?_
    obtain ⟨q7, eq7, hf⟩ := b_some hf
    refine aw_cV (as := [.int x6]) dX7_next_76 moX7_byteAt voX7_byteAt mlX7_143 (k_X7_byteAt eq7) rfl (rm_ok (by omega) (by decide)) ⟨Nat.le_refl _, Nat.le_refl _⟩ (Nat.le_of_ble_eq_true rfl) rfl (c_X7_byteAt eq7) ?_
    obtain ⟨q8, eq8, hf⟩ := b_some hf
    refine aw_cS (as := [.int q7.1]) dX7_next_79 moX7_isLetter soX7_isLetter mlX7_152 (rm_ok (by omega) (by decide)) ⟨Nat.le_refl _, Nat.le_refl _⟩ (Nat.le_of_ble_eq_true rfl) rfl (c_X7_isLetter eq8) ?_
    refine aw_if_eq (tgt := 115) dX7_next_82 (by decide) (fun c9 => ?_) (fun c9 => ?_)
    · have hf := i_pos c9 hf
      exact aw_sub [0] rfl (c_X7_next_115 hr hf)
    · have hf := i_neg c9 hf
      refine aw_goto (tgt := 102) dX7_next_85 (by decide) ?_
      exact aw_sub [0, 1] rfl (c_X7_next_102 hr hk67 hf)
def f_X7_next_0 (k0 : Nat → Hp → Option (Unit × Hp)) (v : Nat) (h0 : Hp) : Option (Unit × Hp) :=
  match v with
  | l0 => (gI h0 l0 7 12).bind fun x1 => (f_X7_byteAt l0 x1 h0).bind fun q2 => if q2.1 = (32 : Int32) then (f_X7_next_26 k0 l0 q2.2) else ((gI q2.2 l0 7 12).bind fun x4 => (f_X7_byteAt l0 x4 q2.2).bind fun q5 => if q5.1 = (10 : Int32) then (f_X7_next_26 k0 l0 q5.2) else ((gI q5.2 l0 7 12).bind fun x7 => (pI q5.2 l0 7 13 x7).bind fun h8 => (gI h8 l0 7 12).bind fun x9 => (pI h8 l0 7 14 x9).bind fun h10 => (gI h10 l0 7 12).bind fun x11 => (f_X7_byteAt l0 x11 h10).bind fun q12 => (f_X7_isLetter q12.1 q12.2).bind fun q13 => lp (f_X7_next_67) 600 (l0, q13.1) q13.2))
set_option maxRecDepth 100000 in
set_option maxHeartbeats 4000000 in
theorem c_X7_next_0 {X : Cx} {adr : Nat → Nat} {q : Unit × Hp} (hr : (mth X).sig.returnType = none) (n : Nat) : ∀ v h0, lp (f_X7_next_0) n v h0 = some q → AW X cX7_next 2 RX7 (rmd 3 0 0) (Qmet X 0 0 (Qe none q.2 adr)) 0 0 adr h0 0 [(0, .ref v)] [] := by
  refine aw_lp (fun k0 hk0 v h0 hf => ?_) n
  have ⟨l0, hv⟩ : ∃ z, z = v := ⟨_, rfl⟩
  subst hv
  unfold f_X7_next_0 at hf
  dsimp only at hf
  show AW X cX7_next 2 RX7 (rmd 3 0 0) (Qmet X 0 0 (Qe none q.2 adr)) 0 0 adr h0 0 [(0, .ref l0)] []
  refine aw_aload_n 0 dX7_next_0 rfl rfl ?_
  refine aw_aload_n 0 dX7_next_1 rfl rfl ?_
  obtain ⟨x1, ex1, hf⟩ := b_some hf
  refine aw_getI dX7_next_2 gfX7_140 ex1 ?_
  obtain ⟨q2, eq2, hf⟩ := b_some hf
  refine aw_cV (as := [.int x1]) dX7_next_5 moX7_byteAt voX7_byteAt mlX7_143 (k_X7_byteAt eq2) rfl (rm_ok (by omega) (by decide)) ⟨Nat.le_refl _, Nat.le_refl _⟩ (Nat.le_of_ble_eq_true rfl) rfl (c_X7_byteAt eq2) ?_
  refine aw_bipush (v := 32) dX7_next_8 (by decide) ?_
  refine aw_icmp_eq (tgt := 26) dX7_next_10 (by decide) (fun c3 => ?_) (fun c3 => ?_)
  · have hf := i_pos c3 hf
    exact aw_sub [0] rfl (c_X7_next_26 hr hk0 hf)
  · have hf := i_neg c3 hf
    refine aw_aload_n 0 dX7_next_13 rfl rfl ?_
    refine aw_aload_n 0 dX7_next_14 rfl rfl ?_
    obtain ⟨x4, ex4, hf⟩ := b_some hf
    refine aw_getI dX7_next_15 gfX7_140 ex4 ?_
    obtain ⟨q5, eq5, hf⟩ := b_some hf
    refine aw_cV (as := [.int x4]) dX7_next_18 moX7_byteAt voX7_byteAt mlX7_143 (k_X7_byteAt eq5) rfl (rm_ok (by omega) (by decide)) ⟨Nat.le_refl _, Nat.le_refl _⟩ (Nat.le_of_ble_eq_true rfl) rfl (c_X7_byteAt eq5) ?_
    refine aw_bipush (v := 10) dX7_next_21 (by decide) ?_
    refine aw_icmp_ne (tgt := 39) dX7_next_23 (by decide) (fun c6 => ?_) (fun c6 => ?_)
    · have hf := i_neg c6 hf
      refine aw_aload_n 0 dX7_next_39 rfl rfl ?_
      refine aw_aload_n 0 dX7_next_40 rfl rfl ?_
      obtain ⟨x7, ex7, hf⟩ := b_some hf
      refine aw_getI dX7_next_41 gfX7_140 ex7 ?_
      obtain ⟨h8, eh8, hf⟩ := b_some hf
      refine aw_putI dX7_next_44 pfX7_146 eh8 ?_
      refine aw_aload_n 0 dX7_next_47 rfl rfl ?_
      refine aw_aload_n 0 dX7_next_48 rfl rfl ?_
      obtain ⟨x9, ex9, hf⟩ := b_some hf
      refine aw_getI dX7_next_49 gfX7_140 ex9 ?_
      obtain ⟨h10, eh10, hf⟩ := b_some hf
      refine aw_putI dX7_next_52 pfX7_149 eh10 ?_
      refine aw_aload_n 0 dX7_next_55 rfl rfl ?_
      refine aw_aload_n 0 dX7_next_56 rfl rfl ?_
      obtain ⟨x11, ex11, hf⟩ := b_some hf
      refine aw_getI dX7_next_57 gfX7_140 ex11 ?_
      obtain ⟨q12, eq12, hf⟩ := b_some hf
      refine aw_cV (as := [.int x11]) dX7_next_60 moX7_byteAt voX7_byteAt mlX7_143 (k_X7_byteAt eq12) rfl (rm_ok (by omega) (by decide)) ⟨Nat.le_refl _, Nat.le_refl _⟩ (Nat.le_of_ble_eq_true rfl) rfl (c_X7_byteAt eq12) ?_
      obtain ⟨q13, eq13, hf⟩ := b_some hf
      refine aw_cS (as := [.int q12.1]) dX7_next_63 moX7_isLetter soX7_isLetter mlX7_152 (rm_ok (by omega) (by decide)) ⟨Nat.le_refl _, Nat.le_refl _⟩ (Nat.le_of_ble_eq_true rfl) rfl (c_X7_isLetter eq13) ?_
      refine aw_istore_n (L' := [(1, .int q13.1), (0, .ref l0)]) dX7_next_66 rfl (by decide) rfl ?_
      exact aw_sub [1, 0] rfl (c_X7_next_67 hr 600 _ _ hf)
    · have hf := i_pos c6 hf
      exact aw_sub [0] rfl (c_X7_next_26 hr hk0 hf)
def f_X7_next (l0 : Nat) (h0 : Hp) : Option (Unit × Hp) :=
  (ck h0 l0 7).bind fun _ => lp (f_X7_next_0) 600 l0 h0
set_option maxRecDepth 100000 in
set_option maxHeartbeats 4000000 in
theorem c_X7_next {l0 : Nat} {h0 : Hp} {q : Unit × Hp} (hf : f_X7_next l0 h0 = some q) : Mt 3 yX7_next cX7_next 2 none [.ref l0] h0 none q.2 := by
  refine MtQ.of (by decide) (Nat.le_of_ble_eq_true rfl) (fun X adr hr hn => ?_)
  unfold f_X7_next at hf
  show AW X cX7_next 2 RX7 (rmd 3 0 0) (Qmet X 0 0 (Qe none q.2 adr)) 0 0 adr h0 0 [(0, .ref l0)] []
  obtain ⟨u0, e0, hf⟩ := b_some hf
  exact aw_sub [0] rfl (c_X7_next_0 hr 600 _ _ hf)
theorem k_X7_next {l0 : Nat} {h0 : Hp} {q : Unit × Hp} (hf : f_X7_next l0 h0 = some q) : ck h0 l0 7 = some () := by
  unfold f_X7_next at hf
  obtain ⟨u0, e0, hf⟩ := b_some hf
  exact e0
theorem dX7_isOver_0 : decode cX7_isOver 0 = .ok (.aload_n 0, 1) := by decide +kernel
theorem dX7_isOver_1 : decode cX7_isOver 1 = .ok (.invokevirtual 164, 3) := by decide +kernel
theorem dX7_isOver_4 : decode cX7_isOver 4 = .ok (.aload_n 0, 1) := by decide +kernel
theorem dX7_isOver_5 : decode cX7_isOver 5 = .ok (.getfield 146, 3) := by decide +kernel
theorem dX7_isOver_8 : decode cX7_isOver 8 = .ok (.aload_n 0, 1) := by decide +kernel
theorem dX7_isOver_9 : decode cX7_isOver 9 = .ok (.getfield 129, 3) := by decide +kernel
theorem dX7_isOver_12 : decode cX7_isOver 12 = .ok (.if_icmp .ne 7, 3) := by decide +kernel
theorem dX7_isOver_15 : decode cX7_isOver 15 = .ok (.iconst 1, 1) := by decide +kernel
theorem dX7_isOver_16 : decode cX7_isOver 16 = .ok (.goto 4, 3) := by decide +kernel
theorem dX7_isOver_19 : decode cX7_isOver 19 = .ok (.iconst 0, 1) := by decide +kernel
theorem dX7_isOver_20 : decode cX7_isOver 20 = .ok (.ireturn, 1) := by decide +kernel
def f_X7_isOver (l0 : Nat) (h0 : Hp) : Option (Int32 × Hp) :=
  (ck h0 l0 7).bind fun _ => (f_X7_next l0 h0).bind fun q1 => (gI q1.2 l0 7 13).bind fun x2 => (gI q1.2 l0 7 11).bind fun x3 => if x2 = x3 then (some ((1 : Int32), q1.2)) else (some ((0 : Int32), q1.2))
set_option maxRecDepth 100000 in
set_option maxHeartbeats 4000000 in
theorem c_X7_isOver {l0 : Nat} {h0 : Hp} {q : Int32 × Hp} (hf : f_X7_isOver l0 h0 = some q) : Mt 4 yX7_isOver cX7_isOver 1 (some .boolean) [.ref l0] h0 (some (.int q.1)) q.2 := by
  refine MtQ.of (by decide) (Nat.le_of_ble_eq_true rfl) (fun X adr hr hn => ?_)
  unfold f_X7_isOver at hf
  show AW X cX7_isOver 1 RX7 (rmd 4 0 0) (Qmet X 0 0 (Qe (some (.int q.1)) q.2 adr)) 0 0 adr h0 0 [(0, .ref l0)] []
  obtain ⟨u0, e0, hf⟩ := b_some hf
  refine aw_aload_n 0 dX7_isOver_0 rfl rfl ?_
  obtain ⟨q1, eq1, hf⟩ := b_some hf
  refine aw_cV0 (as := []) dX7_isOver_1 moX7_next voX7_next mlX7_164 (k_X7_next eq1) rfl (rm_ok (by omega) (by decide)) ⟨Nat.le_refl _, Nat.le_refl _⟩ (Nat.le_of_ble_eq_true rfl) rfl (c_X7_next eq1) ?_
  refine aw_aload_n 0 dX7_isOver_4 rfl rfl ?_
  obtain ⟨x2, ex2, hf⟩ := b_some hf
  refine aw_getI dX7_isOver_5 gfX7_146 ex2 ?_
  refine aw_aload_n 0 dX7_isOver_8 rfl rfl ?_
  obtain ⟨x3, ex3, hf⟩ := b_some hf
  refine aw_getI dX7_isOver_9 gfX7_129 ex3 ?_
  refine aw_icmp_ne (tgt := 19) dX7_isOver_12 (by decide) (fun c4 => ?_) (fun c4 => ?_)
  · have hf := i_neg c4 hf
    refine aw_iconst (v := 0) dX7_isOver_19 (by decide) ?_
    have hq := Option.some.inj hf
    subst hq
    exact aw_zret hr (by decide) dX7_isOver_20 ⟨rfl, rfl, rfl⟩
  · have hf := i_pos c4 hf
    refine aw_iconst (v := 1) dX7_isOver_15 (by decide) ?_
    refine aw_goto (tgt := 20) dX7_isOver_16 (by decide) ?_
    have hq := Option.some.inj hf
    subst hq
    exact aw_zret hr (by decide) dX7_isOver_20 ⟨rfl, rfl, rfl⟩
theorem k_X7_isOver {l0 : Nat} {h0 : Hp} {q : Int32 × Hp} (hf : f_X7_isOver l0 h0 = some q) : ck h0 l0 7 = some () := by
  unfold f_X7_isOver at hf
  obtain ⟨u0, e0, hf⟩ := b_some hf
  exact e0
