theorem dX0_hasTeam_0 : decode cX0_hasTeam 0 = .ok (.iload_n 1, 1) := by decide +kernel
theorem dX0_hasTeam_1 : decode cX0_hasTeam 1 = .ok (.ifCond .lt 15, 3) := by decide +kernel
theorem dX0_hasTeam_4 : decode cX0_hasTeam 4 = .ok (.iload_n 1, 1) := by decide +kernel
theorem dX0_hasTeam_5 : decode cX0_hasTeam 5 = .ok (.aload_n 0, 1) := by decide +kernel
theorem dX0_hasTeam_6 : decode cX0_hasTeam 6 = .ok (.getfield 33, 3) := by decide +kernel
theorem dX0_hasTeam_9 : decode cX0_hasTeam 9 = .ok (.if_icmp .ge 7, 3) := by decide +kernel
theorem dX0_hasTeam_12 : decode cX0_hasTeam 12 = .ok (.iconst 1, 1) := by decide +kernel
theorem dX0_hasTeam_13 : decode cX0_hasTeam 13 = .ok (.goto 4, 3) := by decide +kernel
theorem dX0_hasTeam_16 : decode cX0_hasTeam 16 = .ok (.iconst 0, 1) := by decide +kernel
theorem dX0_hasTeam_17 : decode cX0_hasTeam 17 = .ok (.ireturn, 1) := by decide +kernel
def f_X0_hasTeam (l0 : Nat) (l1 : Int32) (h0 : Hp) : Option (Int32 × Hp) :=
  (ck h0 l0 0).bind fun _ => if l1 < 0 then (some ((0 : Int32), h0)) else ((gI h0 l0 0 0).bind fun x2 => if x2 ≤ l1 then (some ((0 : Int32), h0)) else (some ((1 : Int32), h0)))
set_option maxRecDepth 100000 in
set_option maxHeartbeats 4000000 in
theorem c_X0_hasTeam {l0 : Nat} {l1 : Int32} {h0 : Hp} {q : Int32 × Hp} (hf : f_X0_hasTeam l0 l1 h0 = some q) : Mt 1 yX0_hasTeam cX0_hasTeam 2 (some .boolean) [.ref l0, .int l1] h0 (some (.int q.1)) q.2 := by
  refine MtQ.of (by decide) (Nat.le_of_ble_eq_true rfl) (fun X adr hr hn => ?_)
  unfold f_X0_hasTeam at hf
  show AW X cX0_hasTeam 2 RX0 (rmd 1 0 0) (Qmet X 0 0 (Qe (some (.int q.1)) q.2 adr)) 0 0 adr h0 0 [(0, .ref l0), (1, .int l1)] []
  obtain ⟨u0, e0, hf⟩ := b_some hf
  refine aw_iload_n 1 dX0_hasTeam_0 rfl rfl ?_
  refine aw_if_lt (tgt := 16) dX0_hasTeam_1 (by decide) (fun c1 => ?_) (fun c1 => ?_)
  · have hf := i_pos c1 hf
    refine aw_iconst (v := 0) dX0_hasTeam_16 (by decide) ?_
    have hq := Option.some.inj hf
    subst hq
    exact aw_zret hr (by decide) dX0_hasTeam_17 ⟨rfl, rfl, rfl⟩
  · have hf := i_neg c1 hf
    refine aw_iload_n 1 dX0_hasTeam_4 rfl rfl ?_
    refine aw_aload_n 0 dX0_hasTeam_5 rfl rfl ?_
    obtain ⟨x2, ex2, hf⟩ := b_some hf
    refine aw_getI dX0_hasTeam_6 gfX0_33 ex2 ?_
    refine aw_icmp_ge (tgt := 16) dX0_hasTeam_9 (by decide) (fun c3 => ?_) (fun c3 => ?_)
    · have hf := i_pos c3 hf
      refine aw_iconst (v := 0) dX0_hasTeam_16 (by decide) ?_
      have hq := Option.some.inj hf
      subst hq
      exact aw_zret hr (by decide) dX0_hasTeam_17 ⟨rfl, rfl, rfl⟩
    · have hf := i_neg c3 hf
      refine aw_iconst (v := 1) dX0_hasTeam_12 (by decide) ?_
      refine aw_goto (tgt := 17) dX0_hasTeam_13 (by decide) ?_
      have hq := Option.some.inj hf
      subst hq
      exact aw_zret hr (by decide) dX0_hasTeam_17 ⟨rfl, rfl, rfl⟩
theorem k_X0_hasTeam {l0 : Nat} {l1 : Int32} {h0 : Hp} {q : Int32 × Hp} (hf : f_X0_hasTeam l0 l1 h0 = some q) : ck h0 l0 0 = some () := by
  unfold f_X0_hasTeam at hf
  obtain ⟨u0, e0, hf⟩ := b_some hf
  exact e0
theorem dX0_addGame_0 : decode cX0_addGame 0 = .ok (.aload_n 0, 1) := by decide +kernel
theorem dX0_addGame_1 : decode cX0_addGame 1 = .ok (.iload_n 1, 1) := by decide +kernel
theorem dX0_addGame_2 : decode cX0_addGame 2 = .ok (.invokevirtual 65, 3) := by decide +kernel
theorem dX0_addGame_5 : decode cX0_addGame 5 = .ok (.ifCond .eq 16, 3) := by decide +kernel
theorem dX0_addGame_8 : decode cX0_addGame 8 = .ok (.aload_n 0, 1) := by decide +kernel
theorem dX0_addGame_9 : decode cX0_addGame 9 = .ok (.iload_n 2, 1) := by decide +kernel
theorem dX0_addGame_10 : decode cX0_addGame 10 = .ok (.invokevirtual 65, 3) := by decide +kernel
theorem dX0_addGame_13 : decode cX0_addGame 13 = .ok (.ifCond .eq 8, 3) := by decide +kernel
theorem dX0_addGame_16 : decode cX0_addGame 16 = .ok (.iload_n 1, 1) := by decide +kernel
theorem dX0_addGame_17 : decode cX0_addGame 17 = .ok (.iload_n 2, 1) := by decide +kernel
theorem dX0_addGame_18 : decode cX0_addGame 18 = .ok (.if_icmp .ne 5, 3) := by decide +kernel
theorem dX0_addGame_21 : decode cX0_addGame 21 = .ok (.iconst (-1), 1) := by decide +kernel
theorem dX0_addGame_22 : decode cX0_addGame 22 = .ok (.ireturn, 1) := by decide +kernel
theorem dX0_addGame_23 : decode cX0_addGame 23 = .ok (.iload_n 3, 1) := by decide +kernel
theorem dX0_addGame_24 : decode cX0_addGame 24 = .ok (.iconst 1, 1) := by decide +kernel
theorem dX0_addGame_25 : decode cX0_addGame 25 = .ok (.if_icmp .lt 18, 3) := by decide +kernel
theorem dX0_addGame_28 : decode cX0_addGame 28 = .ok (.iload_n 3, 1) := by decide +kernel
theorem dX0_addGame_29 : decode cX0_addGame 29 = .ok (.bipush 30, 2) := by decide +kernel
theorem dX0_addGame_31 : decode cX0_addGame 31 = .ok (.if_icmp .gt 12, 3) := by decide +kernel
theorem dX0_addGame_34 : decode cX0_addGame 34 = .ok (.aload_n 0, 1) := by decide +kernel
theorem dX0_addGame_35 : decode cX0_addGame 35 = .ok (.getfield 37, 3) := by decide +kernel
theorem dX0_addGame_38 : decode cX0_addGame 38 = .ok (.bipush 9, 2) := by decide +kernel
theorem dX0_addGame_40 : decode cX0_addGame 40 = .ok (.if_icmp .lt 5, 3) := by decide +kernel
theorem dX0_addGame_43 : decode cX0_addGame 43 = .ok (.iconst (-1), 1) := by decide +kernel
theorem dX0_addGame_44 : decode cX0_addGame 44 = .ok (.ireturn, 1) := by decide +kernel
theorem dX0_addGame_45 : decode cX0_addGame 45 = .ok (.aload_n 0, 1) := by decide +kernel
theorem dX0_addGame_46 : decode cX0_addGame 46 = .ok (.getfield 21, 3) := by decide +kernel
theorem dX0_addGame_49 : decode cX0_addGame 49 = .ok (.aload_n 0, 1) := by decide +kernel
theorem dX0_addGame_50 : decode cX0_addGame 50 = .ok (.getfield 37, 3) := by decide +kernel
theorem dX0_addGame_53 : decode cX0_addGame 53 = .ok (.iload_n 1, 1) := by decide +kernel
theorem dX0_addGame_54 : decode cX0_addGame 54 = .ok (.iastore, 1) := by decide +kernel
theorem dX0_addGame_55 : decode cX0_addGame 55 = .ok (.aload_n 0, 1) := by decide +kernel
theorem dX0_addGame_56 : decode cX0_addGame 56 = .ok (.getfield 24, 3) := by decide +kernel
theorem dX0_addGame_59 : decode cX0_addGame 59 = .ok (.aload_n 0, 1) := by decide +kernel
theorem dX0_addGame_60 : decode cX0_addGame 60 = .ok (.getfield 37, 3) := by decide +kernel
theorem dX0_addGame_63 : decode cX0_addGame 63 = .ok (.iload_n 2, 1) := by decide +kernel
theorem dX0_addGame_64 : decode cX0_addGame 64 = .ok (.iastore, 1) := by decide +kernel
theorem dX0_addGame_65 : decode cX0_addGame 65 = .ok (.aload_n 0, 1) := by decide +kernel
theorem dX0_addGame_66 : decode cX0_addGame 66 = .ok (.getfield 27, 3) := by decide +kernel
theorem dX0_addGame_69 : decode cX0_addGame 69 = .ok (.aload_n 0, 1) := by decide +kernel
theorem dX0_addGame_70 : decode cX0_addGame 70 = .ok (.getfield 37, 3) := by decide +kernel
theorem dX0_addGame_73 : decode cX0_addGame 73 = .ok (.iload_n 3, 1) := by decide +kernel
theorem dX0_addGame_74 : decode cX0_addGame 74 = .ok (.iastore, 1) := by decide +kernel
theorem dX0_addGame_75 : decode cX0_addGame 75 = .ok (.aload_n 0, 1) := by decide +kernel
theorem dX0_addGame_76 : decode cX0_addGame 76 = .ok (.getfield 30, 3) := by decide +kernel
theorem dX0_addGame_79 : decode cX0_addGame 79 = .ok (.aload_n 0, 1) := by decide +kernel
theorem dX0_addGame_80 : decode cX0_addGame 80 = .ok (.getfield 37, 3) := by decide +kernel
theorem dX0_addGame_83 : decode cX0_addGame 83 = .ok (.iconst (-1), 1) := by decide +kernel
theorem dX0_addGame_84 : decode cX0_addGame 84 = .ok (.iastore, 1) := by decide +kernel
theorem dX0_addGame_85 : decode cX0_addGame 85 = .ok (.aload_n 0, 1) := by decide +kernel
theorem dX0_addGame_86 : decode cX0_addGame 86 = .ok (.dup, 1) := by decide +kernel
theorem dX0_addGame_87 : decode cX0_addGame 87 = .ok (.getfield 37, 3) := by decide +kernel
theorem dX0_addGame_90 : decode cX0_addGame 90 = .ok (.iconst 1, 1) := by decide +kernel
theorem dX0_addGame_91 : decode cX0_addGame 91 = .ok (.iadd, 1) := by decide +kernel
theorem dX0_addGame_92 : decode cX0_addGame 92 = .ok (.putfield 37, 3) := by decide +kernel
theorem dX0_addGame_95 : decode cX0_addGame 95 = .ok (.aload_n 0, 1) := by decide +kernel
theorem dX0_addGame_96 : decode cX0_addGame 96 = .ok (.getfield 37, 3) := by decide +kernel
theorem dX0_addGame_99 : decode cX0_addGame 99 = .ok (.iconst 1, 1) := by decide +kernel
theorem dX0_addGame_100 : decode cX0_addGame 100 = .ok (.isub, 1) := by decide +kernel
theorem dX0_addGame_101 : decode cX0_addGame 101 = .ok (.ireturn, 1) := by decide +kernel
def f_X0_addGame (l0 : Nat) (l1 : Int32) (l2 : Int32) (l3 : Int32) (h0 : Hp) : Option (Int32 × Hp) :=
  (ck h0 l0 0).bind fun _ => (f_X0_hasTeam l0 l1 h0).bind fun q1 => if q1.1 = 0 then (some ((-1 : Int32), q1.2)) else ((f_X0_hasTeam l0 l2 q1.2).bind fun q3 => if q3.1 = 0 then (some ((-1 : Int32), q3.2)) else (if l1 = l2 then (some ((-1 : Int32), q3.2)) else (if l3 < (1 : Int32) then (some ((-1 : Int32), q3.2)) else (if (30 : Int32) < l3 then (some ((-1 : Int32), q3.2)) else ((gI q3.2 l0 0 1).bind fun x8 => if x8 < (9 : Int32) then ((gR q3.2 l0 0 6).bind fun r10 => (gI q3.2 l0 0 1).bind fun x11 => (aS q3.2 r10 x11 l1).bind fun h12 => (gR h12 l0 0 7).bind fun r13 => (gI h12 l0 0 1).bind fun x14 => (aS h12 r13 x14 l2).bind fun h15 => (gR h15 l0 0 8).bind fun r16 => (gI h15 l0 0 1).bind fun x17 => (aS h15 r16 x17 l3).bind fun h18 => (gR h18 l0 0 9).bind fun r19 => (gI h18 l0 0 1).bind fun x20 => (aS h18 r19 x20 (-1 : Int32)).bind fun h21 => (gI h21 l0 0 1).bind fun x22 => (pI h21 l0 0 1 (x22 + (1 : Int32))).bind fun h23 => (gI h23 l0 0 1).bind fun x24 => some ((x24 - (1 : Int32)), h23)) else (some ((-1 : Int32), q3.2)))))))
set_option maxRecDepth 100000 in
set_option maxHeartbeats 4000000 in
theorem c_X0_addGame {l0 : Nat} {l1 : Int32} {l2 : Int32} {l3 : Int32} {h0 : Hp} {q : Int32 × Hp} (hf : f_X0_addGame l0 l1 l2 l3 h0 = some q) : Mt 2 yX0_addGame cX0_addGame 4 (some .int) [.ref l0, .int l1, .int l2, .int l3] h0 (some (.int q.1)) q.2 := by
  refine MtQ.of (by decide) (Nat.le_of_ble_eq_true rfl) (fun X adr hr hn => ?_)
  unfold f_X0_addGame at hf
  show AW X cX0_addGame 4 RX0 (rmd 2 0 0) (Qmet X 0 0 (Qe (some (.int q.1)) q.2 adr)) 0 0 adr h0 0 [(0, .ref l0), (1, .int l1), (2, .int l2), (3, .int l3)] []
  obtain ⟨u0, e0, hf⟩ := b_some hf
  refine aw_aload_n 0 dX0_addGame_0 rfl rfl ?_
  refine aw_iload_n 1 dX0_addGame_1 rfl rfl ?_
  obtain ⟨q1, eq1, hf⟩ := b_some hf
  refine aw_cV (as := [.int l1]) dX0_addGame_2 moX0_hasTeam voX0_hasTeam mlX0_65 (k_X0_hasTeam eq1) rfl (rm_ok (by omega) (by decide)) ⟨Nat.le_refl _, Nat.le_refl _⟩ (Nat.le_of_ble_eq_true rfl) rfl (c_X0_hasTeam eq1) ?_
  refine aw_if_eq (tgt := 21) dX0_addGame_5 (by decide) (fun c2 => ?_) (fun c2 => ?_)
  · have hf := i_pos c2 hf
    refine aw_iconst (v := -1) dX0_addGame_21 (by decide) ?_
    have hq := Option.some.inj hf
    subst hq
    exact aw_iret hr dX0_addGame_22 ⟨rfl, rfl, rfl⟩
  · have hf := i_neg c2 hf
    refine aw_aload_n 0 dX0_addGame_8 rfl rfl ?_
    refine aw_iload_n 2 dX0_addGame_9 rfl rfl ?_
    obtain ⟨q3, eq3, hf⟩ := b_some hf
    refine aw_cV (as := [.int l2]) dX0_addGame_10 moX0_hasTeam voX0_hasTeam mlX0_65 (k_X0_hasTeam eq3) rfl (rm_ok (by omega) (by decide)) ⟨Nat.le_refl _, Nat.le_refl _⟩ (Nat.le_of_ble_eq_true rfl) rfl (c_X0_hasTeam eq3) ?_
    refine aw_if_eq (tgt := 21) dX0_addGame_13 (by decide) (fun c4 => ?_) (fun c4 => ?_)
    · have hf := i_pos c4 hf
      refine aw_iconst (v := -1) dX0_addGame_21 (by decide) ?_
      have hq := Option.some.inj hf
      subst hq
      exact aw_iret hr dX0_addGame_22 ⟨rfl, rfl, rfl⟩
    · have hf := i_neg c4 hf
      refine aw_iload_n 1 dX0_addGame_16 rfl rfl ?_
      refine aw_iload_n 2 dX0_addGame_17 rfl rfl ?_
      refine aw_icmp_ne (tgt := 23) dX0_addGame_18 (by decide) (fun c5 => ?_) (fun c5 => ?_)
      · have hf := i_neg c5 hf
        refine aw_iload_n 3 dX0_addGame_23 rfl rfl ?_
        refine aw_iconst (v := 1) dX0_addGame_24 (by decide) ?_
        refine aw_icmp_lt (tgt := 43) dX0_addGame_25 (by decide) (fun c6 => ?_) (fun c6 => ?_)
        · have hf := i_pos c6 hf
          refine aw_iconst (v := -1) dX0_addGame_43 (by decide) ?_
          have hq := Option.some.inj hf
          subst hq
          exact aw_iret hr dX0_addGame_44 ⟨rfl, rfl, rfl⟩
        · have hf := i_neg c6 hf
          refine aw_iload_n 3 dX0_addGame_28 rfl rfl ?_
          refine aw_bipush (v := 30) dX0_addGame_29 (by decide) ?_
          refine aw_icmp_gt (tgt := 43) dX0_addGame_31 (by decide) (fun c7 => ?_) (fun c7 => ?_)
          · have hf := i_pos c7 hf
            refine aw_iconst (v := -1) dX0_addGame_43 (by decide) ?_
            have hq := Option.some.inj hf
            subst hq
            exact aw_iret hr dX0_addGame_44 ⟨rfl, rfl, rfl⟩
          · have hf := i_neg c7 hf
            refine aw_aload_n 0 dX0_addGame_34 rfl rfl ?_
            obtain ⟨x8, ex8, hf⟩ := b_some hf
            refine aw_getI dX0_addGame_35 gfX0_37 ex8 ?_
            refine aw_bipush (v := 9) dX0_addGame_38 (by decide) ?_
            refine aw_icmp_lt (tgt := 45) dX0_addGame_40 (by decide) (fun c9 => ?_) (fun c9 => ?_)
            · have hf := i_pos c9 hf
              refine aw_aload_n 0 dX0_addGame_45 rfl rfl ?_
              obtain ⟨r10, er10, hf⟩ := b_some hf
              refine aw_getR dX0_addGame_46 gfX0_21 er10 ?_
              refine aw_aload_n 0 dX0_addGame_49 rfl rfl ?_
              obtain ⟨x11, ex11, hf⟩ := b_some hf
              refine aw_getI dX0_addGame_50 gfX0_37 ex11 ?_
              refine aw_iload_n 1 dX0_addGame_53 rfl rfl ?_
              obtain ⟨h12, eh12, hf⟩ := b_some hf
              refine aw_iast dX0_addGame_54 eh12 ?_
              refine aw_aload_n 0 dX0_addGame_55 rfl rfl ?_
              obtain ⟨r13, er13, hf⟩ := b_some hf
              refine aw_getR dX0_addGame_56 gfX0_24 er13 ?_
              refine aw_aload_n 0 dX0_addGame_59 rfl rfl ?_
              obtain ⟨x14, ex14, hf⟩ := b_some hf
              refine aw_getI dX0_addGame_60 gfX0_37 ex14 ?_
              refine aw_iload_n 2 dX0_addGame_63 rfl rfl ?_
              obtain ⟨h15, eh15, hf⟩ := b_some hf
              refine aw_iast dX0_addGame_64 eh15 ?_
              refine aw_aload_n 0 dX0_addGame_65 rfl rfl ?_
              obtain ⟨r16, er16, hf⟩ := b_some hf
              refine aw_getR dX0_addGame_66 gfX0_27 er16 ?_
              refine aw_aload_n 0 dX0_addGame_69 rfl rfl ?_
              obtain ⟨x17, ex17, hf⟩ := b_some hf
              refine aw_getI dX0_addGame_70 gfX0_37 ex17 ?_
              refine aw_iload_n 3 dX0_addGame_73 rfl rfl ?_
              obtain ⟨h18, eh18, hf⟩ := b_some hf
              refine aw_iast dX0_addGame_74 eh18 ?_
              refine aw_aload_n 0 dX0_addGame_75 rfl rfl ?_
              obtain ⟨r19, er19, hf⟩ := b_some hf
              refine aw_getR dX0_addGame_76 gfX0_30 er19 ?_
              refine aw_aload_n 0 dX0_addGame_79 rfl rfl ?_
              obtain ⟨x20, ex20, hf⟩ := b_some hf
              refine aw_getI dX0_addGame_80 gfX0_37 ex20 ?_
              refine aw_iconst (v := -1) dX0_addGame_83 (by decide) ?_
              obtain ⟨h21, eh21, hf⟩ := b_some hf
              refine aw_iast dX0_addGame_84 eh21 ?_
              refine aw_aload_n 0 dX0_addGame_85 rfl rfl ?_
              refine aw_dup dX0_addGame_86 rfl ?_
              obtain ⟨x22, ex22, hf⟩ := b_some hf
              refine aw_getI dX0_addGame_87 gfX0_37 ex22 ?_
              refine aw_iconst (v := 1) dX0_addGame_90 (by decide) ?_
              refine aw_iadd dX0_addGame_91 ?_
              obtain ⟨h23, eh23, hf⟩ := b_some hf
              refine aw_putI dX0_addGame_92 pfX0_37 eh23 ?_
              refine aw_aload_n 0 dX0_addGame_95 rfl rfl ?_
              obtain ⟨x24, ex24, hf⟩ := b_some hf
              refine aw_getI dX0_addGame_96 gfX0_37 ex24 ?_
              refine aw_iconst (v := 1) dX0_addGame_99 (by decide) ?_
              refine aw_isub dX0_addGame_100 ?_
              have hq := Option.some.inj hf
              subst hq
              exact aw_iret hr dX0_addGame_101 ⟨rfl, rfl, rfl⟩
            · have hf := i_neg c9 hf
              refine aw_iconst (v := -1) dX0_addGame_43 (by decide) ?_
              have hq := Option.some.inj hf
              subst hq
              exact aw_iret hr dX0_addGame_44 ⟨rfl, rfl, rfl⟩
      · have hf := i_pos c5 hf
        refine aw_iconst (v := -1) dX0_addGame_21 (by decide) ?_
        have hq := Option.some.inj hf
        subst hq
        exact aw_iret hr dX0_addGame_22 ⟨rfl, rfl, rfl⟩
theorem k_X0_addGame {l0 : Nat} {l1 : Int32} {l2 : Int32} {l3 : Int32} {h0 : Hp} {q : Int32 × Hp} (hf : f_X0_addGame l0 l1 l2 l3 h0 = some q) : ck h0 l0 0 = some () := by
  unfold f_X0_addGame at hf
  obtain ⟨u0, e0, hf⟩ := b_some hf
  exact e0
theorem dX0_addTeam_0 : decode cX0_addTeam 0 = .ok (.aload_n 0, 1) := by decide +kernel
theorem dX0_addTeam_1 : decode cX0_addTeam 1 = .ok (.getfield 33, 3) := by decide +kernel
theorem dX0_addTeam_4 : decode cX0_addTeam 4 = .ok (.bipush 6, 2) := by decide +kernel
theorem dX0_addTeam_6 : decode cX0_addTeam 6 = .ok (.if_icmp .lt 6, 3) := by decide +kernel
theorem dX0_addTeam_9 : decode cX0_addTeam 9 = .ok (.bipush (-4), 2) := by decide +kernel
theorem dX0_addTeam_11 : decode cX0_addTeam 11 = .ok (.ireturn, 1) := by decide +kernel
theorem dX0_addTeam_12 : decode cX0_addTeam 12 = .ok (.aload_n 0, 1) := by decide +kernel
theorem dX0_addTeam_13 : decode cX0_addTeam 13 = .ok (.getfield 15, 3) := by decide +kernel
theorem dX0_addTeam_16 : decode cX0_addTeam 16 = .ok (.aload_n 0, 1) := by decide +kernel
theorem dX0_addTeam_17 : decode cX0_addTeam 17 = .ok (.getfield 33, 3) := by decide +kernel
theorem dX0_addTeam_20 : decode cX0_addTeam 20 = .ok (.iload_n 3, 1) := by decide +kernel
theorem dX0_addTeam_21 : decode cX0_addTeam 21 = .ok (.iload_n 2, 1) := by decide +kernel
theorem dX0_addTeam_22 : decode cX0_addTeam 22 = .ok (.isub, 1) := by decide +kernel
theorem dX0_addTeam_23 : decode cX0_addTeam 23 = .ok (.iastore, 1) := by decide +kernel
theorem dX0_addTeam_24 : decode cX0_addTeam 24 = .ok (.iconst 0, 1) := by decide +kernel
theorem dX0_addTeam_25 : decode cX0_addTeam 25 = .ok (.istore 4, 2) := by decide +kernel
theorem dX0_addTeam_27 : decode cX0_addTeam 27 = .ok (.iload 4, 2) := by decide +kernel
theorem dX0_addTeam_29 : decode cX0_addTeam 29 = .ok (.aload_n 0, 1) := by decide +kernel
theorem dX0_addTeam_30 : decode cX0_addTeam 30 = .ok (.getfield 15, 3) := by decide +kernel
theorem dX0_addTeam_33 : decode cX0_addTeam 33 = .ok (.aload_n 0, 1) := by decide +kernel
theorem dX0_addTeam_34 : decode cX0_addTeam 34 = .ok (.getfield 33, 3) := by decide +kernel
theorem dX0_addTeam_37 : decode cX0_addTeam 37 = .ok (.iaload, 1) := by decide +kernel
theorem dX0_addTeam_38 : decode cX0_addTeam 38 = .ok (.if_icmp .ge 30, 3) := by decide +kernel
theorem dX0_addTeam_41 : decode cX0_addTeam 41 = .ok (.aload_n 0, 1) := by decide +kernel
theorem dX0_addTeam_42 : decode cX0_addTeam 42 = .ok (.getfield 18, 3) := by decide +kernel
theorem dX0_addTeam_45 : decode cX0_addTeam 45 = .ok (.aload_n 0, 1) := by decide +kernel
theorem dX0_addTeam_46 : decode cX0_addTeam 46 = .ok (.getfield 33, 3) := by decide +kernel
theorem dX0_addTeam_49 : decode cX0_addTeam 49 = .ok (.bipush 6, 2) := by decide +kernel
theorem dX0_addTeam_51 : decode cX0_addTeam 51 = .ok (.imul, 1) := by decide +kernel
theorem dX0_addTeam_52 : decode cX0_addTeam 52 = .ok (.iload 4, 2) := by decide +kernel
theorem dX0_addTeam_54 : decode cX0_addTeam 54 = .ok (.iadd, 1) := by decide +kernel
theorem dX0_addTeam_55 : decode cX0_addTeam 55 = .ok (.aload_n 1, 1) := by decide +kernel
theorem dX0_addTeam_56 : decode cX0_addTeam 56 = .ok (.iload_n 2, 1) := by decide +kernel
theorem dX0_addTeam_57 : decode cX0_addTeam 57 = .ok (.iload 4, 2) := by decide +kernel
theorem dX0_addTeam_59 : decode cX0_addTeam 59 = .ok (.iadd, 1) := by decide +kernel
theorem dX0_addTeam_60 : decode cX0_addTeam 60 = .ok (.iaload, 1) := by decide +kernel
theorem dX0_addTeam_61 : decode cX0_addTeam 61 = .ok (.iastore, 1) := by decide +kernel
theorem dX0_addTeam_62 : decode cX0_addTeam 62 = .ok (.iinc 4 1, 3) := by decide +kernel
theorem dX0_addTeam_65 : decode cX0_addTeam 65 = .ok (.goto (-38), 3) := by decide +kernel
theorem dX0_addTeam_68 : decode cX0_addTeam 68 = .ok (.aload_n 0, 1) := by decide +kernel
theorem dX0_addTeam_69 : decode cX0_addTeam 69 = .ok (.getfield 9, 3) := by decide +kernel
theorem dX0_addTeam_72 : decode cX0_addTeam 72 = .ok (.aload_n 0, 1) := by decide +kernel
theorem dX0_addTeam_73 : decode cX0_addTeam 73 = .ok (.getfield 33, 3) := by decide +kernel
theorem dX0_addTeam_76 : decode cX0_addTeam 76 = .ok (.iconst 0, 1) := by decide +kernel
theorem dX0_addTeam_77 : decode cX0_addTeam 77 = .ok (.iastore, 1) := by decide +kernel
theorem dX0_addTeam_78 : decode cX0_addTeam 78 = .ok (.aload_n 0, 1) := by decide +kernel
theorem dX0_addTeam_79 : decode cX0_addTeam 79 = .ok (.dup, 1) := by decide +kernel
theorem dX0_addTeam_80 : decode cX0_addTeam 80 = .ok (.getfield 33, 3) := by decide +kernel
theorem dX0_addTeam_83 : decode cX0_addTeam 83 = .ok (.iconst 1, 1) := by decide +kernel
theorem dX0_addTeam_84 : decode cX0_addTeam 84 = .ok (.iadd, 1) := by decide +kernel
theorem dX0_addTeam_85 : decode cX0_addTeam 85 = .ok (.putfield 33, 3) := by decide +kernel
theorem dX0_addTeam_88 : decode cX0_addTeam 88 = .ok (.aload_n 0, 1) := by decide +kernel
theorem dX0_addTeam_89 : decode cX0_addTeam 89 = .ok (.getfield 33, 3) := by decide +kernel
theorem dX0_addTeam_92 : decode cX0_addTeam 92 = .ok (.iconst 1, 1) := by decide +kernel
theorem dX0_addTeam_93 : decode cX0_addTeam 93 = .ok (.isub, 1) := by decide +kernel
theorem dX0_addTeam_94 : decode cX0_addTeam 94 = .ok (.ireturn, 1) := by decide +kernel
def f_X0_addTeam_27 (k27 : Nat × Nat × Int32 × Int32 → Hp → Option (Int32 × Hp)) (v : Nat × Nat × Int32 × Int32) (h0 : Hp) : Option (Int32 × Hp) :=
  match v with
  | (l0, l1, l2, l4) => (gR h0 l0 0 4).bind fun r1 => (gI h0 l0 0 0).bind fun x2 => (aL h0 r1 x2).bind fun x3 => if x3 ≤ l4 then ((gR h0 l0 0 3).bind fun r5 => (gI h0 l0 0 0).bind fun x6 => (aS h0 r5 x6 (0 : Int32)).bind fun h7 => (gI h7 l0 0 0).bind fun x8 => (pI h7 l0 0 0 (x8 + (1 : Int32))).bind fun h9 => (gI h9 l0 0 0).bind fun x10 => some ((x10 - (1 : Int32)), h9)) else ((gR h0 l0 0 5).bind fun r11 => (gI h0 l0 0 0).bind fun x12 => (aL h0 l1 (l2 + l4)).bind fun x13 => (aS h0 r11 ((x12 * (6 : Int32)) + l4) x13).bind fun h14 => (some (l4 + 1)).bind fun x15 => k27 (l0, l1, l2, x15) h14)
set_option maxRecDepth 100000 in
set_option maxHeartbeats 4000000 in
theorem c_X0_addTeam_27 {X : Cx} {adr : Nat → Nat} {q : Int32 × Hp} (hr : (mth X).sig.returnType = (some .int)) (n : Nat) : ∀ v h0, lp (f_X0_addTeam_27) n v h0 = some q → AW X cX0_addTeam 5 RX0 (rmd 1 0 0) (Qmet X 0 0 (Qe (some (.int q.1)) q.2 adr)) 0 0 adr h0 27 [(0, .ref v.1), (1, .ref v.2.1), (2, .int v.2.2.1), (4, .int v.2.2.2)] [] := by
  refine aw_lp (fun k27 hk27 v h0 hf => ?_) n
  obtain ⟨l0, l1, l2, l4⟩ := v
  unfold f_X0_addTeam_27 at hf
  dsimp only at hf
  show AW X cX0_addTeam 5 RX0 (rmd 1 0 0) (Qmet X 0 0 (Qe (some (.int q.1)) q.2 adr)) 0 0 adr h0 27 [(0, .ref l0), (1, .ref l1), (2, .int l2), (4, .int l4)] []
  refine aw_iload 3 dX0_addTeam_27 rfl ?_
  refine aw_aload_n 0 dX0_addTeam_29 rfl rfl ?_
  obtain ⟨r1, er1, hf⟩ := b_some hf
  refine aw_getR dX0_addTeam_30 gfX0_15 er1 ?_
  refine aw_aload_n 0 dX0_addTeam_33 rfl rfl ?_
  obtain ⟨x2, ex2, hf⟩ := b_some hf
  refine aw_getI dX0_addTeam_34 gfX0_33 ex2 ?_
  obtain ⟨x3, ex3, hf⟩ := b_some hf
  refine aw_iald dX0_addTeam_37 ex3 ?_
  refine aw_icmp_ge (tgt := 68) dX0_addTeam_38 (by decide) (fun c4 => ?_) (fun c4 => ?_)
  · have hf := i_pos c4 hf
    refine aw_aload_n 0 dX0_addTeam_68 rfl rfl ?_
    obtain ⟨r5, er5, hf⟩ := b_some hf
    refine aw_getR dX0_addTeam_69 gfX0_9 er5 ?_
    refine aw_aload_n 0 dX0_addTeam_72 rfl rfl ?_
    obtain ⟨x6, ex6, hf⟩ := b_some hf
    refine aw_getI dX0_addTeam_73 gfX0_33 ex6 ?_
    refine aw_iconst (v := 0) dX0_addTeam_76 (by decide) ?_
    obtain ⟨h7, eh7, hf⟩ := b_some hf
    refine aw_iast dX0_addTeam_77 eh7 ?_
    refine aw_aload_n 0 dX0_addTeam_78 rfl rfl ?_
    refine aw_dup dX0_addTeam_79 rfl ?_
    obtain ⟨x8, ex8, hf⟩ := b_some hf
    refine aw_getI dX0_addTeam_80 gfX0_33 ex8 ?_
    refine aw_iconst (v := 1) dX0_addTeam_83 (by decide) ?_
    refine aw_iadd dX0_addTeam_84 ?_
    obtain ⟨h9, eh9, hf⟩ := b_some hf
    refine aw_putI dX0_addTeam_85 pfX0_33 eh9 ?_
    refine aw_aload_n 0 dX0_addTeam_88 rfl rfl ?_
    obtain ⟨x10, ex10, hf⟩ := b_some hf
    refine aw_getI dX0_addTeam_89 gfX0_33 ex10 ?_
    refine aw_iconst (v := 1) dX0_addTeam_92 (by decide) ?_
    refine aw_isub dX0_addTeam_93 ?_
    have hq := Option.some.inj hf
    subst hq
    exact aw_iret hr dX0_addTeam_94 ⟨rfl, rfl, rfl⟩
  · have hf := i_neg c4 hf
    refine aw_aload_n 0 dX0_addTeam_41 rfl rfl ?_
    obtain ⟨r11, er11, hf⟩ := b_some hf
    refine aw_getR dX0_addTeam_42 gfX0_18 er11 ?_
    refine aw_aload_n 0 dX0_addTeam_45 rfl rfl ?_
    obtain ⟨x12, ex12, hf⟩ := b_some hf
    refine aw_getI dX0_addTeam_46 gfX0_33 ex12 ?_
    refine aw_bipush (v := 6) dX0_addTeam_49 (by decide) ?_
    refine aw_imul dX0_addTeam_51 ?_
    refine aw_iload 3 dX0_addTeam_52 rfl ?_
    refine aw_iadd dX0_addTeam_54 ?_
    refine aw_aload_n 1 dX0_addTeam_55 rfl rfl ?_
    refine aw_iload_n 2 dX0_addTeam_56 rfl rfl ?_
    refine aw_iload 3 dX0_addTeam_57 rfl ?_
    refine aw_iadd dX0_addTeam_59 ?_
    obtain ⟨x13, ex13, hf⟩ := b_some hf
    refine aw_iald dX0_addTeam_60 ex13 ?_
    obtain ⟨h14, eh14, hf⟩ := b_some hf
    refine aw_iast dX0_addTeam_61 eh14 ?_
    obtain ⟨x15, ex15, hf⟩ := b_some hf
    refine aw_iinc (v := x15) (L' := [(4, .int x15), (0, .ref l0), (1, .ref l1), (2, .int l2)]) 3 dX0_addTeam_62 rfl (Option.some.inj ex15) (by decide) rfl ?_
    refine aw_goto (tgt := 27) dX0_addTeam_65 (by decide) ?_
    exact aw_sub [1, 2, 3, 0] rfl (hk27 _ _ hf)
def f_X0_addTeam (l0 : Nat) (l1 : Nat) (l2 : Int32) (l3 : Int32) (h0 : Hp) : Option (Int32 × Hp) :=
  (ck h0 l0 0).bind fun _ => (gI h0 l0 0 0).bind fun x1 => if x1 < (6 : Int32) then ((gR h0 l0 0 4).bind fun r3 => (gI h0 l0 0 0).bind fun x4 => (aS h0 r3 x4 (l3 - l2)).bind fun h5 => lp (f_X0_addTeam_27) 600 (l0, l1, l2, (0 : Int32)) h5) else (some ((-4 : Int32), h0))
set_option maxRecDepth 100000 in
set_option maxHeartbeats 4000000 in
theorem c_X0_addTeam {l0 : Nat} {l1 : Nat} {l2 : Int32} {l3 : Int32} {h0 : Hp} {q : Int32 × Hp} (hf : f_X0_addTeam l0 l1 l2 l3 h0 = some q) : Mt 1 yX0_addTeam cX0_addTeam 5 (some .int) [.ref l0, .ref l1, .int l2, .int l3] h0 (some (.int q.1)) q.2 := by
  refine MtQ.of (by decide) (Nat.le_of_ble_eq_true rfl) (fun X adr hr hn => ?_)
  unfold f_X0_addTeam at hf
  show AW X cX0_addTeam 5 RX0 (rmd 1 0 0) (Qmet X 0 0 (Qe (some (.int q.1)) q.2 adr)) 0 0 adr h0 0 [(0, .ref l0), (1, .ref l1), (2, .int l2), (3, .int l3)] []
  obtain ⟨u0, e0, hf⟩ := b_some hf
  refine aw_aload_n 0 dX0_addTeam_0 rfl rfl ?_
  obtain ⟨x1, ex1, hf⟩ := b_some hf
  refine aw_getI dX0_addTeam_1 gfX0_33 ex1 ?_
  refine aw_bipush (v := 6) dX0_addTeam_4 (by decide) ?_
  refine aw_icmp_lt (tgt := 12) dX0_addTeam_6 (by decide) (fun c2 => ?_) (fun c2 => ?_)
  · have hf := i_pos c2 hf
    refine aw_aload_n 0 dX0_addTeam_12 rfl rfl ?_
    obtain ⟨r3, er3, hf⟩ := b_some hf
    refine aw_getR dX0_addTeam_13 gfX0_15 er3 ?_
    refine aw_aload_n 0 dX0_addTeam_16 rfl rfl ?_
    obtain ⟨x4, ex4, hf⟩ := b_some hf
    refine aw_getI dX0_addTeam_17 gfX0_33 ex4 ?_
    refine aw_iload_n 3 dX0_addTeam_20 rfl rfl ?_
    refine aw_iload_n 2 dX0_addTeam_21 rfl rfl ?_
    refine aw_isub dX0_addTeam_22 ?_
    obtain ⟨h5, eh5, hf⟩ := b_some hf
    refine aw_iast dX0_addTeam_23 eh5 ?_
    refine aw_iconst (v := 0) dX0_addTeam_24 (by decide) ?_
    refine aw_istore (L' := [(4, .int (0 : Int32)), (0, .ref l0), (1, .ref l1), (2, .int l2), (3, .int l3)]) dX0_addTeam_25 (by decide) rfl ?_
    exact aw_sub [1, 2, 3, 0] rfl (c_X0_addTeam_27 hr 600 _ _ hf)
  · have hf := i_neg c2 hf
    refine aw_bipush (v := -4) dX0_addTeam_9 (by decide) ?_
    have hq := Option.some.inj hf
    subst hq
    exact aw_iret hr dX0_addTeam_11 ⟨rfl, rfl, rfl⟩
theorem k_X0_addTeam {l0 : Nat} {l1 : Nat} {l2 : Int32} {l3 : Int32} {h0 : Hp} {q : Int32 × Hp} (hf : f_X0_addTeam l0 l1 l2 l3 h0 = some q) : ck h0 l0 0 = some () := by
  unfold f_X0_addTeam at hf
  obtain ⟨u0, e0, hf⟩ := b_some hf
  exact e0
theorem dX0_award_0 : decode cX0_award 0 = .ok (.iload_n 3, 1) := by decide +kernel
theorem dX0_award_1 : decode cX0_award 1 = .ok (.ifCond .ne 50, 3) := by decide +kernel
theorem dX0_award_4 : decode cX0_award 4 = .ok (.aload_n 1, 1) := by decide +kernel
theorem dX0_award_5 : decode cX0_award 5 = .ok (.aload_n 0, 1) := by decide +kernel
theorem dX0_award_6 : decode cX0_award 6 = .ok (.getfield 21, 3) := by decide +kernel
theorem dX0_award_9 : decode cX0_award 9 = .ok (.iload_n 2, 1) := by decide +kernel
theorem dX0_award_10 : decode cX0_award 10 = .ok (.iaload, 1) := by decide +kernel
theorem dX0_award_11 : decode cX0_award 11 = .ok (.dup2, 1) := by decide +kernel
theorem dX0_award_12 : decode cX0_award 12 = .ok (.iaload, 1) := by decide +kernel
theorem dX0_award_13 : decode cX0_award 13 = .ok (.getstatic 52, 3) := by decide +kernel
theorem dX0_award_16 : decode cX0_award 16 = .ok (.aload_n 0, 1) := by decide +kernel
theorem dX0_award_17 : decode cX0_award 17 = .ok (.getfield 40, 3) := by decide +kernel
theorem dX0_award_20 : decode cX0_award 20 = .ok (.iaload, 1) := by decide +kernel
theorem dX0_award_21 : decode cX0_award 21 = .ok (.iload 4, 2) := by decide +kernel
theorem dX0_award_23 : decode cX0_award 23 = .ok (.imul, 1) := by decide +kernel
theorem dX0_award_24 : decode cX0_award 24 = .ok (.iadd, 1) := by decide +kernel
theorem dX0_award_25 : decode cX0_award 25 = .ok (.iastore, 1) := by decide +kernel
theorem dX0_award_26 : decode cX0_award 26 = .ok (.aload_n 1, 1) := by decide +kernel
theorem dX0_award_27 : decode cX0_award 27 = .ok (.aload_n 0, 1) := by decide +kernel
theorem dX0_award_28 : decode cX0_award 28 = .ok (.getfield 24, 3) := by decide +kernel
theorem dX0_award_31 : decode cX0_award 31 = .ok (.iload_n 2, 1) := by decide +kernel
theorem dX0_award_32 : decode cX0_award 32 = .ok (.iaload, 1) := by decide +kernel
theorem dX0_award_33 : decode cX0_award 33 = .ok (.dup2, 1) := by decide +kernel
theorem dX0_award_34 : decode cX0_award 34 = .ok (.iaload, 1) := by decide +kernel
theorem dX0_award_35 : decode cX0_award 35 = .ok (.getstatic 52, 3) := by decide +kernel
theorem dX0_award_38 : decode cX0_award 38 = .ok (.aload_n 0, 1) := by decide +kernel
theorem dX0_award_39 : decode cX0_award 39 = .ok (.getfield 40, 3) := by decide +kernel
theorem dX0_award_42 : decode cX0_award 42 = .ok (.iaload, 1) := by decide +kernel
theorem dX0_award_43 : decode cX0_award 43 = .ok (.iload 4, 2) := by decide +kernel
theorem dX0_award_45 : decode cX0_award 45 = .ok (.imul, 1) := by decide +kernel
theorem dX0_award_46 : decode cX0_award 46 = .ok (.iadd, 1) := by decide +kernel
theorem dX0_award_47 : decode cX0_award 47 = .ok (.iastore, 1) := by decide +kernel
theorem dX0_award_48 : decode cX0_award 48 = .ok (.goto 39, 3) := by decide +kernel
theorem dX0_award_51 : decode cX0_award 51 = .ok (.aload_n 1, 1) := by decide +kernel
theorem dX0_award_52 : decode cX0_award 52 = .ok (.iload_n 3, 1) := by decide +kernel
theorem dX0_award_53 : decode cX0_award 53 = .ok (.iconst 1, 1) := by decide +kernel
theorem dX0_award_54 : decode cX0_award 54 = .ok (.if_icmp .ne 12, 3) := by decide +kernel
theorem dX0_award_57 : decode cX0_award 57 = .ok (.aload_n 0, 1) := by decide +kernel
theorem dX0_award_58 : decode cX0_award 58 = .ok (.getfield 21, 3) := by decide +kernel
theorem dX0_award_61 : decode cX0_award 61 = .ok (.iload_n 2, 1) := by decide +kernel
theorem dX0_award_62 : decode cX0_award 62 = .ok (.iaload, 1) := by decide +kernel
theorem dX0_award_63 : decode cX0_award 63 = .ok (.goto 9, 3) := by decide +kernel
theorem dX0_award_66 : decode cX0_award 66 = .ok (.aload_n 0, 1) := by decide +kernel
theorem dX0_award_67 : decode cX0_award 67 = .ok (.getfield 24, 3) := by decide +kernel
theorem dX0_award_70 : decode cX0_award 70 = .ok (.iload_n 2, 1) := by decide +kernel
theorem dX0_award_71 : decode cX0_award 71 = .ok (.iaload, 1) := by decide +kernel
theorem dX0_award_72 : decode cX0_award 72 = .ok (.dup2, 1) := by decide +kernel
theorem dX0_award_73 : decode cX0_award 73 = .ok (.iaload, 1) := by decide +kernel
theorem dX0_award_74 : decode cX0_award 74 = .ok (.getstatic 49, 3) := by decide +kernel
theorem dX0_award_77 : decode cX0_award 77 = .ok (.aload_n 0, 1) := by decide +kernel
theorem dX0_award_78 : decode cX0_award 78 = .ok (.getfield 40, 3) := by decide +kernel
theorem dX0_award_81 : decode cX0_award 81 = .ok (.iaload, 1) := by decide +kernel
theorem dX0_award_82 : decode cX0_award 82 = .ok (.iload 4, 2) := by decide +kernel
theorem dX0_award_84 : decode cX0_award 84 = .ok (.imul, 1) := by decide +kernel
theorem dX0_award_85 : decode cX0_award 85 = .ok (.iadd, 1) := by decide +kernel
theorem dX0_award_86 : decode cX0_award 86 = .ok (.iastore, 1) := by decide +kernel
theorem dX0_award_87 : decode cX0_award 87 = .ok (.return_, 1) := by decide +kernel
def f_X0_award_72 (l0 : Nat) (l4 : Int32) (s0 : Int32) (s1 : Nat) (h0 : Hp) : Option (Unit × Hp) :=
  (aL h0 s1 s0).bind fun x1 => (gI h0 l0 0 2).bind fun x2 => (sT 0 x2).bind fun x3 => (aS h0 s1 s0 (x1 + (x3 * l4))).bind fun h4 => some ((), h4)
set_option maxRecDepth 100000 in
set_option maxHeartbeats 4000000 in
theorem c_X0_award_72 {X : Cx} {adr : Nat → Nat} {q : Unit × Hp} (hr : (mth X).sig.returnType = none) {l0 : Nat} {l4 : Int32} {s0 : Int32} {s1 : Nat} {h0 : Hp} (hf : f_X0_award_72 l0 l4 s0 s1 h0 = some q) : AW X cX0_award 5 RX0 (rmd 1 0 0) (Qmet X 0 0 (Qe none q.2 adr)) 0 0 adr h0 72 [(0, .ref l0), (4, .int l4)] [.int s0, .ref s1] := by
  unfold f_X0_award_72 at hf
  refine aw_dup2 dX0_award_72 rfl rfl ?_
  obtain ⟨x1, ex1, hf⟩ := b_some hf
  refine aw_iald dX0_award_73 ex1 ?_
  refine aw_gets (q := 0) dX0_award_74 kfX0_49 rfl ?_
  refine aw_aload_n 0 dX0_award_77 rfl rfl ?_
  obtain ⟨x2, ex2, hf⟩ := b_some hf
  refine aw_getI dX0_award_78 gfX0_40 ex2 ?_
  obtain ⟨x3, ex3, hf⟩ := b_some hf
  refine aw_sald dX0_award_81 rfl ex3 ?_
  refine aw_iload 1 dX0_award_82 rfl ?_
  refine aw_imul dX0_award_84 ?_
  refine aw_iadd dX0_award_85 ?_
  obtain ⟨h4, eh4, hf⟩ := b_some hf
  refine aw_iast dX0_award_86 eh4 ?_
  have hq := Option.some.inj hf
  subst hq
  exact aw_vret hr dX0_award_87 ⟨rfl, rfl, rfl⟩
def f_X0_award (l0 : Nat) (l1 : Nat) (l2 : Int32) (l3 : Int32) (l4 : Int32) (h0 : Hp) : Option (Unit × Hp) :=
  (ck h0 l0 0).bind fun _ => if l3 = 0 then ((gR h0 l0 0 6).bind fun r7 => (aL h0 r7 l2).bind fun x8 => (aL h0 l1 x8).bind fun x9 => (gI h0 l0 0 2).bind fun x10 => (sT 1 x10).bind fun x11 => (aS h0 l1 x8 (x9 + (x11 * l4))).bind fun h12 => (gR h12 l0 0 7).bind fun r13 => (aL h12 r13 l2).bind fun x14 => (aL h12 l1 x14).bind fun x15 => (gI h12 l0 0 2).bind fun x16 => (sT 1 x16).bind fun x17 => (aS h12 l1 x14 (x15 + (x17 * l4))).bind fun h18 => some ((), h18)) else (if l3 = (1 : Int32) then ((gR h0 l0 0 6).bind fun r5 => (aL h0 r5 l2).bind fun x6 => f_X0_award_72 l0 l4 x6 l1 h0) else ((gR h0 l0 0 7).bind fun r3 => (aL h0 r3 l2).bind fun x4 => f_X0_award_72 l0 l4 x4 l1 h0))
set_option maxRecDepth 100000 in
set_option maxHeartbeats 4000000 in
theorem c_X0_award {l0 : Nat} {l1 : Nat} {l2 : Int32} {l3 : Int32} {l4 : Int32} {h0 : Hp} {q : Unit × Hp} (hf : f_X0_award l0 l1 l2 l3 l4 h0 = some q) : Mt 1 yX0_award cX0_award 5 none [.ref l0, .ref l1, .int l2, .int l3, .int l4] h0 none q.2 := by
  refine MtQ.of (by decide) (Nat.le_of_ble_eq_true rfl) (fun X adr hr hn => ?_)
  unfold f_X0_award at hf
  show AW X cX0_award 5 RX0 (rmd 1 0 0) (Qmet X 0 0 (Qe none q.2 adr)) 0 0 adr h0 0 [(0, .ref l0), (1, .ref l1), (2, .int l2), (3, .int l3), (4, .int l4)] []
  obtain ⟨u0, e0, hf⟩ := b_some hf
  refine aw_iload_n 3 dX0_award_0 rfl rfl ?_
  refine aw_if_ne (tgt := 51) dX0_award_1 (by decide) (fun c1 => ?_) (fun c1 => ?_)
  · have hf := i_neg c1 hf
    refine aw_aload_n 1 dX0_award_51 rfl rfl ?_
    refine aw_iload_n 3 dX0_award_52 rfl rfl ?_
    refine aw_iconst (v := 1) dX0_award_53 (by decide) ?_
    refine aw_icmp_ne (tgt := 66) dX0_award_54 (by decide) (fun c2 => ?_) (fun c2 => ?_)
    · have hf := i_neg c2 hf
      refine aw_aload_n 0 dX0_award_66 rfl rfl ?_
      obtain ⟨r3, er3, hf⟩ := b_some hf
      refine aw_getR dX0_award_67 gfX0_24 er3 ?_
      refine aw_iload_n 2 dX0_award_70 rfl rfl ?_
      obtain ⟨x4, ex4, hf⟩ := b_some hf
      refine aw_iald dX0_award_71 ex4 ?_
      exact aw_sub [0, 4] rfl (c_X0_award_72 hr hf)
    · have hf := i_pos c2 hf
      refine aw_aload_n 0 dX0_award_57 rfl rfl ?_
      obtain ⟨r5, er5, hf⟩ := b_some hf
      refine aw_getR dX0_award_58 gfX0_21 er5 ?_
      refine aw_iload_n 2 dX0_award_61 rfl rfl ?_
      obtain ⟨x6, ex6, hf⟩ := b_some hf
      refine aw_iald dX0_award_62 ex6 ?_
      refine aw_goto (tgt := 72) dX0_award_63 (by decide) ?_
      exact aw_sub [0, 4] rfl (c_X0_award_72 hr hf)
  · have hf := i_pos c1 hf
    refine aw_aload_n 1 dX0_award_4 rfl rfl ?_
    refine aw_aload_n 0 dX0_award_5 rfl rfl ?_
    obtain ⟨r7, er7, hf⟩ := b_some hf
    refine aw_getR dX0_award_6 gfX0_21 er7 ?_
    refine aw_iload_n 2 dX0_award_9 rfl rfl ?_
    obtain ⟨x8, ex8, hf⟩ := b_some hf
    refine aw_iald dX0_award_10 ex8 ?_
    refine aw_dup2 dX0_award_11 rfl rfl ?_
    obtain ⟨x9, ex9, hf⟩ := b_some hf
    refine aw_iald dX0_award_12 ex9 ?_
    refine aw_gets (q := 1) dX0_award_13 kfX0_52 rfl ?_
    refine aw_aload_n 0 dX0_award_16 rfl rfl ?_
    obtain ⟨x10, ex10, hf⟩ := b_some hf
    refine aw_getI dX0_award_17 gfX0_40 ex10 ?_
    obtain ⟨x11, ex11, hf⟩ := b_some hf
    refine aw_sald dX0_award_20 rfl ex11 ?_
    refine aw_iload 4 dX0_award_21 rfl ?_
    refine aw_imul dX0_award_23 ?_
    refine aw_iadd dX0_award_24 ?_
    obtain ⟨h12, eh12, hf⟩ := b_some hf
    refine aw_iast dX0_award_25 eh12 ?_
    refine aw_aload_n 1 dX0_award_26 rfl rfl ?_
    refine aw_aload_n 0 dX0_award_27 rfl rfl ?_
    obtain ⟨r13, er13, hf⟩ := b_some hf
    refine aw_getR dX0_award_28 gfX0_24 er13 ?_
    refine aw_iload_n 2 dX0_award_31 rfl rfl ?_
    obtain ⟨x14, ex14, hf⟩ := b_some hf
    refine aw_iald dX0_award_32 ex14 ?_
    refine aw_dup2 dX0_award_33 rfl rfl ?_
    obtain ⟨x15, ex15, hf⟩ := b_some hf
    refine aw_iald dX0_award_34 ex15 ?_
    refine aw_gets (q := 1) dX0_award_35 kfX0_52 rfl ?_
    refine aw_aload_n 0 dX0_award_38 rfl rfl ?_
    obtain ⟨x16, ex16, hf⟩ := b_some hf
    refine aw_getI dX0_award_39 gfX0_40 ex16 ?_
    obtain ⟨x17, ex17, hf⟩ := b_some hf
    refine aw_sald dX0_award_42 rfl ex17 ?_
    refine aw_iload 4 dX0_award_43 rfl ?_
    refine aw_imul dX0_award_45 ?_
    refine aw_iadd dX0_award_46 ?_
    obtain ⟨h18, eh18, hf⟩ := b_some hf
    refine aw_iast dX0_award_47 eh18 ?_
    refine aw_goto (tgt := 87) dX0_award_48 (by decide) ?_
    have hq := Option.some.inj hf
    subst hq
    exact aw_vret hr dX0_award_87 ⟨rfl, rfl, rfl⟩
theorem k_X0_award {l0 : Nat} {l1 : Nat} {l2 : Int32} {l3 : Int32} {l4 : Int32} {h0 : Hp} {q : Unit × Hp} (hf : f_X0_award l0 l1 l2 l3 l4 h0 = some q) : ck h0 l0 0 = some () := by
  unfold f_X0_award at hf
  obtain ⟨u0, e0, hf⟩ := b_some hf
  exact e0
theorem dX0_drawBrings_0 : decode cX0_drawBrings 0 = .ok (.getstatic 52, 3) := by decide +kernel
theorem dX0_drawBrings_3 : decode cX0_drawBrings 3 = .ok (.aload_n 0, 1) := by decide +kernel
theorem dX0_drawBrings_4 : decode cX0_drawBrings 4 = .ok (.getfield 40, 3) := by decide +kernel
theorem dX0_drawBrings_7 : decode cX0_drawBrings 7 = .ok (.iaload, 1) := by decide +kernel
theorem dX0_drawBrings_8 : decode cX0_drawBrings 8 = .ok (.ireturn, 1) := by decide +kernel
def f_X0_drawBrings (l0 : Nat) (h0 : Hp) : Option (Int32 × Hp) :=
  (ck h0 l0 0).bind fun _ => (gI h0 l0 0 2).bind fun x1 => (sT 1 x1).bind fun x2 => some (x2, h0)
set_option maxRecDepth 100000 in
set_option maxHeartbeats 4000000 in
theorem c_X0_drawBrings {l0 : Nat} {h0 : Hp} {q : Int32 × Hp} (hf : f_X0_drawBrings l0 h0 = some q) : Mt 1 yX0_drawBrings cX0_drawBrings 1 (some .int) [.ref l0] h0 (some (.int q.1)) q.2 := by
  refine MtQ.of (by decide) (Nat.le_of_ble_eq_true rfl) (fun X adr hr hn => ?_)
  unfold f_X0_drawBrings at hf
  show AW X cX0_drawBrings 1 RX0 (rmd 1 0 0) (Qmet X 0 0 (Qe (some (.int q.1)) q.2 adr)) 0 0 adr h0 0 [(0, .ref l0)] []
  obtain ⟨u0, e0, hf⟩ := b_some hf
  refine aw_gets (q := 1) dX0_drawBrings_0 kfX0_52 rfl ?_
  refine aw_aload_n 0 dX0_drawBrings_3 rfl rfl ?_
  obtain ⟨x1, ex1, hf⟩ := b_some hf
  refine aw_getI dX0_drawBrings_4 gfX0_40 ex1 ?_
  obtain ⟨x2, ex2, hf⟩ := b_some hf
  refine aw_sald dX0_drawBrings_7 rfl ex2 ?_
  have hq := Option.some.inj hf
  subst hq
  exact aw_iret hr dX0_drawBrings_8 ⟨rfl, rfl, rfl⟩
theorem k_X0_drawBrings {l0 : Nat} {h0 : Hp} {q : Int32 × Hp} (hf : f_X0_drawBrings l0 h0 = some q) : ck h0 l0 0 = some () := by
  unfold f_X0_drawBrings at hf
  obtain ⟨u0, e0, hf⟩ := b_some hf
  exact e0
theorem dX0_drop_0 : decode cX0_drop 0 = .ok (.iload_n 1, 1) := by decide +kernel
theorem dX0_drop_1 : decode cX0_drop 1 = .ok (.istore_n 2, 1) := by decide +kernel
theorem dX0_drop_2 : decode cX0_drop 2 = .ok (.iload_n 2, 1) := by decide +kernel
theorem dX0_drop_3 : decode cX0_drop 3 = .ok (.aload_n 0, 1) := by decide +kernel
theorem dX0_drop_4 : decode cX0_drop 4 = .ok (.getfield 37, 3) := by decide +kernel
theorem dX0_drop_7 : decode cX0_drop 7 = .ok (.iconst 1, 1) := by decide +kernel
theorem dX0_drop_8 : decode cX0_drop 8 = .ok (.isub, 1) := by decide +kernel
theorem dX0_drop_9 : decode cX0_drop 9 = .ok (.if_icmp .ge 65, 3) := by decide +kernel
theorem dX0_drop_12 : decode cX0_drop 12 = .ok (.aload_n 0, 1) := by decide +kernel
theorem dX0_drop_13 : decode cX0_drop 13 = .ok (.getfield 21, 3) := by decide +kernel
theorem dX0_drop_16 : decode cX0_drop 16 = .ok (.iload_n 2, 1) := by decide +kernel
theorem dX0_drop_17 : decode cX0_drop 17 = .ok (.aload_n 0, 1) := by decide +kernel
theorem dX0_drop_18 : decode cX0_drop 18 = .ok (.getfield 21, 3) := by decide +kernel
theorem dX0_drop_21 : decode cX0_drop 21 = .ok (.iload_n 2, 1) := by decide +kernel
theorem dX0_drop_22 : decode cX0_drop 22 = .ok (.iconst 1, 1) := by decide +kernel
theorem dX0_drop_23 : decode cX0_drop 23 = .ok (.iadd, 1) := by decide +kernel
theorem dX0_drop_24 : decode cX0_drop 24 = .ok (.iaload, 1) := by decide +kernel
theorem dX0_drop_25 : decode cX0_drop 25 = .ok (.iastore, 1) := by decide +kernel
theorem dX0_drop_26 : decode cX0_drop 26 = .ok (.aload_n 0, 1) := by decide +kernel
theorem dX0_drop_27 : decode cX0_drop 27 = .ok (.getfield 24, 3) := by decide +kernel
theorem dX0_drop_30 : decode cX0_drop 30 = .ok (.iload_n 2, 1) := by decide +kernel
theorem dX0_drop_31 : decode cX0_drop 31 = .ok (.aload_n 0, 1) := by decide +kernel
theorem dX0_drop_32 : decode cX0_drop 32 = .ok (.getfield 24, 3) := by decide +kernel
theorem dX0_drop_35 : decode cX0_drop 35 = .ok (.iload_n 2, 1) := by decide +kernel
theorem dX0_drop_36 : decode cX0_drop 36 = .ok (.iconst 1, 1) := by decide +kernel
theorem dX0_drop_37 : decode cX0_drop 37 = .ok (.iadd, 1) := by decide +kernel
theorem dX0_drop_38 : decode cX0_drop 38 = .ok (.iaload, 1) := by decide +kernel
theorem dX0_drop_39 : decode cX0_drop 39 = .ok (.iastore, 1) := by decide +kernel
theorem dX0_drop_40 : decode cX0_drop 40 = .ok (.aload_n 0, 1) := by decide +kernel
theorem dX0_drop_41 : decode cX0_drop 41 = .ok (.getfield 27, 3) := by decide +kernel
theorem dX0_drop_44 : decode cX0_drop 44 = .ok (.iload_n 2, 1) := by decide +kernel
theorem dX0_drop_45 : decode cX0_drop 45 = .ok (.aload_n 0, 1) := by decide +kernel
theorem dX0_drop_46 : decode cX0_drop 46 = .ok (.getfield 27, 3) := by decide +kernel
theorem dX0_drop_49 : decode cX0_drop 49 = .ok (.iload_n 2, 1) := by decide +kernel
theorem dX0_drop_50 : decode cX0_drop 50 = .ok (.iconst 1, 1) := by decide +kernel
theorem dX0_drop_51 : decode cX0_drop 51 = .ok (.iadd, 1) := by decide +kernel
theorem dX0_drop_52 : decode cX0_drop 52 = .ok (.iaload, 1) := by decide +kernel
theorem dX0_drop_53 : decode cX0_drop 53 = .ok (.iastore, 1) := by decide +kernel
theorem dX0_drop_54 : decode cX0_drop 54 = .ok (.aload_n 0, 1) := by decide +kernel
theorem dX0_drop_55 : decode cX0_drop 55 = .ok (.getfield 30, 3) := by decide +kernel
theorem dX0_drop_58 : decode cX0_drop 58 = .ok (.iload_n 2, 1) := by decide +kernel
theorem dX0_drop_59 : decode cX0_drop 59 = .ok (.aload_n 0, 1) := by decide +kernel
theorem dX0_drop_60 : decode cX0_drop 60 = .ok (.getfield 30, 3) := by decide +kernel
theorem dX0_drop_63 : decode cX0_drop 63 = .ok (.iload_n 2, 1) := by decide +kernel
theorem dX0_drop_64 : decode cX0_drop 64 = .ok (.iconst 1, 1) := by decide +kernel
theorem dX0_drop_65 : decode cX0_drop 65 = .ok (.iadd, 1) := by decide +kernel
theorem dX0_drop_66 : decode cX0_drop 66 = .ok (.iaload, 1) := by decide +kernel
theorem dX0_drop_67 : decode cX0_drop 67 = .ok (.iastore, 1) := by decide +kernel
theorem dX0_drop_68 : decode cX0_drop 68 = .ok (.iinc 2 1, 3) := by decide +kernel
theorem dX0_drop_71 : decode cX0_drop 71 = .ok (.goto (-69), 3) := by decide +kernel
theorem dX0_drop_74 : decode cX0_drop 74 = .ok (.aload_n 0, 1) := by decide +kernel
theorem dX0_drop_75 : decode cX0_drop 75 = .ok (.dup, 1) := by decide +kernel
theorem dX0_drop_76 : decode cX0_drop 76 = .ok (.getfield 37, 3) := by decide +kernel
theorem dX0_drop_79 : decode cX0_drop 79 = .ok (.iconst 1, 1) := by decide +kernel
theorem dX0_drop_80 : decode cX0_drop 80 = .ok (.isub, 1) := by decide +kernel
theorem dX0_drop_81 : decode cX0_drop 81 = .ok (.putfield 37, 3) := by decide +kernel
theorem dX0_drop_84 : decode cX0_drop 84 = .ok (.return_, 1) := by decide +kernel
def f_X0_drop_2 (k2 : Nat × Int32 → Hp → Option (Unit × Hp)) (v : Nat × Int32) (h0 : Hp) : Option (Unit × Hp) :=
  match v with
  | (l0, l2) => (gI h0 l0 0 1).bind fun x1 => if (x1 - (1 : Int32)) ≤ l2 then ((gI h0 l0 0 1).bind fun x3 => (pI h0 l0 0 1 (x3 - (1 : Int32))).bind fun h4 => some ((), h4)) else ((gR h0 l0 0 6).bind fun r5 => (gR h0 l0 0 6).bind fun r6 => (aL h0 r6 (l2 + (1 : Int32))).bind fun x7 => (aS h0 r5 l2 x7).bind fun h8 => (gR h8 l0 0 7).bind fun r9 => (gR h8 l0 0 7).bind fun r10 => (aL h8 r10 (l2 + (1 : Int32))).bind fun x11 => (aS h8 r9 l2 x11).bind fun h12 => (gR h12 l0 0 8).bind fun r13 => (gR h12 l0 0 8).bind fun r14 => (aL h12 r14 (l2 + (1 : Int32))).bind fun x15 => (aS h12 r13 l2 x15).bind fun h16 => (gR h16 l0 0 9).bind fun r17 => (gR h16 l0 0 9).bind fun r18 => (aL h16 r18 (l2 + (1 : Int32))).bind fun x19 => (aS h16 r17 l2 x19).bind fun h20 => (some (l2 + 1)).bind fun x21 => k2 (l0, x21) h20)
set_option maxRecDepth 100000 in
set_option maxHeartbeats 4000000 in
theorem c_X0_drop_2 {X : Cx} {adr : Nat → Nat} {q : Unit × Hp} (hr : (mth X).sig.returnType = none) (n : Nat) : ∀ v h0, lp (f_X0_drop_2) n v h0 = some q → AW X cX0_drop 3 RX0 (rmd 1 0 0) (Qmet X 0 0 (Qe none q.2 adr)) 0 0 adr h0 2 [(0, .ref v.1), (2, .int v.2)] [] := by
  refine aw_lp (fun k2 hk2 v h0 hf => ?_) n
  obtain ⟨l0, l2⟩ := v
  unfold f_X0_drop_2 at hf
  dsimp only at hf
  show AW X cX0_drop 3 RX0 (rmd 1 0 0) (Qmet X 0 0 (Qe none q.2 adr)) 0 0 adr h0 2 [(0, .ref l0), (2, .int l2)] []
  refine aw_iload_n 1 dX0_drop_2 rfl rfl ?_
  refine aw_aload_n 0 dX0_drop_3 rfl rfl ?_
  obtain ⟨x1, ex1, hf⟩ := b_some hf
  refine aw_getI dX0_drop_4 gfX0_37 ex1 ?_
  refine aw_iconst (v := 1) dX0_drop_7 (by decide) ?_
  refine aw_isub dX0_drop_8 ?_
  refine aw_icmp_ge (tgt := 74) dX0_drop_9 (by decide) (fun c2 => ?_) (fun c2 => ?_)
  · have hf := i_pos c2 hf
    refine aw_aload_n 0 dX0_drop_74 rfl rfl ?_
    refine aw_dup dX0_drop_75 rfl ?_
    obtain ⟨x3, ex3, hf⟩ := b_some hf
    refine aw_getI dX0_drop_76 gfX0_37 ex3 ?_
    refine aw_iconst (v := 1) dX0_drop_79 (by decide) ?_
    refine aw_isub dX0_drop_80 ?_
    obtain ⟨h4, eh4, hf⟩ := b_some hf
    refine aw_putI dX0_drop_81 pfX0_37 eh4 ?_
    have hq := Option.some.inj hf
    subst hq
    exact aw_vret hr dX0_drop_84 ⟨rfl, rfl, rfl⟩
  · have hf := i_neg c2 hf
    refine aw_aload_n 0 dX0_drop_12 rfl rfl ?_
    obtain ⟨r5, er5, hf⟩ := b_some hf
    refine aw_getR dX0_drop_13 gfX0_21 er5 ?_
    refine aw_iload_n 1 dX0_drop_16 rfl rfl ?_
    refine aw_aload_n 0 dX0_drop_17 rfl rfl ?_
    obtain ⟨r6, er6, hf⟩ := b_some hf
    refine aw_getR dX0_drop_18 gfX0_21 er6 ?_
    refine aw_iload_n 1 dX0_drop_21 rfl rfl ?_
    refine aw_iconst (v := 1) dX0_drop_22 (by decide) ?_
    refine aw_iadd dX0_drop_23 ?_
    obtain ⟨x7, ex7, hf⟩ := b_some hf
    refine aw_iald dX0_drop_24 ex7 ?_
    obtain ⟨h8, eh8, hf⟩ := b_some hf
    refine aw_iast dX0_drop_25 eh8 ?_
    refine aw_aload_n 0 dX0_drop_26 rfl rfl ?_
    obtain ⟨r9, er9, hf⟩ := b_some hf
    refine aw_getR dX0_drop_27 gfX0_24 er9 ?_
    refine aw_iload_n 1 dX0_drop_30 rfl rfl ?_
    refine aw_aload_n 0 dX0_drop_31 rfl rfl ?_
    obtain ⟨r10, er10, hf⟩ := b_some hf
    refine aw_getR dX0_drop_32 gfX0_24 er10 ?_
    refine aw_iload_n 1 dX0_drop_35 rfl rfl ?_
    refine aw_iconst (v := 1) dX0_drop_36 (by decide) ?_
    refine aw_iadd dX0_drop_37 ?_
    obtain ⟨x11, ex11, hf⟩ := b_some hf
    refine aw_iald dX0_drop_38 ex11 ?_
    obtain ⟨h12, eh12, hf⟩ := b_some hf
    refine aw_iast dX0_drop_39 eh12 ?_
    refine aw_aload_n 0 dX0_drop_40 rfl rfl ?_
    obtain ⟨r13, er13, hf⟩ := b_some hf
    refine aw_getR dX0_drop_41 gfX0_27 er13 ?_
    refine aw_iload_n 1 dX0_drop_44 rfl rfl ?_
    refine aw_aload_n 0 dX0_drop_45 rfl rfl ?_
    obtain ⟨r14, er14, hf⟩ := b_some hf
    refine aw_getR dX0_drop_46 gfX0_27 er14 ?_
    refine aw_iload_n 1 dX0_drop_49 rfl rfl ?_
    refine aw_iconst (v := 1) dX0_drop_50 (by decide) ?_
    refine aw_iadd dX0_drop_51 ?_
    obtain ⟨x15, ex15, hf⟩ := b_some hf
    refine aw_iald dX0_drop_52 ex15 ?_
    obtain ⟨h16, eh16, hf⟩ := b_some hf
    refine aw_iast dX0_drop_53 eh16 ?_
    refine aw_aload_n 0 dX0_drop_54 rfl rfl ?_
    obtain ⟨r17, er17, hf⟩ := b_some hf
    refine aw_getR dX0_drop_55 gfX0_30 er17 ?_
    refine aw_iload_n 1 dX0_drop_58 rfl rfl ?_
    refine aw_aload_n 0 dX0_drop_59 rfl rfl ?_
    obtain ⟨r18, er18, hf⟩ := b_some hf
    refine aw_getR dX0_drop_60 gfX0_30 er18 ?_
    refine aw_iload_n 1 dX0_drop_63 rfl rfl ?_
    refine aw_iconst (v := 1) dX0_drop_64 (by decide) ?_
    refine aw_iadd dX0_drop_65 ?_
    obtain ⟨x19, ex19, hf⟩ := b_some hf
    refine aw_iald dX0_drop_66 ex19 ?_
    obtain ⟨h20, eh20, hf⟩ := b_some hf
    refine aw_iast dX0_drop_67 eh20 ?_
    obtain ⟨x21, ex21, hf⟩ := b_some hf
    refine aw_iinc (v := x21) (L' := [(2, .int x21), (0, .ref l0)]) 1 dX0_drop_68 rfl (Option.some.inj ex21) (by decide) rfl ?_
    refine aw_goto (tgt := 2) dX0_drop_71 (by decide) ?_
    exact aw_sub [1, 0] rfl (hk2 _ _ hf)
def f_X0_drop (l0 : Nat) (l1 : Int32) (h0 : Hp) : Option (Unit × Hp) :=
  (ck h0 l0 0).bind fun _ => lp (f_X0_drop_2) 600 (l0, l1) h0
set_option maxRecDepth 100000 in
set_option maxHeartbeats 4000000 in
theorem c_X0_drop {l0 : Nat} {l1 : Int32} {h0 : Hp} {q : Unit × Hp} (hf : f_X0_drop l0 l1 h0 = some q) : Mt 1 yX0_drop cX0_drop 3 none [.ref l0, .int l1] h0 none q.2 := by
  refine MtQ.of (by decide) (Nat.le_of_ble_eq_true rfl) (fun X adr hr hn => ?_)
  unfold f_X0_drop at hf
  show AW X cX0_drop 3 RX0 (rmd 1 0 0) (Qmet X 0 0 (Qe none q.2 adr)) 0 0 adr h0 0 [(0, .ref l0), (1, .int l1)] []
  obtain ⟨u0, e0, hf⟩ := b_some hf
  refine aw_iload_n 1 dX0_drop_0 rfl rfl ?_
  refine aw_istore_n (L' := [(2, .int l1), (0, .ref l0), (1, .int l1)]) dX0_drop_1 rfl (by decide) rfl ?_
  exact aw_sub [1, 0] rfl (c_X0_drop_2 hr 600 _ _ hf)
theorem k_X0_drop {l0 : Nat} {l1 : Int32} {h0 : Hp} {q : Unit × Hp} (hf : f_X0_drop l0 l1 h0 = some q) : ck h0 l0 0 = some () := by
  unfold f_X0_drop at hf
  obtain ⟨u0, e0, hf⟩ := b_some hf
  exact e0
theorem dX0_firstResult_0 : decode cX0_firstResult 0 = .ok (.getstatic 58, 3) := by decide +kernel
theorem dX0_firstResult_3 : decode cX0_firstResult 3 = .ok (.aload_n 0, 1) := by decide +kernel
theorem dX0_firstResult_4 : decode cX0_firstResult 4 = .ok (.getfield 40, 3) := by decide +kernel
theorem dX0_firstResult_7 : decode cX0_firstResult 7 = .ok (.iaload, 1) := by decide +kernel
theorem dX0_firstResult_8 : decode cX0_firstResult 8 = .ok (.ireturn, 1) := by decide +kernel
def f_X0_firstResult (l0 : Nat) (h0 : Hp) : Option (Int32 × Hp) :=
  (ck h0 l0 0).bind fun _ => (gI h0 l0 0 2).bind fun x1 => (sT 3 x1).bind fun x2 => some (x2, h0)
set_option maxRecDepth 100000 in
set_option maxHeartbeats 4000000 in
theorem c_X0_firstResult {l0 : Nat} {h0 : Hp} {q : Int32 × Hp} (hf : f_X0_firstResult l0 h0 = some q) : Mt 1 yX0_firstResult cX0_firstResult 1 (some .int) [.ref l0] h0 (some (.int q.1)) q.2 := by
  refine MtQ.of (by decide) (Nat.le_of_ble_eq_true rfl) (fun X adr hr hn => ?_)
  unfold f_X0_firstResult at hf
  show AW X cX0_firstResult 1 RX0 (rmd 1 0 0) (Qmet X 0 0 (Qe (some (.int q.1)) q.2 adr)) 0 0 adr h0 0 [(0, .ref l0)] []
  obtain ⟨u0, e0, hf⟩ := b_some hf
  refine aw_gets (q := 3) dX0_firstResult_0 kfX0_58 rfl ?_
  refine aw_aload_n 0 dX0_firstResult_3 rfl rfl ?_
  obtain ⟨x1, ex1, hf⟩ := b_some hf
  refine aw_getI dX0_firstResult_4 gfX0_40 ex1 ?_
  obtain ⟨x2, ex2, hf⟩ := b_some hf
  refine aw_sald dX0_firstResult_7 rfl ex2 ?_
  have hq := Option.some.inj hf
  subst hq
  exact aw_iret hr dX0_firstResult_8 ⟨rfl, rfl, rfl⟩
theorem k_X0_firstResult {l0 : Nat} {h0 : Hp} {q : Int32 × Hp} (hf : f_X0_firstResult l0 h0 = some q) : ck h0 l0 0 = some () := by
  unfold f_X0_firstResult at hf
  obtain ⟨u0, e0, hf⟩ := b_some hf
  exact e0
theorem dX0_foe_0 : decode cX0_foe 0 = .ok (.aload_n 0, 1) := by decide +kernel
theorem dX0_foe_1 : decode cX0_foe 1 = .ok (.getfield 21, 3) := by decide +kernel
theorem dX0_foe_4 : decode cX0_foe 4 = .ok (.iload_n 1, 1) := by decide +kernel
theorem dX0_foe_5 : decode cX0_foe 5 = .ok (.iaload, 1) := by decide +kernel
theorem dX0_foe_6 : decode cX0_foe 6 = .ok (.iload_n 2, 1) := by decide +kernel
theorem dX0_foe_7 : decode cX0_foe 7 = .ok (.if_icmp .ne 10, 3) := by decide +kernel
theorem dX0_foe_10 : decode cX0_foe 10 = .ok (.aload_n 0, 1) := by decide +kernel
theorem dX0_foe_11 : decode cX0_foe 11 = .ok (.getfield 24, 3) := by decide +kernel
theorem dX0_foe_14 : decode cX0_foe 14 = .ok (.iload_n 1, 1) := by decide +kernel
theorem dX0_foe_15 : decode cX0_foe 15 = .ok (.iaload, 1) := by decide +kernel
theorem dX0_foe_16 : decode cX0_foe 16 = .ok (.ireturn, 1) := by decide +kernel
theorem dX0_foe_17 : decode cX0_foe 17 = .ok (.aload_n 0, 1) := by decide +kernel
theorem dX0_foe_18 : decode cX0_foe 18 = .ok (.getfield 24, 3) := by decide +kernel
theorem dX0_foe_21 : decode cX0_foe 21 = .ok (.iload_n 1, 1) := by decide +kernel
theorem dX0_foe_22 : decode cX0_foe 22 = .ok (.iaload, 1) := by decide +kernel
theorem dX0_foe_23 : decode cX0_foe 23 = .ok (.iload_n 2, 1) := by decide +kernel
theorem dX0_foe_24 : decode cX0_foe 24 = .ok (.if_icmp .ne 12, 3) := by decide +kernel
theorem dX0_foe_27 : decode cX0_foe 27 = .ok (.aload_n 0, 1) := by decide +kernel
theorem dX0_foe_28 : decode cX0_foe 28 = .ok (.getfield 21, 3) := by decide +kernel
theorem dX0_foe_31 : decode cX0_foe 31 = .ok (.iload_n 1, 1) := by decide +kernel
theorem dX0_foe_32 : decode cX0_foe 32 = .ok (.iaload, 1) := by decide +kernel
theorem dX0_foe_33 : decode cX0_foe 33 = .ok (.goto 4, 3) := by decide +kernel
theorem dX0_foe_36 : decode cX0_foe 36 = .ok (.iconst (-1), 1) := by decide +kernel
theorem dX0_foe_37 : decode cX0_foe 37 = .ok (.ireturn, 1) := by decide +kernel
def f_X0_foe (l0 : Nat) (l1 : Int32) (l2 : Int32) (h0 : Hp) : Option (Int32 × Hp) :=
  (ck h0 l0 0).bind fun _ => (gR h0 l0 0 6).bind fun r1 => (aL h0 r1 l1).bind fun x2 => if x2 = l2 then ((gR h0 l0 0 7).bind fun r9 => (aL h0 r9 l1).bind fun x10 => some (x10, h0)) else ((gR h0 l0 0 7).bind fun r4 => (aL h0 r4 l1).bind fun x5 => if x5 = l2 then ((gR h0 l0 0 6).bind fun r7 => (aL h0 r7 l1).bind fun x8 => some (x8, h0)) else (some ((-1 : Int32), h0)))
set_option maxRecDepth 100000 in
set_option maxHeartbeats 4000000 in
theorem c_X0_foe {l0 : Nat} {l1 : Int32} {l2 : Int32} {h0 : Hp} {q : Int32 × Hp} (hf : f_X0_foe l0 l1 l2 h0 = some q) : Mt 1 yX0_foe cX0_foe 3 (some .int) [.ref l0, .int l1, .int l2] h0 (some (.int q.1)) q.2 := by
  refine MtQ.of (by decide) (Nat.le_of_ble_eq_true rfl) (fun X adr hr hn => ?_)
  unfold f_X0_foe at hf
  show AW X cX0_foe 3 RX0 (rmd 1 0 0) (Qmet X 0 0 (Qe (some (.int q.1)) q.2 adr)) 0 0 adr h0 0 [(0, .ref l0), (1, .int l1), (2, .int l2)] []
  obtain ⟨u0, e0, hf⟩ := b_some hf
  refine aw_aload_n 0 dX0_foe_0 rfl rfl ?_
  obtain ⟨r1, er1, hf⟩ := b_some hf
  refine aw_getR dX0_foe_1 gfX0_21 er1 ?_
  refine aw_iload_n 1 dX0_foe_4 rfl rfl ?_
  obtain ⟨x2, ex2, hf⟩ := b_some hf
  refine aw_iald dX0_foe_5 ex2 ?_
  refine aw_iload_n 2 dX0_foe_6 rfl rfl ?_
  refine aw_icmp_ne (tgt := 17) dX0_foe_7 (by decide) (fun c3 => ?_) (fun c3 => ?_)
  · have hf := i_neg c3 hf
    refine aw_aload_n 0 dX0_foe_17 rfl rfl ?_
    obtain ⟨r4, er4, hf⟩ := b_some hf
    refine aw_getR dX0_foe_18 gfX0_24 er4 ?_
    refine aw_iload_n 1 dX0_foe_21 rfl rfl ?_
    obtain ⟨x5, ex5, hf⟩ := b_some hf
    refine aw_iald dX0_foe_22 ex5 ?_
    refine aw_iload_n 2 dX0_foe_23 rfl rfl ?_
    refine aw_icmp_ne (tgt := 36) dX0_foe_24 (by decide) (fun c6 => ?_) (fun c6 => ?_)
    · have hf := i_neg c6 hf
      refine aw_iconst (v := -1) dX0_foe_36 (by decide) ?_
      have hq := Option.some.inj hf
      subst hq
      exact aw_iret hr dX0_foe_37 ⟨rfl, rfl, rfl⟩
    · have hf := i_pos c6 hf
      refine aw_aload_n 0 dX0_foe_27 rfl rfl ?_
      obtain ⟨r7, er7, hf⟩ := b_some hf
      refine aw_getR dX0_foe_28 gfX0_21 er7 ?_
      refine aw_iload_n 1 dX0_foe_31 rfl rfl ?_
      obtain ⟨x8, ex8, hf⟩ := b_some hf
      refine aw_iald dX0_foe_32 ex8 ?_
      refine aw_goto (tgt := 37) dX0_foe_33 (by decide) ?_
      have hq := Option.some.inj hf
      subst hq
      exact aw_iret hr dX0_foe_37 ⟨rfl, rfl, rfl⟩
  · have hf := i_pos c3 hf
    refine aw_aload_n 0 dX0_foe_10 rfl rfl ?_
    obtain ⟨r9, er9, hf⟩ := b_some hf
    refine aw_getR dX0_foe_11 gfX0_24 er9 ?_
    refine aw_iload_n 1 dX0_foe_14 rfl rfl ?_
    obtain ⟨x10, ex10, hf⟩ := b_some hf
    refine aw_iald dX0_foe_15 ex10 ?_
    have hq := Option.some.inj hf
    subst hq
    exact aw_iret hr dX0_foe_16 ⟨rfl, rfl, rfl⟩
theorem k_X0_foe {l0 : Nat} {l1 : Int32} {l2 : Int32} {h0 : Hp} {q : Int32 × Hp} (hf : f_X0_foe l0 l1 l2 h0 = some q) : ck h0 l0 0 = some () := by
  unfold f_X0_foe at hf
  obtain ⟨u0, e0, hf⟩ := b_some hf
  exact e0
theorem dX0_forget_0 : decode cX0_forget 0 = .ok (.iconst 0, 1) := by decide +kernel
theorem dX0_forget_1 : decode cX0_forget 1 = .ok (.istore_n 2, 1) := by decide +kernel
theorem dX0_forget_2 : decode cX0_forget 2 = .ok (.iload_n 2, 1) := by decide +kernel
theorem dX0_forget_3 : decode cX0_forget 3 = .ok (.aload_n 0, 1) := by decide +kernel
theorem dX0_forget_4 : decode cX0_forget 4 = .ok (.getfield 37, 3) := by decide +kernel
theorem dX0_forget_7 : decode cX0_forget 7 = .ok (.if_icmp .ge 26, 3) := by decide +kernel
theorem dX0_forget_10 : decode cX0_forget 10 = .ok (.aload_n 0, 1) := by decide +kernel
theorem dX0_forget_11 : decode cX0_forget 11 = .ok (.getfield 27, 3) := by decide +kernel
theorem dX0_forget_14 : decode cX0_forget 14 = .ok (.iload_n 2, 1) := by decide +kernel
theorem dX0_forget_15 : decode cX0_forget 15 = .ok (.iaload, 1) := by decide +kernel
theorem dX0_forget_16 : decode cX0_forget 16 = .ok (.iload_n 1, 1) := by decide +kernel
theorem dX0_forget_17 : decode cX0_forget 17 = .ok (.if_icmp .le 10, 3) := by decide +kernel
theorem dX0_forget_20 : decode cX0_forget 20 = .ok (.aload_n 0, 1) := by decide +kernel
theorem dX0_forget_21 : decode cX0_forget 21 = .ok (.getfield 30, 3) := by decide +kernel
theorem dX0_forget_24 : decode cX0_forget 24 = .ok (.iload_n 2, 1) := by decide +kernel
theorem dX0_forget_25 : decode cX0_forget 25 = .ok (.iconst (-1), 1) := by decide +kernel
theorem dX0_forget_26 : decode cX0_forget 26 = .ok (.iastore, 1) := by decide +kernel
theorem dX0_forget_27 : decode cX0_forget 27 = .ok (.iinc 2 1, 3) := by decide +kernel
theorem dX0_forget_30 : decode cX0_forget 30 = .ok (.goto (-28), 3) := by decide +kernel
theorem dX0_forget_33 : decode cX0_forget 33 = .ok (.return_, 1) := by decide +kernel
def f_X0_forget_2 (k2 : Nat × Int32 × Int32 → Hp → Option (Unit × Hp)) (v : Nat × Int32 × Int32) (h0 : Hp) : Option (Unit × Hp) :=
  match v with
  | (l0, l1, l2) => (gI h0 l0 0 1).bind fun x1 => if x1 ≤ l2 then (some ((), h0)) else ((gR h0 l0 0 8).bind fun r3 => (aL h0 r3 l2).bind fun x4 => if x4 ≤ l1 then ((some (l2 + 1)).bind fun x6 => k2 (l0, l1, x6) h0) else ((gR h0 l0 0 9).bind fun r7 => (aS h0 r7 l2 (-1 : Int32)).bind fun h8 => (some (l2 + 1)).bind fun x9 => k2 (l0, l1, x9) h8))
set_option maxRecDepth 100000 in
set_option maxHeartbeats 4000000 in
theorem c_X0_forget_2 {X : Cx} {adr : Nat → Nat} {q : Unit × Hp} (hr : (mth X).sig.returnType = none) (n : Nat) : ∀ v h0, lp (f_X0_forget_2) n v h0 = some q → AW X cX0_forget 3 RX0 (rmd 1 0 0) (Qmet X 0 0 (Qe none q.2 adr)) 0 0 adr h0 2 [(0, .ref v.1), (1, .int v.2.1), (2, .int v.2.2)] [] := by
  refine aw_lp (fun k2 hk2 v h0 hf => ?_) n
  obtain ⟨l0, l1, l2⟩ := v
  unfold f_X0_forget_2 at hf
  dsimp only at hf
  show AW X cX0_forget 3 RX0 (rmd 1 0 0) (Qmet X 0 0 (Qe none q.2 adr)) 0 0 adr h0 2 [(0, .ref l0), (1, .int l1), (2, .int l2)] []
  refine aw_iload_n 2 dX0_forget_2 rfl rfl ?_
  refine aw_aload_n 0 dX0_forget_3 rfl rfl ?_
  obtain ⟨x1, ex1, hf⟩ := b_some hf
  refine aw_getI dX0_forget_4 gfX0_37 ex1 ?_
  refine aw_icmp_ge (tgt := 33) dX0_forget_7 (by decide) (fun c2 => ?_) (fun c2 => ?_)
  · have hf := i_pos c2 hf
    have hq := Option.some.inj hf
    subst hq
    exact aw_vret hr dX0_forget_33 ⟨rfl, rfl, rfl⟩
  · have hf := i_neg c2 hf
    refine aw_aload_n 0 dX0_forget_10 rfl rfl ?_
    obtain ⟨r3, er3, hf⟩ := b_some hf
    refine aw_getR dX0_forget_11 gfX0_27 er3 ?_
    refine aw_iload_n 2 dX0_forget_14 rfl rfl ?_
    obtain ⟨x4, ex4, hf⟩ := b_some hf
    refine aw_iald dX0_forget_15 ex4 ?_
    refine aw_iload_n 1 dX0_forget_16 rfl rfl ?_
    refine aw_icmp_le (tgt := 27) dX0_forget_17 (by decide) (fun c5 => ?_) (fun c5 => ?_)
    · have hf := i_pos c5 hf
      obtain ⟨x6, ex6, hf⟩ := b_some hf
      refine aw_iinc (v := x6) (L' := [(2, .int x6), (0, .ref l0), (1, .int l1)]) 2 dX0_forget_27 rfl (Option.some.inj ex6) (by decide) rfl ?_
      refine aw_goto (tgt := 2) dX0_forget_30 (by decide) ?_
      exact aw_sub [1, 2, 0] rfl (hk2 _ _ hf)
    · have hf := i_neg c5 hf
      refine aw_aload_n 0 dX0_forget_20 rfl rfl ?_
      obtain ⟨r7, er7, hf⟩ := b_some hf
      refine aw_getR dX0_forget_21 gfX0_30 er7 ?_
      refine aw_iload_n 2 dX0_forget_24 rfl rfl ?_
      refine aw_iconst (v := -1) dX0_forget_25 (by decide) ?_
      obtain ⟨h8, eh8, hf⟩ := b_some hf
      refine aw_iast dX0_forget_26 eh8 ?_
      obtain ⟨x9, ex9, hf⟩ := b_some hf
      refine aw_iinc (v := x9) (L' := [(2, .int x9), (0, .ref l0), (1, .int l1)]) 2 dX0_forget_27 rfl (Option.some.inj ex9) (by decide) rfl ?_
      refine aw_goto (tgt := 2) dX0_forget_30 (by decide) ?_
      exact aw_sub [1, 2, 0] rfl (hk2 _ _ hf)
def f_X0_forget (l0 : Nat) (l1 : Int32) (h0 : Hp) : Option (Unit × Hp) :=
  (ck h0 l0 0).bind fun _ => lp (f_X0_forget_2) 600 (l0, l1, (0 : Int32)) h0
set_option maxRecDepth 100000 in
set_option maxHeartbeats 4000000 in
theorem c_X0_forget {l0 : Nat} {l1 : Int32} {h0 : Hp} {q : Unit × Hp} (hf : f_X0_forget l0 l1 h0 = some q) : Mt 1 yX0_forget cX0_forget 3 none [.ref l0, .int l1] h0 none q.2 := by
  refine MtQ.of (by decide) (Nat.le_of_ble_eq_true rfl) (fun X adr hr hn => ?_)
  unfold f_X0_forget at hf
  show AW X cX0_forget 3 RX0 (rmd 1 0 0) (Qmet X 0 0 (Qe none q.2 adr)) 0 0 adr h0 0 [(0, .ref l0), (1, .int l1)] []
  obtain ⟨u0, e0, hf⟩ := b_some hf
  refine aw_iconst (v := 0) dX0_forget_0 (by decide) ?_
  refine aw_istore_n (L' := [(2, .int (0 : Int32)), (0, .ref l0), (1, .int l1)]) dX0_forget_1 rfl (by decide) rfl ?_
  exact aw_sub [1, 2, 0] rfl (c_X0_forget_2 hr 600 _ _ hf)
theorem k_X0_forget {l0 : Nat} {l1 : Int32} {h0 : Hp} {q : Unit × Hp} (hf : f_X0_forget l0 l1 h0 = some q) : ck h0 l0 0 = some () := by
  unfold f_X0_forget at hf
  obtain ⟨u0, e0, hf⟩ := b_some hf
  exact e0
theorem dX0_hasGame_0 : decode cX0_hasGame 0 = .ok (.iload_n 1, 1) := by decide +kernel
theorem dX0_hasGame_1 : decode cX0_hasGame 1 = .ok (.ifCond .lt 15, 3) := by decide +kernel
theorem dX0_hasGame_4 : decode cX0_hasGame 4 = .ok (.iload_n 1, 1) := by decide +kernel
theorem dX0_hasGame_5 : decode cX0_hasGame 5 = .ok (.aload_n 0, 1) := by decide +kernel
theorem dX0_hasGame_6 : decode cX0_hasGame 6 = .ok (.getfield 37, 3) := by decide +kernel
theorem dX0_hasGame_9 : decode cX0_hasGame 9 = .ok (.if_icmp .ge 7, 3) := by decide +kernel
theorem dX0_hasGame_12 : decode cX0_hasGame 12 = .ok (.iconst 1, 1) := by decide +kernel
theorem dX0_hasGame_13 : decode cX0_hasGame 13 = .ok (.goto 4, 3) := by decide +kernel
theorem dX0_hasGame_16 : decode cX0_hasGame 16 = .ok (.iconst 0, 1) := by decide +kernel
theorem dX0_hasGame_17 : decode cX0_hasGame 17 = .ok (.ireturn, 1) := by decide +kernel
def f_X0_hasGame (l0 : Nat) (l1 : Int32) (h0 : Hp) : Option (Int32 × Hp) :=
  (ck h0 l0 0).bind fun _ => if l1 < 0 then (some ((0 : Int32), h0)) else ((gI h0 l0 0 1).bind fun x2 => if x2 ≤ l1 then (some ((0 : Int32), h0)) else (some ((1 : Int32), h0)))
set_option maxRecDepth 100000 in
set_option maxHeartbeats 4000000 in
theorem c_X0_hasGame {l0 : Nat} {l1 : Int32} {h0 : Hp} {q : Int32 × Hp} (hf : f_X0_hasGame l0 l1 h0 = some q) : Mt 1 yX0_hasGame cX0_hasGame 2 (some .boolean) [.ref l0, .int l1] h0 (some (.int q.1)) q.2 := by
  refine MtQ.of (by decide) (Nat.le_of_ble_eq_true rfl) (fun X adr hr hn => ?_)
  unfold f_X0_hasGame at hf
  show AW X cX0_hasGame 2 RX0 (rmd 1 0 0) (Qmet X 0 0 (Qe (some (.int q.1)) q.2 adr)) 0 0 adr h0 0 [(0, .ref l0), (1, .int l1)] []
  obtain ⟨u0, e0, hf⟩ := b_some hf
  refine aw_iload_n 1 dX0_hasGame_0 rfl rfl ?_
  refine aw_if_lt (tgt := 16) dX0_hasGame_1 (by decide) (fun c1 => ?_) (fun c1 => ?_)
  · have hf := i_pos c1 hf
    refine aw_iconst (v := 0) dX0_hasGame_16 (by decide) ?_
    have hq := Option.some.inj hf
    subst hq
    exact aw_zret hr (by decide) dX0_hasGame_17 ⟨rfl, rfl, rfl⟩
  · have hf := i_neg c1 hf
    refine aw_iload_n 1 dX0_hasGame_4 rfl rfl ?_
    refine aw_aload_n 0 dX0_hasGame_5 rfl rfl ?_
    obtain ⟨x2, ex2, hf⟩ := b_some hf
    refine aw_getI dX0_hasGame_6 gfX0_37 ex2 ?_
    refine aw_icmp_ge (tgt := 16) dX0_hasGame_9 (by decide) (fun c3 => ?_) (fun c3 => ?_)
    · have hf := i_pos c3 hf
      refine aw_iconst (v := 0) dX0_hasGame_16 (by decide) ?_
      have hq := Option.some.inj hf
      subst hq
      exact aw_zret hr (by decide) dX0_hasGame_17 ⟨rfl, rfl, rfl⟩
    · have hf := i_neg c3 hf
      refine aw_iconst (v := 1) dX0_hasGame_12 (by decide) ?_
      refine aw_goto (tgt := 17) dX0_hasGame_13 (by decide) ?_
      have hq := Option.some.inj hf
      subst hq
      exact aw_zret hr (by decide) dX0_hasGame_17 ⟨rfl, rfl, rfl⟩
theorem k_X0_hasGame {l0 : Nat} {l1 : Int32} {h0 : Hp} {q : Int32 × Hp} (hf : f_X0_hasGame l0 l1 h0 = some q) : ck h0 l0 0 = some () := by
  unfold f_X0_hasGame at hf
  obtain ⟨u0, e0, hf⟩ := b_some hf
  exact e0
theorem dX0_isLeft_0 : decode cX0_isLeft 0 = .ok (.aload_n 0, 1) := by decide +kernel
theorem dX0_isLeft_1 : decode cX0_isLeft 1 = .ok (.getfield 30, 3) := by decide +kernel
theorem dX0_isLeft_4 : decode cX0_isLeft 4 = .ok (.iload_n 1, 1) := by decide +kernel
theorem dX0_isLeft_5 : decode cX0_isLeft 5 = .ok (.iaload, 1) := by decide +kernel
theorem dX0_isLeft_6 : decode cX0_isLeft 6 = .ok (.iconst (-1), 1) := by decide +kernel
theorem dX0_isLeft_7 : decode cX0_isLeft 7 = .ok (.if_icmp .ne 7, 3) := by decide +kernel
theorem dX0_isLeft_10 : decode cX0_isLeft 10 = .ok (.iconst 1, 1) := by decide +kernel
theorem dX0_isLeft_11 : decode cX0_isLeft 11 = .ok (.goto 4, 3) := by decide +kernel
theorem dX0_isLeft_14 : decode cX0_isLeft 14 = .ok (.iconst 0, 1) := by decide +kernel
theorem dX0_isLeft_15 : decode cX0_isLeft 15 = .ok (.ireturn, 1) := by decide +kernel
def f_X0_isLeft (l0 : Nat) (l1 : Int32) (h0 : Hp) : Option (Int32 × Hp) :=
  (ck h0 l0 0).bind fun _ => (gR h0 l0 0 9).bind fun r1 => (aL h0 r1 l1).bind fun x2 => if x2 = (-1 : Int32) then (some ((1 : Int32), h0)) else (some ((0 : Int32), h0))
set_option maxRecDepth 100000 in
set_option maxHeartbeats 4000000 in
theorem c_X0_isLeft {l0 : Nat} {l1 : Int32} {h0 : Hp} {q : Int32 × Hp} (hf : f_X0_isLeft l0 l1 h0 = some q) : Mt 1 yX0_isLeft cX0_isLeft 2 (some .boolean) [.ref l0, .int l1] h0 (some (.int q.1)) q.2 := by
  refine MtQ.of (by decide) (Nat.le_of_ble_eq_true rfl) (fun X adr hr hn => ?_)
  unfold f_X0_isLeft at hf
  show AW X cX0_isLeft 2 RX0 (rmd 1 0 0) (Qmet X 0 0 (Qe (some (.int q.1)) q.2 adr)) 0 0 adr h0 0 [(0, .ref l0), (1, .int l1)] []
  obtain ⟨u0, e0, hf⟩ := b_some hf
  refine aw_aload_n 0 dX0_isLeft_0 rfl rfl ?_
  obtain ⟨r1, er1, hf⟩ := b_some hf
  refine aw_getR dX0_isLeft_1 gfX0_30 er1 ?_
  refine aw_iload_n 1 dX0_isLeft_4 rfl rfl ?_
  obtain ⟨x2, ex2, hf⟩ := b_some hf
  refine aw_iald dX0_isLeft_5 ex2 ?_
  refine aw_iconst (v := -1) dX0_isLeft_6 (by decide) ?_
  refine aw_icmp_ne (tgt := 14) dX0_isLeft_7 (by decide) (fun c3 => ?_) (fun c3 => ?_)
  · have hf := i_neg c3 hf
    refine aw_iconst (v := 0) dX0_isLeft_14 (by decide) ?_
    have hq := Option.some.inj hf
    subst hq
    exact aw_zret hr (by decide) dX0_isLeft_15 ⟨rfl, rfl, rfl⟩
  · have hf := i_pos c3 hf
    refine aw_iconst (v := 1) dX0_isLeft_10 (by decide) ?_
    refine aw_goto (tgt := 15) dX0_isLeft_11 (by decide) ?_
    have hq := Option.some.inj hf
    subst hq
    exact aw_zret hr (by decide) dX0_isLeft_15 ⟨rfl, rfl, rfl⟩
theorem k_X0_isLeft {l0 : Nat} {l1 : Int32} {h0 : Hp} {q : Int32 × Hp} (hf : f_X0_isLeft l0 l1 h0 = some q) : ck h0 l0 0 = some () := by
  unfold f_X0_isLeft at hf
  obtain ⟨u0, e0, hf⟩ := b_some hf
  exact e0
theorem dX0_isNamed_0 : decode cX0_isNamed 0 = .ok (.aload_n 0, 1) := by decide +kernel
theorem dX0_isNamed_1 : decode cX0_isNamed 1 = .ok (.getfield 15, 3) := by decide +kernel
theorem dX0_isNamed_4 : decode cX0_isNamed 4 = .ok (.iload_n 1, 1) := by decide +kernel
theorem dX0_isNamed_5 : decode cX0_isNamed 5 = .ok (.iaload, 1) := by decide +kernel
theorem dX0_isNamed_6 : decode cX0_isNamed 6 = .ok (.iload 4, 2) := by decide +kernel
theorem dX0_isNamed_8 : decode cX0_isNamed 8 = .ok (.iload_n 3, 1) := by decide +kernel
theorem dX0_isNamed_9 : decode cX0_isNamed 9 = .ok (.isub, 1) := by decide +kernel
theorem dX0_isNamed_10 : decode cX0_isNamed 10 = .ok (.if_icmp .eq 5, 3) := by decide +kernel
theorem dX0_isNamed_13 : decode cX0_isNamed 13 = .ok (.iconst 0, 1) := by decide +kernel
theorem dX0_isNamed_14 : decode cX0_isNamed 14 = .ok (.ireturn, 1) := by decide +kernel
theorem dX0_isNamed_15 : decode cX0_isNamed 15 = .ok (.iconst 0, 1) := by decide +kernel
theorem dX0_isNamed_16 : decode cX0_isNamed 16 = .ok (.istore 5, 2) := by decide +kernel
theorem dX0_isNamed_18 : decode cX0_isNamed 18 = .ok (.iload 5, 2) := by decide +kernel
theorem dX0_isNamed_20 : decode cX0_isNamed 20 = .ok (.aload_n 0, 1) := by decide +kernel
theorem dX0_isNamed_21 : decode cX0_isNamed 21 = .ok (.getfield 15, 3) := by decide +kernel
theorem dX0_isNamed_24 : decode cX0_isNamed 24 = .ok (.iload_n 1, 1) := by decide +kernel
theorem dX0_isNamed_25 : decode cX0_isNamed 25 = .ok (.iaload, 1) := by decide +kernel
theorem dX0_isNamed_26 : decode cX0_isNamed 26 = .ok (.if_icmp .ge 32, 3) := by decide +kernel
theorem dX0_isNamed_29 : decode cX0_isNamed 29 = .ok (.aload_n 0, 1) := by decide +kernel
theorem dX0_isNamed_30 : decode cX0_isNamed 30 = .ok (.getfield 18, 3) := by decide +kernel
theorem dX0_isNamed_33 : decode cX0_isNamed 33 = .ok (.iload_n 1, 1) := by decide +kernel
theorem dX0_isNamed_34 : decode cX0_isNamed 34 = .ok (.bipush 6, 2) := by decide +kernel
theorem dX0_isNamed_36 : decode cX0_isNamed 36 = .ok (.imul, 1) := by decide +kernel
theorem dX0_isNamed_37 : decode cX0_isNamed 37 = .ok (.iload 5, 2) := by decide +kernel
theorem dX0_isNamed_39 : decode cX0_isNamed 39 = .ok (.iadd, 1) := by decide +kernel
theorem dX0_isNamed_40 : decode cX0_isNamed 40 = .ok (.iaload, 1) := by decide +kernel
theorem dX0_isNamed_41 : decode cX0_isNamed 41 = .ok (.aload_n 2, 1) := by decide +kernel
theorem dX0_isNamed_42 : decode cX0_isNamed 42 = .ok (.iload_n 3, 1) := by decide +kernel
theorem dX0_isNamed_43 : decode cX0_isNamed 43 = .ok (.iload 5, 2) := by decide +kernel
theorem dX0_isNamed_45 : decode cX0_isNamed 45 = .ok (.iadd, 1) := by decide +kernel
theorem dX0_isNamed_46 : decode cX0_isNamed 46 = .ok (.iaload, 1) := by decide +kernel
theorem dX0_isNamed_47 : decode cX0_isNamed 47 = .ok (.if_icmp .eq 5, 3) := by decide +kernel
theorem dX0_isNamed_50 : decode cX0_isNamed 50 = .ok (.iconst 0, 1) := by decide +kernel
theorem dX0_isNamed_51 : decode cX0_isNamed 51 = .ok (.ireturn, 1) := by decide +kernel
theorem dX0_isNamed_52 : decode cX0_isNamed 52 = .ok (.iinc 5 1, 3) := by decide +kernel
theorem dX0_isNamed_55 : decode cX0_isNamed 55 = .ok (.goto (-37), 3) := by decide +kernel
theorem dX0_isNamed_58 : decode cX0_isNamed 58 = .ok (.iconst 1, 1) := by decide +kernel
theorem dX0_isNamed_59 : decode cX0_isNamed 59 = .ok (.ireturn, 1) := by decide +kernel
def f_X0_isNamed_18 (k18 : Nat × Int32 × Nat × Int32 × Int32 → Hp → Option (Int32 × Hp)) (v : Nat × Int32 × Nat × Int32 × Int32) (h0 : Hp) : Option (Int32 × Hp) :=
  match v with
  | (l0, l1, l2, l3, l5) => (gR h0 l0 0 4).bind fun r1 => (aL h0 r1 l1).bind fun x2 => if x2 ≤ l5 then (some ((1 : Int32), h0)) else ((gR h0 l0 0 5).bind fun r4 => (aL h0 r4 ((l1 * (6 : Int32)) + l5)).bind fun x5 => (aL h0 l2 (l3 + l5)).bind fun x6 => if x5 = x6 then ((some (l5 + 1)).bind fun x8 => k18 (l0, l1, l2, l3, x8) h0) else (some ((0 : Int32), h0)))
set_option maxRecDepth 100000 in
set_option maxHeartbeats 4000000 in
theorem c_X0_isNamed_18 {X : Cx} {adr : Nat → Nat} {q : Int32 × Hp} (hr : (mth X).sig.returnType = (some .boolean)) (n : Nat) : ∀ v h0, lp (f_X0_isNamed_18) n v h0 = some q → AW X cX0_isNamed 6 RX0 (rmd 1 0 0) (Qmet X 0 0 (Qe (some (.int q.1)) q.2 adr)) 0 0 adr h0 18 [(0, .ref v.1), (1, .int v.2.1), (2, .ref v.2.2.1), (3, .int v.2.2.2.1), (5, .int v.2.2.2.2)] [] := by
  refine aw_lp (fun k18 hk18 v h0 hf => ?_) n
  obtain ⟨l0, l1, l2, l3, l5⟩ := v
  unfold f_X0_isNamed_18 at hf
  dsimp only at hf
  show AW X cX0_isNamed 6 RX0 (rmd 1 0 0) (Qmet X 0 0 (Qe (some (.int q.1)) q.2 adr)) 0 0 adr h0 18 [(0, .ref l0), (1, .int l1), (2, .ref l2), (3, .int l3), (5, .int l5)] []
  refine aw_iload 4 dX0_isNamed_18 rfl ?_
  refine aw_aload_n 0 dX0_isNamed_20 rfl rfl ?_
  obtain ⟨r1, er1, hf⟩ := b_some hf
  refine aw_getR dX0_isNamed_21 gfX0_15 er1 ?_
  refine aw_iload_n 1 dX0_isNamed_24 rfl rfl ?_
  obtain ⟨x2, ex2, hf⟩ := b_some hf
  refine aw_iald dX0_isNamed_25 ex2 ?_
  refine aw_icmp_ge (tgt := 58) dX0_isNamed_26 (by decide) (fun c3 => ?_) (fun c3 => ?_)
  · have hf := i_pos c3 hf
    refine aw_iconst (v := 1) dX0_isNamed_58 (by decide) ?_
    have hq := Option.some.inj hf
    subst hq
    exact aw_zret hr (by decide) dX0_isNamed_59 ⟨rfl, rfl, rfl⟩
  · have hf := i_neg c3 hf
    refine aw_aload_n 0 dX0_isNamed_29 rfl rfl ?_
    obtain ⟨r4, er4, hf⟩ := b_some hf
    refine aw_getR dX0_isNamed_30 gfX0_18 er4 ?_
    refine aw_iload_n 1 dX0_isNamed_33 rfl rfl ?_
    refine aw_bipush (v := 6) dX0_isNamed_34 (by decide) ?_
    refine aw_imul dX0_isNamed_36 ?_
    refine aw_iload 4 dX0_isNamed_37 rfl ?_
    refine aw_iadd dX0_isNamed_39 ?_
    obtain ⟨x5, ex5, hf⟩ := b_some hf
    refine aw_iald dX0_isNamed_40 ex5 ?_
    refine aw_aload_n 2 dX0_isNamed_41 rfl rfl ?_
    refine aw_iload_n 3 dX0_isNamed_42 rfl rfl ?_
    refine aw_iload 4 dX0_isNamed_43 rfl ?_
    refine aw_iadd dX0_isNamed_45 ?_
    obtain ⟨x6, ex6, hf⟩ := b_some hf
    refine aw_iald dX0_isNamed_46 ex6 ?_
    refine aw_icmp_eq (tgt := 52) dX0_isNamed_47 (by decide) (fun c7 => ?_) (fun c7 => ?_)
    · have hf := i_pos c7 hf
      obtain ⟨x8, ex8, hf⟩ := b_some hf
      refine aw_iinc (v := x8) (L' := [(5, .int x8), (0, .ref l0), (1, .int l1), (2, .ref l2), (3, .int l3)]) 4 dX0_isNamed_52 rfl (Option.some.inj ex8) (by decide) rfl ?_
      refine aw_goto (tgt := 18) dX0_isNamed_55 (by decide) ?_
      exact aw_sub [1, 2, 3, 4, 0] rfl (hk18 _ _ hf)
    · have hf := i_neg c7 hf
      refine aw_iconst (v := 0) dX0_isNamed_50 (by decide) ?_
      have hq := Option.some.inj hf
      subst hq
      exact aw_zret hr (by decide) dX0_isNamed_51 ⟨rfl, rfl, rfl⟩
def f_X0_isNamed (l0 : Nat) (l1 : Int32) (l2 : Nat) (l3 : Int32) (l4 : Int32) (h0 : Hp) : Option (Int32 × Hp) :=
  (ck h0 l0 0).bind fun _ => (gR h0 l0 0 4).bind fun r1 => (aL h0 r1 l1).bind fun x2 => if x2 = (l4 - l3) then (lp (f_X0_isNamed_18) 600 (l0, l1, l2, l3, (0 : Int32)) h0) else (some ((0 : Int32), h0))
set_option maxRecDepth 100000 in
set_option maxHeartbeats 4000000 in
theorem c_X0_isNamed {l0 : Nat} {l1 : Int32} {l2 : Nat} {l3 : Int32} {l4 : Int32} {h0 : Hp} {q : Int32 × Hp} (hf : f_X0_isNamed l0 l1 l2 l3 l4 h0 = some q) : Mt 1 yX0_isNamed cX0_isNamed 6 (some .boolean) [.ref l0, .int l1, .ref l2, .int l3, .int l4] h0 (some (.int q.1)) q.2 := by
  refine MtQ.of (by decide) (Nat.le_of_ble_eq_true rfl) (fun X adr hr hn => ?_)
  unfold f_X0_isNamed at hf
  show AW X cX0_isNamed 6 RX0 (rmd 1 0 0) (Qmet X 0 0 (Qe (some (.int q.1)) q.2 adr)) 0 0 adr h0 0 [(0, .ref l0), (1, .int l1), (2, .ref l2), (3, .int l3), (4, .int l4)] []
  obtain ⟨u0, e0, hf⟩ := b_some hf
  refine aw_aload_n 0 dX0_isNamed_0 rfl rfl ?_
  obtain ⟨r1, er1, hf⟩ := b_some hf
  refine aw_getR dX0_isNamed_1 gfX0_15 er1 ?_
  refine aw_iload_n 1 dX0_isNamed_4 rfl rfl ?_
  obtain ⟨x2, ex2, hf⟩ := b_some hf
  refine aw_iald dX0_isNamed_5 ex2 ?_
  refine aw_iload 4 dX0_isNamed_6 rfl ?_
  refine aw_iload_n 3 dX0_isNamed_8 rfl rfl ?_
  refine aw_isub dX0_isNamed_9 ?_
  refine aw_icmp_eq (tgt := 15) dX0_isNamed_10 (by decide) (fun c3 => ?_) (fun c3 => ?_)
  · have hf := i_pos c3 hf
    refine aw_iconst (v := 0) dX0_isNamed_15 (by decide) ?_
    refine aw_istore (L' := [(5, .int (0 : Int32)), (0, .ref l0), (1, .int l1), (2, .ref l2), (3, .int l3), (4, .int l4)]) dX0_isNamed_16 (by decide) rfl ?_
    exact aw_sub [1, 2, 3, 4, 0] rfl (c_X0_isNamed_18 hr 600 _ _ hf)
  · have hf := i_neg c3 hf
    refine aw_iconst (v := 0) dX0_isNamed_13 (by decide) ?_
    have hq := Option.some.inj hf
    subst hq
    exact aw_zret hr (by decide) dX0_isNamed_14 ⟨rfl, rfl, rfl⟩
theorem k_X0_isNamed {l0 : Nat} {l1 : Int32} {l2 : Nat} {l3 : Int32} {l4 : Int32} {h0 : Hp} {q : Int32 × Hp} (hf : f_X0_isNamed l0 l1 l2 l3 l4 h0 = some q) : ck h0 l0 0 = some () := by
  unfold f_X0_isNamed at hf
  obtain ⟨u0, e0, hf⟩ := b_some hf
  exact e0
theorem dX0_leastGiven_0 : decode cX0_leastGiven 0 = .ok (.getstatic 55, 3) := by decide +kernel
theorem dX0_leastGiven_3 : decode cX0_leastGiven 3 = .ok (.aload_n 0, 1) := by decide +kernel
theorem dX0_leastGiven_4 : decode cX0_leastGiven 4 = .ok (.getfield 40, 3) := by decide +kernel
theorem dX0_leastGiven_7 : decode cX0_leastGiven 7 = .ok (.iaload, 1) := by decide +kernel
theorem dX0_leastGiven_8 : decode cX0_leastGiven 8 = .ok (.ireturn, 1) := by decide +kernel
def f_X0_leastGiven (l0 : Nat) (h0 : Hp) : Option (Int32 × Hp) :=
  (ck h0 l0 0).bind fun _ => (gI h0 l0 0 2).bind fun x1 => (sT 2 x1).bind fun x2 => some (x2, h0)
set_option maxRecDepth 100000 in
set_option maxHeartbeats 4000000 in
theorem c_X0_leastGiven {l0 : Nat} {h0 : Hp} {q : Int32 × Hp} (hf : f_X0_leastGiven l0 h0 = some q) : Mt 1 yX0_leastGiven cX0_leastGiven 1 (some .int) [.ref l0] h0 (some (.int q.1)) q.2 := by
  refine MtQ.of (by decide) (Nat.le_of_ble_eq_true rfl) (fun X adr hr hn => ?_)
  unfold f_X0_leastGiven at hf
  show AW X cX0_leastGiven 1 RX0 (rmd 1 0 0) (Qmet X 0 0 (Qe (some (.int q.1)) q.2 adr)) 0 0 adr h0 0 [(0, .ref l0)] []
  obtain ⟨u0, e0, hf⟩ := b_some hf
  refine aw_gets (q := 2) dX0_leastGiven_0 kfX0_55 rfl ?_
  refine aw_aload_n 0 dX0_leastGiven_3 rfl rfl ?_
  obtain ⟨x1, ex1, hf⟩ := b_some hf
  refine aw_getI dX0_leastGiven_4 gfX0_40 ex1 ?_
  obtain ⟨x2, ex2, hf⟩ := b_some hf
  refine aw_sald dX0_leastGiven_7 rfl ex2 ?_
  have hq := Option.some.inj hf
  subst hq
  exact aw_iret hr dX0_leastGiven_8 ⟨rfl, rfl, rfl⟩
theorem k_X0_leastGiven {l0 : Nat} {h0 : Hp} {q : Int32 × Hp} (hf : f_X0_leastGiven l0 h0 = some q) : ck h0 l0 0 = some () := by
  unfold f_X0_leastGiven at hf
  obtain ⟨u0, e0, hf⟩ := b_some hf
  exact e0
theorem dX0_left_0 : decode cX0_left 0 = .ok (.iconst 0, 1) := by decide +kernel
theorem dX0_left_1 : decode cX0_left 1 = .ok (.istore_n 1, 1) := by decide +kernel
theorem dX0_left_2 : decode cX0_left 2 = .ok (.iconst 0, 1) := by decide +kernel
theorem dX0_left_3 : decode cX0_left 3 = .ok (.istore_n 2, 1) := by decide +kernel
theorem dX0_left_4 : decode cX0_left 4 = .ok (.iload_n 2, 1) := by decide +kernel
theorem dX0_left_5 : decode cX0_left 5 = .ok (.aload_n 0, 1) := by decide +kernel
theorem dX0_left_6 : decode cX0_left 6 = .ok (.getfield 37, 3) := by decide +kernel
theorem dX0_left_9 : decode cX0_left 9 = .ok (.if_icmp .ge 23, 3) := by decide +kernel
theorem dX0_left_12 : decode cX0_left 12 = .ok (.aload_n 0, 1) := by decide +kernel
theorem dX0_left_13 : decode cX0_left 13 = .ok (.iload_n 2, 1) := by decide +kernel
theorem dX0_left_14 : decode cX0_left 14 = .ok (.invokevirtual 69, 3) := by decide +kernel
theorem dX0_left_17 : decode cX0_left 17 = .ok (.ifCond .eq 9, 3) := by decide +kernel
theorem dX0_left_20 : decode cX0_left 20 = .ok (.iload_n 1, 1) := by decide +kernel
theorem dX0_left_21 : decode cX0_left 21 = .ok (.iconst 1, 1) := by decide +kernel
theorem dX0_left_22 : decode cX0_left 22 = .ok (.iload_n 2, 1) := by decide +kernel
theorem dX0_left_23 : decode cX0_left 23 = .ok (.ishl, 1) := by decide +kernel
theorem dX0_left_24 : decode cX0_left 24 = .ok (.ior, 1) := by decide +kernel
theorem dX0_left_25 : decode cX0_left 25 = .ok (.istore_n 1, 1) := by decide +kernel
theorem dX0_left_26 : decode cX0_left 26 = .ok (.iinc 2 1, 3) := by decide +kernel
theorem dX0_left_29 : decode cX0_left 29 = .ok (.goto (-25), 3) := by decide +kernel
theorem dX0_left_32 : decode cX0_left 32 = .ok (.iload_n 1, 1) := by decide +kernel
theorem dX0_left_33 : decode cX0_left 33 = .ok (.ireturn, 1) := by decide +kernel
def f_X0_left_4 (k4 : Nat × Int32 × Int32 → Hp → Option (Int32 × Hp)) (v : Nat × Int32 × Int32) (h0 : Hp) : Option (Int32 × Hp) :=
  match v with
  | (l0, l1, l2) => (gI h0 l0 0 1).bind fun x1 => if x1 ≤ l2 then (some (l1, h0)) else ((f_X0_isLeft l0 l2 h0).bind fun q3 => if q3.1 = 0 then ((some (l2 + 1)).bind fun x5 => k4 (l0, l1, x5) q3.2) else ((some (l1 ||| ((1 : Int32) <<< (l2 &&& 31)))).bind fun x6 => (some (l2 + 1)).bind fun x7 => k4 (l0, x6, x7) q3.2))
set_option maxRecDepth 100000 in
set_option maxHeartbeats 4000000 in
theorem c_X0_left_4 {X : Cx} {adr : Nat → Nat} {q : Int32 × Hp} (hr : (mth X).sig.returnType = (some .int)) (n : Nat) : ∀ v h0, lp (f_X0_left_4) n v h0 = some q → AW X cX0_left 3 RX0 (rmd 2 0 0) (Qmet X 0 0 (Qe (some (.int q.1)) q.2 adr)) 0 0 adr h0 4 [(0, .ref v.1), (1, .int v.2.1), (2, .int v.2.2)] [] := by
  refine aw_lp (fun k4 hk4 v h0 hf => ?_) n
  obtain ⟨l0, l1, l2⟩ := v
  unfold f_X0_left_4 at hf
  dsimp only at hf
  show AW X cX0_left 3 RX0 (rmd 2 0 0) (Qmet X 0 0 (Qe (some (.int q.1)) q.2 adr)) 0 0 adr h0 4 [(0, .ref l0), (1, .int l1), (2, .int l2)] []
  refine aw_iload_n 2 dX0_left_4 rfl rfl ?_
  refine aw_aload_n 0 dX0_left_5 rfl rfl ?_
  obtain ⟨x1, ex1, hf⟩ := b_some hf
  refine aw_getI dX0_left_6 gfX0_37 ex1 ?_
  refine aw_icmp_ge (tgt := 32) dX0_left_9 (by decide) (fun c2 => ?_) (fun c2 => ?_)
  · have hf := i_pos c2 hf
    refine aw_iload_n 1 dX0_left_32 rfl rfl ?_
    have hq := Option.some.inj hf
    subst hq
    exact aw_iret hr dX0_left_33 ⟨rfl, rfl, rfl⟩
  · have hf := i_neg c2 hf
    refine aw_aload_n 0 dX0_left_12 rfl rfl ?_
    refine aw_iload_n 2 dX0_left_13 rfl rfl ?_
    obtain ⟨q3, eq3, hf⟩ := b_some hf
    refine aw_cV (as := [.int l2]) dX0_left_14 moX0_isLeft voX0_isLeft mlX0_69 (k_X0_isLeft eq3) rfl (rm_ok (by omega) (by decide)) ⟨Nat.le_refl _, Nat.le_refl _⟩ (Nat.le_of_ble_eq_true rfl) rfl (c_X0_isLeft eq3) ?_
    refine aw_if_eq (tgt := 26) dX0_left_17 (by decide) (fun c4 => ?_) (fun c4 => ?_)
    · have hf := i_pos c4 hf
      obtain ⟨x5, ex5, hf⟩ := b_some hf
      refine aw_iinc (v := x5) (L' := [(2, .int x5), (0, .ref l0), (1, .int l1)]) 2 dX0_left_26 rfl (Option.some.inj ex5) (by decide) rfl ?_
      refine aw_goto (tgt := 4) dX0_left_29 (by decide) ?_
      exact aw_sub [1, 2, 0] rfl (hk4 _ _ hf)
    · have hf := i_neg c4 hf
      refine aw_iload_n 1 dX0_left_20 rfl rfl ?_
      refine aw_iconst (v := 1) dX0_left_21 (by decide) ?_
      refine aw_iload_n 2 dX0_left_22 rfl rfl ?_
      refine aw_ishl dX0_left_23 ?_
      refine aw_ior dX0_left_24 ?_
      obtain ⟨x6, ex6, hf⟩ := b_some hf
      refine aw_nm ex6 ?_
      refine aw_istore_n (L' := [(1, .int x6), (0, .ref l0), (2, .int l2)]) dX0_left_25 rfl (by decide) rfl ?_
      obtain ⟨x7, ex7, hf⟩ := b_some hf
      refine aw_iinc (v := x7) (L' := [(2, .int x7), (1, .int x6), (0, .ref l0)]) 2 dX0_left_26 rfl (Option.some.inj ex7) (by decide) rfl ?_
      refine aw_goto (tgt := 4) dX0_left_29 (by decide) ?_
      exact aw_sub [2, 1, 0] rfl (hk4 _ _ hf)
def f_X0_left (l0 : Nat) (h0 : Hp) : Option (Int32 × Hp) :=
  (ck h0 l0 0).bind fun _ => lp (f_X0_left_4) 600 (l0, (0 : Int32), (0 : Int32)) h0
set_option maxRecDepth 100000 in
set_option maxHeartbeats 4000000 in
theorem c_X0_left {l0 : Nat} {h0 : Hp} {q : Int32 × Hp} (hf : f_X0_left l0 h0 = some q) : Mt 2 yX0_left cX0_left 3 (some .int) [.ref l0] h0 (some (.int q.1)) q.2 := by
  refine MtQ.of (by decide) (Nat.le_of_ble_eq_true rfl) (fun X adr hr hn => ?_)
  unfold f_X0_left at hf
  show AW X cX0_left 3 RX0 (rmd 2 0 0) (Qmet X 0 0 (Qe (some (.int q.1)) q.2 adr)) 0 0 adr h0 0 [(0, .ref l0)] []
  obtain ⟨u0, e0, hf⟩ := b_some hf
  refine aw_iconst (v := 0) dX0_left_0 (by decide) ?_
  refine aw_istore_n (L' := [(1, .int (0 : Int32)), (0, .ref l0)]) dX0_left_1 rfl (by decide) rfl ?_
  refine aw_iconst (v := 0) dX0_left_2 (by decide) ?_
  refine aw_istore_n (L' := [(2, .int (0 : Int32)), (1, .int (0 : Int32)), (0, .ref l0)]) dX0_left_3 rfl (by decide) rfl ?_
  exact aw_sub [2, 1, 0] rfl (c_X0_left_4 hr 600 _ _ hf)
theorem k_X0_left {l0 : Nat} {h0 : Hp} {q : Int32 × Hp} (hf : f_X0_left l0 h0 = some q) : ck h0 l0 0 = some () := by
  unfold f_X0_left at hf
  obtain ⟨u0, e0, hf⟩ := b_some hf
  exact e0
theorem dX0_leftOf_0 : decode cX0_leftOf 0 = .ok (.iconst 0, 1) := by decide +kernel
theorem dX0_leftOf_1 : decode cX0_leftOf 1 = .ok (.istore_n 2, 1) := by decide +kernel
theorem dX0_leftOf_2 : decode cX0_leftOf 2 = .ok (.iconst 0, 1) := by decide +kernel
theorem dX0_leftOf_3 : decode cX0_leftOf 3 = .ok (.istore_n 3, 1) := by decide +kernel
theorem dX0_leftOf_4 : decode cX0_leftOf 4 = .ok (.iload_n 3, 1) := by decide +kernel
theorem dX0_leftOf_5 : decode cX0_leftOf 5 = .ok (.aload_n 0, 1) := by decide +kernel
theorem dX0_leftOf_6 : decode cX0_leftOf 6 = .ok (.getfield 37, 3) := by decide +kernel
theorem dX0_leftOf_9 : decode cX0_leftOf 9 = .ok (.if_icmp .ge 33, 3) := by decide +kernel
theorem dX0_leftOf_12 : decode cX0_leftOf 12 = .ok (.aload_n 0, 1) := by decide +kernel
theorem dX0_leftOf_13 : decode cX0_leftOf 13 = .ok (.iload_n 3, 1) := by decide +kernel
theorem dX0_leftOf_14 : decode cX0_leftOf 14 = .ok (.invokevirtual 69, 3) := by decide +kernel
theorem dX0_leftOf_17 : decode cX0_leftOf 17 = .ok (.ifCond .eq 19, 3) := by decide +kernel
theorem dX0_leftOf_20 : decode cX0_leftOf 20 = .ok (.aload_n 0, 1) := by decide +kernel
theorem dX0_leftOf_21 : decode cX0_leftOf 21 = .ok (.iload_n 3, 1) := by decide +kernel
theorem dX0_leftOf_22 : decode cX0_leftOf 22 = .ok (.iload_n 1, 1) := by decide +kernel
theorem dX0_leftOf_23 : decode cX0_leftOf 23 = .ok (.invokevirtual 72, 3) := by decide +kernel
theorem dX0_leftOf_26 : decode cX0_leftOf 26 = .ok (.iconst (-1), 1) := by decide +kernel
theorem dX0_leftOf_27 : decode cX0_leftOf 27 = .ok (.if_icmp .eq 9, 3) := by decide +kernel
theorem dX0_leftOf_30 : decode cX0_leftOf 30 = .ok (.iload_n 2, 1) := by decide +kernel
theorem dX0_leftOf_31 : decode cX0_leftOf 31 = .ok (.iconst 1, 1) := by decide +kernel
theorem dX0_leftOf_32 : decode cX0_leftOf 32 = .ok (.iload_n 3, 1) := by decide +kernel
theorem dX0_leftOf_33 : decode cX0_leftOf 33 = .ok (.ishl, 1) := by decide +kernel
theorem dX0_leftOf_34 : decode cX0_leftOf 34 = .ok (.ior, 1) := by decide +kernel
theorem dX0_leftOf_35 : decode cX0_leftOf 35 = .ok (.istore_n 2, 1) := by decide +kernel
theorem dX0_leftOf_36 : decode cX0_leftOf 36 = .ok (.iinc 3 1, 3) := by decide +kernel
theorem dX0_leftOf_39 : decode cX0_leftOf 39 = .ok (.goto (-35), 3) := by decide +kernel
theorem dX0_leftOf_42 : decode cX0_leftOf 42 = .ok (.iload_n 2, 1) := by decide +kernel
theorem dX0_leftOf_43 : decode cX0_leftOf 43 = .ok (.ireturn, 1) := by decide +kernel
def f_X0_leftOf_4 (k4 : Nat × Int32 × Int32 × Int32 → Hp → Option (Int32 × Hp)) (v : Nat × Int32 × Int32 × Int32) (h0 : Hp) : Option (Int32 × Hp) :=
  match v with
  | (l0, l1, l2, l3) => (gI h0 l0 0 1).bind fun x1 => if x1 ≤ l3 then (some (l2, h0)) else ((f_X0_isLeft l0 l3 h0).bind fun q3 => if q3.1 = 0 then ((some (l3 + 1)).bind fun x5 => k4 (l0, l1, l2, x5) q3.2) else ((f_X0_foe l0 l3 l1 q3.2).bind fun q6 => if q6.1 = (-1 : Int32) then ((some (l3 + 1)).bind fun x8 => k4 (l0, l1, l2, x8) q6.2) else ((some (l2 ||| ((1 : Int32) <<< (l3 &&& 31)))).bind fun x9 => (some (l3 + 1)).bind fun x10 => k4 (l0, l1, x9, x10) q6.2)))
set_option maxRecDepth 100000 in
set_option maxHeartbeats 4000000 in
theorem c_X0_leftOf_4 {X : Cx} {adr : Nat → Nat} {q : Int32 × Hp} (hr : (mth X).sig.returnType = (some .int)) (n : Nat) : ∀ v h0, lp (f_X0_leftOf_4) n v h0 = some q → AW X cX0_leftOf 4 RX0 (rmd 2 0 0) (Qmet X 0 0 (Qe (some (.int q.1)) q.2 adr)) 0 0 adr h0 4 [(0, .ref v.1), (1, .int v.2.1), (2, .int v.2.2.1), (3, .int v.2.2.2)] [] := by
  refine aw_lp (fun k4 hk4 v h0 hf => ?_) n
  obtain ⟨l0, l1, l2, l3⟩ := v
  unfold f_X0_leftOf_4 at hf
  dsimp only at hf
  show AW X cX0_leftOf 4 RX0 (rmd 2 0 0) (Qmet X 0 0 (Qe (some (.int q.1)) q.2 adr)) 0 0 adr h0 4 [(0, .ref l0), (1, .int l1), (2, .int l2), (3, .int l3)] []
  refine aw_iload_n 3 dX0_leftOf_4 rfl rfl ?_
  refine aw_aload_n 0 dX0_leftOf_5 rfl rfl ?_
  obtain ⟨x1, ex1, hf⟩ := b_some hf
  refine aw_getI dX0_leftOf_6 gfX0_37 ex1 ?_
  refine aw_icmp_ge (tgt := 42) dX0_leftOf_9 (by decide) (fun c2 => ?_) (fun c2 => ?_)
  · have hf := i_pos c2 hf
    refine aw_iload_n 2 dX0_leftOf_42 rfl rfl ?_
    have hq := Option.some.inj hf
    subst hq
    exact aw_iret hr dX0_leftOf_43 ⟨rfl, rfl, rfl⟩
  · have hf := i_neg c2 hf
    refine aw_aload_n 0 dX0_leftOf_12 rfl rfl ?_
    refine aw_iload_n 3 dX0_leftOf_13 rfl rfl ?_
    obtain ⟨q3, eq3, hf⟩ := b_some hf
    refine aw_cV (as := [.int l3]) dX0_leftOf_14 moX0_isLeft voX0_isLeft mlX0_69 (k_X0_isLeft eq3) rfl (rm_ok (by omega) (by decide)) ⟨Nat.le_refl _, Nat.le_refl _⟩ (Nat.le_of_ble_eq_true rfl) rfl (c_X0_isLeft eq3) ?_
    refine aw_if_eq (tgt := 36) dX0_leftOf_17 (by decide) (fun c4 => ?_) (fun c4 => ?_)
    · have hf := i_pos c4 hf
      obtain ⟨x5, ex5, hf⟩ := b_some hf
      refine aw_iinc (v := x5) (L' := [(3, .int x5), (0, .ref l0), (1, .int l1), (2, .int l2)]) 3 dX0_leftOf_36 rfl (Option.some.inj ex5) (by decide) rfl ?_
      refine aw_goto (tgt := 4) dX0_leftOf_39 (by decide) ?_
      exact aw_sub [1, 2, 3, 0] rfl (hk4 _ _ hf)
    · have hf := i_neg c4 hf
      refine aw_aload_n 0 dX0_leftOf_20 rfl rfl ?_
      refine aw_iload_n 3 dX0_leftOf_21 rfl rfl ?_
      refine aw_iload_n 1 dX0_leftOf_22 rfl rfl ?_
      obtain ⟨q6, eq6, hf⟩ := b_some hf
      refine aw_cV (as := [.int l3, .int l1]) dX0_leftOf_23 moX0_foe voX0_foe mlX0_72 (k_X0_foe eq6) rfl (rm_ok (by omega) (by decide)) ⟨Nat.le_refl _, Nat.le_refl _⟩ (Nat.le_of_ble_eq_true rfl) rfl (c_X0_foe eq6) ?_
      refine aw_iconst (v := -1) dX0_leftOf_26 (by decide) ?_
      refine aw_icmp_eq (tgt := 36) dX0_leftOf_27 (by decide) (fun c7 => ?_) (fun c7 => ?_)
      · have hf := i_pos c7 hf
        obtain ⟨x8, ex8, hf⟩ := b_some hf
        refine aw_iinc (v := x8) (L' := [(3, .int x8), (0, .ref l0), (1, .int l1), (2, .int l2)]) 3 dX0_leftOf_36 rfl (Option.some.inj ex8) (by decide) rfl ?_
        refine aw_goto (tgt := 4) dX0_leftOf_39 (by decide) ?_
        exact aw_sub [1, 2, 3, 0] rfl (hk4 _ _ hf)
      · have hf := i_neg c7 hf
        refine aw_iload_n 2 dX0_leftOf_30 rfl rfl ?_
        refine aw_iconst (v := 1) dX0_leftOf_31 (by decide) ?_
        refine aw_iload_n 3 dX0_leftOf_32 rfl rfl ?_
        refine aw_ishl dX0_leftOf_33 ?_
        refine aw_ior dX0_leftOf_34 ?_
        obtain ⟨x9, ex9, hf⟩ := b_some hf
        refine aw_nm ex9 ?_
        refine aw_istore_n (L' := [(2, .int x9), (0, .ref l0), (1, .int l1), (3, .int l3)]) dX0_leftOf_35 rfl (by decide) rfl ?_
        obtain ⟨x10, ex10, hf⟩ := b_some hf
        refine aw_iinc (v := x10) (L' := [(3, .int x10), (2, .int x9), (0, .ref l0), (1, .int l1)]) 3 dX0_leftOf_36 rfl (Option.some.inj ex10) (by decide) rfl ?_
        refine aw_goto (tgt := 4) dX0_leftOf_39 (by decide) ?_
        exact aw_sub [2, 3, 1, 0] rfl (hk4 _ _ hf)
def f_X0_leftOf (l0 : Nat) (l1 : Int32) (h0 : Hp) : Option (Int32 × Hp) :=
  (ck h0 l0 0).bind fun _ => lp (f_X0_leftOf_4) 600 (l0, l1, (0 : Int32), (0 : Int32)) h0
set_option maxRecDepth 100000 in
set_option maxHeartbeats 4000000 in
theorem c_X0_leftOf {l0 : Nat} {l1 : Int32} {h0 : Hp} {q : Int32 × Hp} (hf : f_X0_leftOf l0 l1 h0 = some q) : Mt 2 yX0_leftOf cX0_leftOf 4 (some .int) [.ref l0, .int l1] h0 (some (.int q.1)) q.2 := by
  refine MtQ.of (by decide) (Nat.le_of_ble_eq_true rfl) (fun X adr hr hn => ?_)
  unfold f_X0_leftOf at hf
  show AW X cX0_leftOf 4 RX0 (rmd 2 0 0) (Qmet X 0 0 (Qe (some (.int q.1)) q.2 adr)) 0 0 adr h0 0 [(0, .ref l0), (1, .int l1)] []
  obtain ⟨u0, e0, hf⟩ := b_some hf
  refine aw_iconst (v := 0) dX0_leftOf_0 (by decide) ?_
  refine aw_istore_n (L' := [(2, .int (0 : Int32)), (0, .ref l0), (1, .int l1)]) dX0_leftOf_1 rfl (by decide) rfl ?_
  refine aw_iconst (v := 0) dX0_leftOf_2 (by decide) ?_
  refine aw_istore_n (L' := [(3, .int (0 : Int32)), (2, .int (0 : Int32)), (0, .ref l0), (1, .int l1)]) dX0_leftOf_3 rfl (by decide) rfl ?_
  exact aw_sub [2, 3, 1, 0] rfl (c_X0_leftOf_4 hr 600 _ _ hf)
theorem k_X0_leftOf {l0 : Nat} {l1 : Int32} {h0 : Hp} {q : Int32 × Hp} (hf : f_X0_leftOf l0 l1 h0 = some q) : ck h0 l0 0 = some () := by
  unfold f_X0_leftOf at hf
  obtain ⟨u0, e0, hf⟩ := b_some hf
  exact e0
theorem dX0_letter_0 : decode cX0_letter 0 = .ok (.iload_n 2, 1) := by decide +kernel
theorem dX0_letter_1 : decode cX0_letter 1 = .ok (.aload_n 0, 1) := by decide +kernel
theorem dX0_letter_2 : decode cX0_letter 2 = .ok (.getfield 15, 3) := by decide +kernel
theorem dX0_letter_5 : decode cX0_letter 5 = .ok (.iload_n 1, 1) := by decide +kernel
theorem dX0_letter_6 : decode cX0_letter 6 = .ok (.iaload, 1) := by decide +kernel
theorem dX0_letter_7 : decode cX0_letter 7 = .ok (.if_icmp .ge 17, 3) := by decide +kernel
theorem dX0_letter_10 : decode cX0_letter 10 = .ok (.aload_n 0, 1) := by decide +kernel
theorem dX0_letter_11 : decode cX0_letter 11 = .ok (.getfield 18, 3) := by decide +kernel
theorem dX0_letter_14 : decode cX0_letter 14 = .ok (.iload_n 1, 1) := by decide +kernel
theorem dX0_letter_15 : decode cX0_letter 15 = .ok (.bipush 6, 2) := by decide +kernel
theorem dX0_letter_17 : decode cX0_letter 17 = .ok (.imul, 1) := by decide +kernel
theorem dX0_letter_18 : decode cX0_letter 18 = .ok (.iload_n 2, 1) := by decide +kernel
theorem dX0_letter_19 : decode cX0_letter 19 = .ok (.iadd, 1) := by decide +kernel
theorem dX0_letter_20 : decode cX0_letter 20 = .ok (.iaload, 1) := by decide +kernel
theorem dX0_letter_21 : decode cX0_letter 21 = .ok (.goto 4, 3) := by decide +kernel
theorem dX0_letter_24 : decode cX0_letter 24 = .ok (.iconst (-1), 1) := by decide +kernel
theorem dX0_letter_25 : decode cX0_letter 25 = .ok (.ireturn, 1) := by decide +kernel
def f_X0_letter (l0 : Nat) (l1 : Int32) (l2 : Int32) (h0 : Hp) : Option (Int32 × Hp) :=
  (ck h0 l0 0).bind fun _ => (gR h0 l0 0 4).bind fun r1 => (aL h0 r1 l1).bind fun x2 => if x2 ≤ l2 then (some ((-1 : Int32), h0)) else ((gR h0 l0 0 5).bind fun r4 => (aL h0 r4 ((l1 * (6 : Int32)) + l2)).bind fun x5 => some (x5, h0))
set_option maxRecDepth 100000 in
set_option maxHeartbeats 4000000 in
theorem c_X0_letter {l0 : Nat} {l1 : Int32} {l2 : Int32} {h0 : Hp} {q : Int32 × Hp} (hf : f_X0_letter l0 l1 l2 h0 = some q) : Mt 1 yX0_letter cX0_letter 3 (some .int) [.ref l0, .int l1, .int l2] h0 (some (.int q.1)) q.2 := by
  refine MtQ.of (by decide) (Nat.le_of_ble_eq_true rfl) (fun X adr hr hn => ?_)
  unfold f_X0_letter at hf
  show AW X cX0_letter 3 RX0 (rmd 1 0 0) (Qmet X 0 0 (Qe (some (.int q.1)) q.2 adr)) 0 0 adr h0 0 [(0, .ref l0), (1, .int l1), (2, .int l2)] []
  obtain ⟨u0, e0, hf⟩ := b_some hf
  refine aw_iload_n 2 dX0_letter_0 rfl rfl ?_
  refine aw_aload_n 0 dX0_letter_1 rfl rfl ?_
  obtain ⟨r1, er1, hf⟩ := b_some hf
  refine aw_getR dX0_letter_2 gfX0_15 er1 ?_
  refine aw_iload_n 1 dX0_letter_5 rfl rfl ?_
  obtain ⟨x2, ex2, hf⟩ := b_some hf
  refine aw_iald dX0_letter_6 ex2 ?_
  refine aw_icmp_ge (tgt := 24) dX0_letter_7 (by decide) (fun c3 => ?_) (fun c3 => ?_)
  · have hf := i_pos c3 hf
    refine aw_iconst (v := -1) dX0_letter_24 (by decide) ?_
    have hq := Option.some.inj hf
    subst hq
    exact aw_iret hr dX0_letter_25 ⟨rfl, rfl, rfl⟩
  · have hf := i_neg c3 hf
    refine aw_aload_n 0 dX0_letter_10 rfl rfl ?_
    obtain ⟨r4, er4, hf⟩ := b_some hf
    refine aw_getR dX0_letter_11 gfX0_18 er4 ?_
    refine aw_iload_n 1 dX0_letter_14 rfl rfl ?_
    refine aw_bipush (v := 6) dX0_letter_15 (by decide) ?_
    refine aw_imul dX0_letter_17 ?_
    refine aw_iload_n 2 dX0_letter_18 rfl rfl ?_
    refine aw_iadd dX0_letter_19 ?_
    obtain ⟨x5, ex5, hf⟩ := b_some hf
    refine aw_iald dX0_letter_20 ex5 ?_
    refine aw_goto (tgt := 25) dX0_letter_21 (by decide) ?_
    have hq := Option.some.inj hf
    subst hq
    exact aw_iret hr dX0_letter_25 ⟨rfl, rfl, rfl⟩
theorem k_X0_letter {l0 : Nat} {l1 : Int32} {l2 : Int32} {h0 : Hp} {q : Int32 × Hp} (hf : f_X0_letter l0 l1 l2 h0 = some q) : ck h0 l0 0 = some () := by
  unfold f_X0_letter at hf
  obtain ⟨u0, e0, hf⟩ := b_some hf
  exact e0
theorem dX0_nextBetween_0 : decode cX0_nextBetween 0 = .ok (.iconst (-1), 1) := by decide +kernel
theorem dX0_nextBetween_1 : decode cX0_nextBetween 1 = .ok (.istore_n 3, 1) := by decide +kernel
theorem dX0_nextBetween_2 : decode cX0_nextBetween 2 = .ok (.iconst 0, 1) := by decide +kernel
theorem dX0_nextBetween_3 : decode cX0_nextBetween 3 = .ok (.istore 4, 2) := by decide +kernel
theorem dX0_nextBetween_5 : decode cX0_nextBetween 5 = .ok (.iload 4, 2) := by decide +kernel
theorem dX0_nextBetween_7 : decode cX0_nextBetween 7 = .ok (.aload_n 0, 1) := by decide +kernel
theorem dX0_nextBetween_8 : decode cX0_nextBetween 8 = .ok (.getfield 37, 3) := by decide +kernel
theorem dX0_nextBetween_11 : decode cX0_nextBetween 11 = .ok (.if_icmp .ge 56, 3) := by decide +kernel
theorem dX0_nextBetween_14 : decode cX0_nextBetween 14 = .ok (.aload_n 0, 1) := by decide +kernel
theorem dX0_nextBetween_15 : decode cX0_nextBetween 15 = .ok (.iload 4, 2) := by decide +kernel
theorem dX0_nextBetween_17 : decode cX0_nextBetween 17 = .ok (.invokevirtual 69, 3) := by decide +kernel
theorem dX0_nextBetween_20 : decode cX0_nextBetween 20 = .ok (.ifCond .eq 41, 3) := by decide +kernel
theorem dX0_nextBetween_23 : decode cX0_nextBetween 23 = .ok (.aload_n 0, 1) := by decide +kernel
theorem dX0_nextBetween_24 : decode cX0_nextBetween 24 = .ok (.iload 4, 2) := by decide +kernel
theorem dX0_nextBetween_26 : decode cX0_nextBetween 26 = .ok (.iload_n 1, 1) := by decide +kernel
theorem dX0_nextBetween_27 : decode cX0_nextBetween 27 = .ok (.invokevirtual 72, 3) := by decide +kernel
theorem dX0_nextBetween_30 : decode cX0_nextBetween 30 = .ok (.iload_n 2, 1) := by decide +kernel
theorem dX0_nextBetween_31 : decode cX0_nextBetween 31 = .ok (.if_icmp .eq 6, 3) := by decide +kernel
theorem dX0_nextBetween_34 : decode cX0_nextBetween 34 = .ok (.goto 27, 3) := by decide +kernel
theorem dX0_nextBetween_37 : decode cX0_nextBetween 37 = .ok (.iload_n 3, 1) := by decide +kernel
theorem dX0_nextBetween_38 : decode cX0_nextBetween 38 = .ok (.iconst (-1), 1) := by decide +kernel
theorem dX0_nextBetween_39 : decode cX0_nextBetween 39 = .ok (.if_icmp .eq 19, 3) := by decide +kernel
theorem dX0_nextBetween_42 : decode cX0_nextBetween 42 = .ok (.aload_n 0, 1) := by decide +kernel
theorem dX0_nextBetween_43 : decode cX0_nextBetween 43 = .ok (.getfield 27, 3) := by decide +kernel
theorem dX0_nextBetween_46 : decode cX0_nextBetween 46 = .ok (.iload 4, 2) := by decide +kernel
theorem dX0_nextBetween_48 : decode cX0_nextBetween 48 = .ok (.iaload, 1) := by decide +kernel
theorem dX0_nextBetween_49 : decode cX0_nextBetween 49 = .ok (.aload_n 0, 1) := by decide +kernel
theorem dX0_nextBetween_50 : decode cX0_nextBetween 50 = .ok (.getfield 27, 3) := by decide +kernel
theorem dX0_nextBetween_53 : decode cX0_nextBetween 53 = .ok (.iload_n 3, 1) := by decide +kernel
theorem dX0_nextBetween_54 : decode cX0_nextBetween 54 = .ok (.iaload, 1) := by decide +kernel
theorem dX0_nextBetween_55 : decode cX0_nextBetween 55 = .ok (.if_icmp .ge 6, 3) := by decide +kernel
theorem dX0_nextBetween_58 : decode cX0_nextBetween 58 = .ok (.iload 4, 2) := by decide +kernel
theorem dX0_nextBetween_60 : decode cX0_nextBetween 60 = .ok (.istore_n 3, 1) := by decide +kernel
theorem dX0_nextBetween_61 : decode cX0_nextBetween 61 = .ok (.iinc 4 1, 3) := by decide +kernel
theorem dX0_nextBetween_64 : decode cX0_nextBetween 64 = .ok (.goto (-59), 3) := by decide +kernel
theorem dX0_nextBetween_67 : decode cX0_nextBetween 67 = .ok (.iload_n 3, 1) := by decide +kernel
theorem dX0_nextBetween_68 : decode cX0_nextBetween 68 = .ok (.ireturn, 1) := by decide +kernel
def f_X0_nextBetween_5 (k5 : Nat × Int32 × Int32 × Int32 × Int32 → Hp → Option (Int32 × Hp)) (v : Nat × Int32 × Int32 × Int32 × Int32) (h0 : Hp) : Option (Int32 × Hp) :=
  match v with
  | (l0, l1, l2, l3, l4) => (gI h0 l0 0 1).bind fun x1 => if x1 ≤ l4 then (some (l3, h0)) else ((f_X0_isLeft l0 l4 h0).bind fun q3 => if q3.1 = 0 then ((some (l4 + 1)).bind fun x5 => k5 (l0, l1, l2, l3, x5) q3.2) else ((f_X0_foe l0 l4 l1 q3.2).bind fun q6 => if q6.1 = l2 then (if l3 = (-1 : Int32) then ((some (l4 + 1)).bind fun x9 => k5 (l0, l1, l2, l4, x9) q6.2) else ((gR q6.2 l0 0 8).bind fun r10 => (aL q6.2 r10 l4).bind fun x11 => (gR q6.2 l0 0 8).bind fun r12 => (aL q6.2 r12 l3).bind fun x13 => if x13 ≤ x11 then ((some (l4 + 1)).bind fun x15 => k5 (l0, l1, l2, l3, x15) q6.2) else ((some (l4 + 1)).bind fun x16 => k5 (l0, l1, l2, l4, x16) q6.2))) else ((some (l4 + 1)).bind fun x17 => k5 (l0, l1, l2, l3, x17) q6.2)))
set_option maxRecDepth 100000 in
set_option maxHeartbeats 4000000 in
theorem c_X0_nextBetween_5 {X : Cx} {adr : Nat → Nat} {q : Int32 × Hp} (hr : (mth X).sig.returnType = (some .int)) (n : Nat) : ∀ v h0, lp (f_X0_nextBetween_5) n v h0 = some q → AW X cX0_nextBetween 5 RX0 (rmd 2 0 0) (Qmet X 0 0 (Qe (some (.int q.1)) q.2 adr)) 0 0 adr h0 5 [(0, .ref v.1), (1, .int v.2.1), (2, .int v.2.2.1), (3, .int v.2.2.2.1), (4, .int v.2.2.2.2)] [] := by
  refine aw_lp (fun k5 hk5 v h0 hf => ?_) n
  obtain ⟨l0, l1, l2, l3, l4⟩ := v
  unfold f_X0_nextBetween_5 at hf
  dsimp only at hf
  show AW X cX0_nextBetween 5 RX0 (rmd 2 0 0) (Qmet X 0 0 (Qe (some (.int q.1)) q.2 adr)) 0 0 adr h0 5 [(0, .ref l0), (1, .int l1), (2, .int l2), (3, .int l3), (4, .int l4)] []
  refine aw_iload 4 dX0_nextBetween_5 rfl ?_
  refine aw_aload_n 0 dX0_nextBetween_7 rfl rfl ?_
  obtain ⟨x1, ex1, hf⟩ := b_some hf
  refine aw_getI dX0_nextBetween_8 gfX0_37 ex1 ?_
  refine aw_icmp_ge (tgt := 67) dX0_nextBetween_11 (by decide) (fun c2 => ?_) (fun c2 => ?_)
  · have hf := i_pos c2 hf
    refine aw_iload_n 3 dX0_nextBetween_67 rfl rfl ?_
    have hq := Option.some.inj hf
    subst hq
    exact aw_iret hr dX0_nextBetween_68 ⟨rfl, rfl, rfl⟩
  · have hf := i_neg c2 hf
    refine aw_aload_n 0 dX0_nextBetween_14 rfl rfl ?_
    refine aw_iload 4 dX0_nextBetween_15 rfl ?_
    obtain ⟨q3, eq3, hf⟩ := b_some hf
    refine aw_cV (as := [.int l4]) dX0_nextBetween_17 moX0_isLeft voX0_isLeft mlX0_69 (k_X0_isLeft eq3) rfl (rm_ok (by omega) (by decide)) ⟨Nat.le_refl _, Nat.le_refl _⟩ (Nat.le_of_ble_eq_true rfl) rfl (c_X0_isLeft eq3) ?_
    refine aw_if_eq (tgt := 61) dX0_nextBetween_20 (by decide) (fun c4 => ?_) (fun c4 => ?_)
    · have hf := i_pos c4 hf
      obtain ⟨x5, ex5, hf⟩ := b_some hf
      refine aw_iinc (v := x5) (L' := [(4, .int x5), (0, .ref l0), (1, .int l1), (2, .int l2), (3, .int l3)]) 4 dX0_nextBetween_61 rfl (Option.some.inj ex5) (by decide) rfl ?_
      refine aw_goto (tgt := 5) dX0_nextBetween_64 (by decide) ?_
      exact aw_sub [1, 2, 3, 4, 0] rfl (hk5 _ _ hf)
    · have hf := i_neg c4 hf
      refine aw_aload_n 0 dX0_nextBetween_23 rfl rfl ?_
      refine aw_iload 4 dX0_nextBetween_24 rfl ?_
      refine aw_iload_n 1 dX0_nextBetween_26 rfl rfl ?_
      obtain ⟨q6, eq6, hf⟩ := b_some hf
      refine aw_cV (as := [.int l4, .int l1]) dX0_nextBetween_27 moX0_foe voX0_foe mlX0_72 (k_X0_foe eq6) rfl (rm_ok (by omega) (by decide)) ⟨Nat.le_refl _, Nat.le_refl _⟩ (Nat.le_of_ble_eq_true rfl) rfl (c_X0_foe eq6) ?_
      refine aw_iload_n 2 dX0_nextBetween_30 rfl rfl ?_
      refine aw_icmp_eq (tgt := 37) dX0_nextBetween_31 (by decide) (fun c7 => ?_) (fun c7 => ?_)
      · have hf := i_pos c7 hf
        refine aw_iload_n 3 dX0_nextBetween_37 rfl rfl ?_
        refine aw_iconst (v := -1) dX0_nextBetween_38 (by decide) ?_
        refine aw_icmp_eq (tgt := 58) dX0_nextBetween_39 (by decide) (fun c8 => ?_) (fun c8 => ?_)
        · have hf := i_pos c8 hf
          refine aw_iload 4 dX0_nextBetween_58 rfl ?_
          refine aw_istore_n (L' := [(3, .int l4), (0, .ref l0), (1, .int l1), (2, .int l2), (4, .int l4)]) dX0_nextBetween_60 rfl (by decide) rfl ?_
          obtain ⟨x9, ex9, hf⟩ := b_some hf
          refine aw_iinc (v := x9) (L' := [(4, .int x9), (3, .int l4), (0, .ref l0), (1, .int l1), (2, .int l2)]) 4 dX0_nextBetween_61 rfl (Option.some.inj ex9) (by decide) rfl ?_
          refine aw_goto (tgt := 5) dX0_nextBetween_64 (by decide) ?_
          exact aw_sub [2, 3, 4, 1, 0] rfl (hk5 _ _ hf)
        · have hf := i_neg c8 hf
          refine aw_aload_n 0 dX0_nextBetween_42 rfl rfl ?_
          obtain ⟨r10, er10, hf⟩ := b_some hf
          refine aw_getR dX0_nextBetween_43 gfX0_27 er10 ?_
          refine aw_iload 4 dX0_nextBetween_46 rfl ?_
          obtain ⟨x11, ex11, hf⟩ := b_some hf
          refine aw_iald dX0_nextBetween_48 ex11 ?_
          refine aw_aload_n 0 dX0_nextBetween_49 rfl rfl ?_
          obtain ⟨r12, er12, hf⟩ := b_some hf
          refine aw_getR dX0_nextBetween_50 gfX0_27 er12 ?_
          refine aw_iload_n 3 dX0_nextBetween_53 rfl rfl ?_
          obtain ⟨x13, ex13, hf⟩ := b_some hf
          refine aw_iald dX0_nextBetween_54 ex13 ?_
          refine aw_icmp_ge (tgt := 61) dX0_nextBetween_55 (by decide) (fun c14 => ?_) (fun c14 => ?_)
          · have hf := i_pos c14 hf
            obtain ⟨x15, ex15, hf⟩ := b_some hf
            refine aw_iinc (v := x15) (L' := [(4, .int x15), (0, .ref l0), (1, .int l1), (2, .int l2), (3, .int l3)]) 4 dX0_nextBetween_61 rfl (Option.some.inj ex15) (by decide) rfl ?_
            refine aw_goto (tgt := 5) dX0_nextBetween_64 (by decide) ?_
            exact aw_sub [1, 2, 3, 4, 0] rfl (hk5 _ _ hf)
          · have hf := i_neg c14 hf
            refine aw_iload 4 dX0_nextBetween_58 rfl ?_
            refine aw_istore_n (L' := [(3, .int l4), (0, .ref l0), (1, .int l1), (2, .int l2), (4, .int l4)]) dX0_nextBetween_60 rfl (by decide) rfl ?_
            obtain ⟨x16, ex16, hf⟩ := b_some hf
            refine aw_iinc (v := x16) (L' := [(4, .int x16), (3, .int l4), (0, .ref l0), (1, .int l1), (2, .int l2)]) 4 dX0_nextBetween_61 rfl (Option.some.inj ex16) (by decide) rfl ?_
            refine aw_goto (tgt := 5) dX0_nextBetween_64 (by decide) ?_
            exact aw_sub [2, 3, 4, 1, 0] rfl (hk5 _ _ hf)
      · have hf := i_neg c7 hf
        refine aw_goto (tgt := 61) dX0_nextBetween_34 (by decide) ?_
        obtain ⟨x17, ex17, hf⟩ := b_some hf
        refine aw_iinc (v := x17) (L' := [(4, .int x17), (0, .ref l0), (1, .int l1), (2, .int l2), (3, .int l3)]) 4 dX0_nextBetween_61 rfl (Option.some.inj ex17) (by decide) rfl ?_
        refine aw_goto (tgt := 5) dX0_nextBetween_64 (by decide) ?_
        exact aw_sub [1, 2, 3, 4, 0] rfl (hk5 _ _ hf)
def f_X0_nextBetween (l0 : Nat) (l1 : Int32) (l2 : Int32) (h0 : Hp) : Option (Int32 × Hp) :=
  (ck h0 l0 0).bind fun _ => lp (f_X0_nextBetween_5) 600 (l0, l1, l2, (-1 : Int32), (0 : Int32)) h0
set_option maxRecDepth 100000 in
set_option maxHeartbeats 4000000 in
theorem c_X0_nextBetween {l0 : Nat} {l1 : Int32} {l2 : Int32} {h0 : Hp} {q : Int32 × Hp} (hf : f_X0_nextBetween l0 l1 l2 h0 = some q) : Mt 2 yX0_nextBetween cX0_nextBetween 5 (some .int) [.ref l0, .int l1, .int l2] h0 (some (.int q.1)) q.2 := by
  refine MtQ.of (by decide) (Nat.le_of_ble_eq_true rfl) (fun X adr hr hn => ?_)
  unfold f_X0_nextBetween at hf
  show AW X cX0_nextBetween 5 RX0 (rmd 2 0 0) (Qmet X 0 0 (Qe (some (.int q.1)) q.2 adr)) 0 0 adr h0 0 [(0, .ref l0), (1, .int l1), (2, .int l2)] []
  obtain ⟨u0, e0, hf⟩ := b_some hf
  refine aw_iconst (v := -1) dX0_nextBetween_0 (by decide) ?_
  refine aw_istore_n (L' := [(3, .int (-1 : Int32)), (0, .ref l0), (1, .int l1), (2, .int l2)]) dX0_nextBetween_1 rfl (by decide) rfl ?_
  refine aw_iconst (v := 0) dX0_nextBetween_2 (by decide) ?_
  refine aw_istore (L' := [(4, .int (0 : Int32)), (3, .int (-1 : Int32)), (0, .ref l0), (1, .int l1), (2, .int l2)]) dX0_nextBetween_3 (by decide) rfl ?_
  exact aw_sub [2, 3, 4, 1, 0] rfl (c_X0_nextBetween_5 hr 600 _ _ hf)
theorem k_X0_nextBetween {l0 : Nat} {l1 : Int32} {l2 : Int32} {h0 : Hp} {q : Int32 × Hp} (hf : f_X0_nextBetween l0 l1 l2 h0 = some q) : ck h0 l0 0 = some () := by
  unfold f_X0_nextBetween at hf
  obtain ⟨u0, e0, hf⟩ := b_some hf
  exact e0
theorem dX0_pointsInto_0 : decode cX0_pointsInto 0 = .ok (.iconst 0, 1) := by decide +kernel
theorem dX0_pointsInto_1 : decode cX0_pointsInto 1 = .ok (.istore_n 2, 1) := by decide +kernel
theorem dX0_pointsInto_2 : decode cX0_pointsInto 2 = .ok (.iload_n 2, 1) := by decide +kernel
theorem dX0_pointsInto_3 : decode cX0_pointsInto 3 = .ok (.bipush 6, 2) := by decide +kernel
theorem dX0_pointsInto_5 : decode cX0_pointsInto 5 = .ok (.if_icmp .ge 30, 3) := by decide +kernel
theorem dX0_pointsInto_8 : decode cX0_pointsInto 8 = .ok (.aload_n 1, 1) := by decide +kernel
theorem dX0_pointsInto_9 : decode cX0_pointsInto 9 = .ok (.iload_n 2, 1) := by decide +kernel
theorem dX0_pointsInto_10 : decode cX0_pointsInto 10 = .ok (.iload_n 2, 1) := by decide +kernel
theorem dX0_pointsInto_11 : decode cX0_pointsInto 11 = .ok (.aload_n 0, 1) := by decide +kernel
theorem dX0_pointsInto_12 : decode cX0_pointsInto 12 = .ok (.getfield 33, 3) := by decide +kernel
theorem dX0_pointsInto_15 : decode cX0_pointsInto 15 = .ok (.if_icmp .ge 12, 3) := by decide +kernel
theorem dX0_pointsInto_18 : decode cX0_pointsInto 18 = .ok (.aload_n 0, 1) := by decide +kernel
theorem dX0_pointsInto_19 : decode cX0_pointsInto 19 = .ok (.getfield 9, 3) := by decide +kernel
theorem dX0_pointsInto_22 : decode cX0_pointsInto 22 = .ok (.iload_n 2, 1) := by decide +kernel
theorem dX0_pointsInto_23 : decode cX0_pointsInto 23 = .ok (.iaload, 1) := by decide +kernel
theorem dX0_pointsInto_24 : decode cX0_pointsInto 24 = .ok (.goto 4, 3) := by decide +kernel
theorem dX0_pointsInto_27 : decode cX0_pointsInto 27 = .ok (.iconst 0, 1) := by decide +kernel
theorem dX0_pointsInto_28 : decode cX0_pointsInto 28 = .ok (.iastore, 1) := by decide +kernel
theorem dX0_pointsInto_29 : decode cX0_pointsInto 29 = .ok (.iinc 2 1, 3) := by decide +kernel
theorem dX0_pointsInto_32 : decode cX0_pointsInto 32 = .ok (.goto (-30), 3) := by decide +kernel
theorem dX0_pointsInto_35 : decode cX0_pointsInto 35 = .ok (.iconst 0, 1) := by decide +kernel
theorem dX0_pointsInto_36 : decode cX0_pointsInto 36 = .ok (.istore_n 2, 1) := by decide +kernel
theorem dX0_pointsInto_37 : decode cX0_pointsInto 37 = .ok (.iload_n 2, 1) := by decide +kernel
theorem dX0_pointsInto_38 : decode cX0_pointsInto 38 = .ok (.aload_n 0, 1) := by decide +kernel
theorem dX0_pointsInto_39 : decode cX0_pointsInto 39 = .ok (.getfield 37, 3) := by decide +kernel
theorem dX0_pointsInto_42 : decode cX0_pointsInto 42 = .ok (.if_icmp .ge 30, 3) := by decide +kernel
theorem dX0_pointsInto_45 : decode cX0_pointsInto 45 = .ok (.aload_n 0, 1) := by decide +kernel
theorem dX0_pointsInto_46 : decode cX0_pointsInto 46 = .ok (.iload_n 2, 1) := by decide +kernel
theorem dX0_pointsInto_47 : decode cX0_pointsInto 47 = .ok (.invokevirtual 69, 3) := by decide +kernel
theorem dX0_pointsInto_50 : decode cX0_pointsInto 50 = .ok (.ifCond .ne 16, 3) := by decide +kernel
theorem dX0_pointsInto_53 : decode cX0_pointsInto 53 = .ok (.aload_n 0, 1) := by decide +kernel
theorem dX0_pointsInto_54 : decode cX0_pointsInto 54 = .ok (.aload_n 1, 1) := by decide +kernel
theorem dX0_pointsInto_55 : decode cX0_pointsInto 55 = .ok (.iload_n 2, 1) := by decide +kernel
theorem dX0_pointsInto_56 : decode cX0_pointsInto 56 = .ok (.aload_n 0, 1) := by decide +kernel
theorem dX0_pointsInto_57 : decode cX0_pointsInto 57 = .ok (.getfield 30, 3) := by decide +kernel
theorem dX0_pointsInto_60 : decode cX0_pointsInto 60 = .ok (.iload_n 2, 1) := by decide +kernel
theorem dX0_pointsInto_61 : decode cX0_pointsInto 61 = .ok (.iaload, 1) := by decide +kernel
theorem dX0_pointsInto_62 : decode cX0_pointsInto 62 = .ok (.iconst 1, 1) := by decide +kernel
theorem dX0_pointsInto_63 : decode cX0_pointsInto 63 = .ok (.invokevirtual 76, 3) := by decide +kernel
theorem dX0_pointsInto_66 : decode cX0_pointsInto 66 = .ok (.iinc 2 1, 3) := by decide +kernel
theorem dX0_pointsInto_69 : decode cX0_pointsInto 69 = .ok (.goto (-32), 3) := by decide +kernel
theorem dX0_pointsInto_72 : decode cX0_pointsInto 72 = .ok (.return_, 1) := by decide +kernel
def f_X0_pointsInto_28 (k2 : Nat × Nat × Int32 → Hp → Option (Unit × Hp)) (l0 : Nat) (l1 : Nat) (l2 : Int32) (s0 : Int32) (s1 : Int32) (s2 : Nat) (h0 : Hp) : Option (Unit × Hp) :=
  (aS h0 s2 s1 s0).bind fun h1 => (some (l2 + 1)).bind fun x2 => k2 (l0, l1, x2) h1
set_option maxRecDepth 100000 in
set_option maxHeartbeats 4000000 in
theorem c_X0_pointsInto_28 {X : Cx} {adr : Nat → Nat} {q : Unit × Hp} (hr : (mth X).sig.returnType = none) {k2 : Nat × Nat × Int32 → Hp → Option (Unit × Hp)} (hk2 : ∀ v h, k2 v h = some q → AW X cX0_pointsInto 3 RX0 (rmd 2 0 0) (Qmet X 0 0 (Qe none q.2 adr)) 0 0 adr h 2 [(0, .ref v.1), (1, .ref v.2.1), (2, .int v.2.2)] []) {l0 : Nat} {l1 : Nat} {l2 : Int32} {s0 : Int32} {s1 : Int32} {s2 : Nat} {h0 : Hp} (hf : f_X0_pointsInto_28 k2 l0 l1 l2 s0 s1 s2 h0 = some q) : AW X cX0_pointsInto 3 RX0 (rmd 2 0 0) (Qmet X 0 0 (Qe none q.2 adr)) 0 0 adr h0 28 [(0, .ref l0), (1, .ref l1), (2, .int l2)] [.int s0, .int s1, .ref s2] := by
  unfold f_X0_pointsInto_28 at hf
  obtain ⟨h1, eh1, hf⟩ := b_some hf
  refine aw_iast dX0_pointsInto_28 eh1 ?_
  obtain ⟨x2, ex2, hf⟩ := b_some hf
  refine aw_iinc (v := x2) (L' := [(2, .int x2), (0, .ref l0), (1, .ref l1)]) 2 dX0_pointsInto_29 rfl (Option.some.inj ex2) (by decide) rfl ?_
  refine aw_goto (tgt := 2) dX0_pointsInto_32 (by decide) ?_
  exact aw_sub [1, 2, 0] rfl (hk2 _ _ hf)
def f_X0_pointsInto_37 (k37 : Nat × Nat × Int32 → Hp → Option (Unit × Hp)) (v : Nat × Nat × Int32) (h0 : Hp) : Option (Unit × Hp) :=
  match v with
  | (l0, l1, l2) => (gI h0 l0 0 1).bind fun x1 => if x1 ≤ l2 then (some ((), h0)) else ((f_X0_isLeft l0 l2 h0).bind fun q3 => if q3.1 = 0 then ((gR q3.2 l0 0 9).bind fun r6 => (aL q3.2 r6 l2).bind fun x7 => (f_X0_award l0 l1 l2 x7 (1 : Int32) q3.2).bind fun q8 => (some (l2 + 1)).bind fun x9 => k37 (l0, l1, x9) q8.2) else ((some (l2 + 1)).bind fun x5 => k37 (l0, l1, x5) q3.2))
set_option maxRecDepth 100000 in
set_option maxHeartbeats 4000000 in
theorem c_X0_pointsInto_37 {X : Cx} {adr : Nat → Nat} {q : Unit × Hp} (hr : (mth X).sig.returnType = none) (n : Nat) : ∀ v h0, lp (f_X0_pointsInto_37) n v h0 = some q → AW X cX0_pointsInto 3 RX0 (rmd 2 0 0) (Qmet X 0 0 (Qe none q.2 adr)) 0 0 adr h0 37 [(0, .ref v.1), (1, .ref v.2.1), (2, .int v.2.2)] [] := by
  refine aw_lp (fun k37 hk37 v h0 hf => ?_) n
  obtain ⟨l0, l1, l2⟩ := v
  unfold f_X0_pointsInto_37 at hf
  dsimp only at hf
  show AW X cX0_pointsInto 3 RX0 (rmd 2 0 0) (Qmet X 0 0 (Qe none q.2 adr)) 0 0 adr h0 37 [(0, .ref l0), (1, .ref l1), (2, .int l2)] []
  refine aw_iload_n 2 dX0_pointsInto_37 rfl rfl ?_
  refine aw_aload_n 0 dX0_pointsInto_38 rfl rfl ?_
  obtain ⟨x1, ex1, hf⟩ := b_some hf
  refine aw_getI dX0_pointsInto_39 gfX0_37 ex1 ?_
  refine aw_icmp_ge (tgt := 72) dX0_pointsInto_42 (by decide) (fun c2 => ?_) (fun c2 => ?_)
  · have hf := i_pos c2 hf
    have hq := Option.some.inj hf
    subst hq
    exact aw_vret hr dX0_pointsInto_72 ⟨rfl, rfl, rfl⟩
  · have hf := i_neg c2 hf
    refine aw_aload_n 0 dX0_pointsInto_45 rfl rfl ?_
    refine aw_iload_n 2 dX0_pointsInto_46 rfl rfl ?_
    obtain ⟨q3, eq3, hf⟩ := b_some hf
    refine aw_cV (as := [.int l2]) dX0_pointsInto_47 moX0_isLeft voX0_isLeft mlX0_69 (k_X0_isLeft eq3) rfl (rm_ok (by omega) (by decide)) ⟨Nat.le_refl _, Nat.le_refl _⟩ (Nat.le_of_ble_eq_true rfl) rfl (c_X0_isLeft eq3) ?_
    refine aw_if_ne (tgt := 66) dX0_pointsInto_50 (by decide) (fun c4 => ?_) (fun c4 => ?_)
    · have hf := i_neg c4 hf
      obtain ⟨x5, ex5, hf⟩ := b_some hf
      refine aw_iinc (v := x5) (L' := [(2, .int x5), (0, .ref l0), (1, .ref l1)]) 2 dX0_pointsInto_66 rfl (Option.some.inj ex5) (by decide) rfl ?_
      refine aw_goto (tgt := 37) dX0_pointsInto_69 (by decide) ?_
      exact aw_sub [1, 2, 0] rfl (hk37 _ _ hf)
    · have hf := i_pos c4 hf
      refine aw_aload_n 0 dX0_pointsInto_53 rfl rfl ?_
      refine aw_aload_n 1 dX0_pointsInto_54 rfl rfl ?_
      refine aw_iload_n 2 dX0_pointsInto_55 rfl rfl ?_
      refine aw_aload_n 0 dX0_pointsInto_56 rfl rfl ?_
      obtain ⟨r6, er6, hf⟩ := b_some hf
      refine aw_getR dX0_pointsInto_57 gfX0_30 er6 ?_
      refine aw_iload_n 2 dX0_pointsInto_60 rfl rfl ?_
      obtain ⟨x7, ex7, hf⟩ := b_some hf
      refine aw_iald dX0_pointsInto_61 ex7 ?_
      refine aw_iconst (v := 1) dX0_pointsInto_62 (by decide) ?_
      obtain ⟨q8, eq8, hf⟩ := b_some hf
      refine aw_cV0 (as := [.ref l1, .int l2, .int x7, .int (1 : Int32)]) dX0_pointsInto_63 moX0_award voX0_award mlX0_76 (k_X0_award eq8) rfl (rm_ok (by omega) (by decide)) ⟨Nat.le_refl _, Nat.le_refl _⟩ (Nat.le_of_ble_eq_true rfl) rfl (c_X0_award eq8) ?_
      obtain ⟨x9, ex9, hf⟩ := b_some hf
      refine aw_iinc (v := x9) (L' := [(2, .int x9), (0, .ref l0), (1, .ref l1)]) 2 dX0_pointsInto_66 rfl (Option.some.inj ex9) (by decide) rfl ?_
      refine aw_goto (tgt := 37) dX0_pointsInto_69 (by decide) ?_
      exact aw_sub [1, 2, 0] rfl (hk37 _ _ hf)
def f_X0_pointsInto_2 (k2 : Nat × Nat × Int32 → Hp → Option (Unit × Hp)) (v : Nat × Nat × Int32) (h0 : Hp) : Option (Unit × Hp) :=
  match v with
  | (l0, l1, l2) => if (6 : Int32) ≤ l2 then (lp (f_X0_pointsInto_37) 600 (l0, l1, (0 : Int32)) h0) else ((gI h0 l0 0 0).bind fun x2 => if x2 ≤ l2 then (f_X0_pointsInto_28 k2 l0 l1 l2 (0 : Int32) l2 l1 h0) else ((gR h0 l0 0 3).bind fun r4 => (aL h0 r4 l2).bind fun x5 => f_X0_pointsInto_28 k2 l0 l1 l2 x5 l2 l1 h0))
set_option maxRecDepth 100000 in
set_option maxHeartbeats 4000000 in
theorem c_X0_pointsInto_2 {X : Cx} {adr : Nat → Nat} {q : Unit × Hp} (hr : (mth X).sig.returnType = none) (n : Nat) : ∀ v h0, lp (f_X0_pointsInto_2) n v h0 = some q → AW X cX0_pointsInto 3 RX0 (rmd 2 0 0) (Qmet X 0 0 (Qe none q.2 adr)) 0 0 adr h0 2 [(0, .ref v.1), (1, .ref v.2.1), (2, .int v.2.2)] [] := by
  refine aw_lp (fun k2 hk2 v h0 hf => ?_) n
  obtain ⟨l0, l1, l2⟩ := v
  unfold f_X0_pointsInto_2 at hf
  dsimp only at hf
  show AW X cX0_pointsInto 3 RX0 (rmd 2 0 0) (Qmet X 0 0 (Qe none q.2 adr)) 0 0 adr h0 2 [(0, .ref l0), (1, .ref l1), (2, .int l2)] []
  refine aw_iload_n 2 dX0_pointsInto_2 rfl rfl ?_
  refine aw_bipush (v := 6) dX0_pointsInto_3 (by decide) ?_
  refine aw_icmp_ge (tgt := 35) dX0_pointsInto_5 (by decide) (fun c1 => ?_) (fun c1 => ?_)
  · have hf := i_pos c1 hf
    refine aw_iconst (v := 0) dX0_pointsInto_35 (by decide) ?_
    refine aw_istore_n (L' := [(2, .int (0 : Int32)), (0, .ref l0), (1, .ref l1)]) dX0_pointsInto_36 rfl (by decide) rfl ?_
    exact aw_sub [1, 2, 0] rfl (c_X0_pointsInto_37 hr 600 _ _ hf)
  · have hf := i_neg c1 hf
    refine aw_aload_n 1 dX0_pointsInto_8 rfl rfl ?_
    refine aw_iload_n 2 dX0_pointsInto_9 rfl rfl ?_
    refine aw_iload_n 2 dX0_pointsInto_10 rfl rfl ?_
    refine aw_aload_n 0 dX0_pointsInto_11 rfl rfl ?_
    obtain ⟨x2, ex2, hf⟩ := b_some hf
    refine aw_getI dX0_pointsInto_12 gfX0_33 ex2 ?_
    refine aw_icmp_ge (tgt := 27) dX0_pointsInto_15 (by decide) (fun c3 => ?_) (fun c3 => ?_)
    · have hf := i_pos c3 hf
      refine aw_iconst (v := 0) dX0_pointsInto_27 (by decide) ?_
      exact aw_sub [0, 1, 2] rfl (c_X0_pointsInto_28 hr hk2 hf)
    · have hf := i_neg c3 hf
      refine aw_aload_n 0 dX0_pointsInto_18 rfl rfl ?_
      obtain ⟨r4, er4, hf⟩ := b_some hf
      refine aw_getR dX0_pointsInto_19 gfX0_9 er4 ?_
      refine aw_iload_n 2 dX0_pointsInto_22 rfl rfl ?_
      obtain ⟨x5, ex5, hf⟩ := b_some hf
      refine aw_iald dX0_pointsInto_23 ex5 ?_
      refine aw_goto (tgt := 28) dX0_pointsInto_24 (by decide) ?_
      exact aw_sub [0, 1, 2] rfl (c_X0_pointsInto_28 hr hk2 hf)
def f_X0_pointsInto (l0 : Nat) (l1 : Nat) (h0 : Hp) : Option (Unit × Hp) :=
  (ck h0 l0 0).bind fun _ => lp (f_X0_pointsInto_2) 600 (l0, l1, (0 : Int32)) h0
set_option maxRecDepth 100000 in
set_option maxHeartbeats 4000000 in
theorem c_X0_pointsInto {l0 : Nat} {l1 : Nat} {h0 : Hp} {q : Unit × Hp} (hf : f_X0_pointsInto l0 l1 h0 = some q) : Mt 2 yX0_pointsInto cX0_pointsInto 3 none [.ref l0, .ref l1] h0 none q.2 := by
  refine MtQ.of (by decide) (Nat.le_of_ble_eq_true rfl) (fun X adr hr hn => ?_)
  unfold f_X0_pointsInto at hf
  show AW X cX0_pointsInto 3 RX0 (rmd 2 0 0) (Qmet X 0 0 (Qe none q.2 adr)) 0 0 adr h0 0 [(0, .ref l0), (1, .ref l1)] []
  obtain ⟨u0, e0, hf⟩ := b_some hf
  refine aw_iconst (v := 0) dX0_pointsInto_0 (by decide) ?_
  refine aw_istore_n (L' := [(2, .int (0 : Int32)), (0, .ref l0), (1, .ref l1)]) dX0_pointsInto_1 rfl (by decide) rfl ?_
  exact aw_sub [1, 2, 0] rfl (c_X0_pointsInto_2 hr 600 _ _ hf)
theorem k_X0_pointsInto {l0 : Nat} {l1 : Nat} {h0 : Hp} {q : Unit × Hp} (hf : f_X0_pointsInto l0 l1 h0 = some q) : ck h0 l0 0 = some () := by
  unfold f_X0_pointsInto at hf
  obtain ⟨u0, e0, hf⟩ := b_some hf
  exact e0
theorem dX0_takeFrom_0 : decode cX0_takeFrom 0 = .ok (.aload_n 0, 1) := by decide +kernel
theorem dX0_takeFrom_1 : decode cX0_takeFrom 1 = .ok (.aload_n 1, 1) := by decide +kernel
theorem dX0_takeFrom_2 : decode cX0_takeFrom 2 = .ok (.getfield 33, 3) := by decide +kernel
theorem dX0_takeFrom_5 : decode cX0_takeFrom 5 = .ok (.putfield 33, 3) := by decide +kernel
theorem dX0_takeFrom_8 : decode cX0_takeFrom 8 = .ok (.aload_n 0, 1) := by decide +kernel
theorem dX0_takeFrom_9 : decode cX0_takeFrom 9 = .ok (.aload_n 1, 1) := by decide +kernel
theorem dX0_takeFrom_10 : decode cX0_takeFrom 10 = .ok (.getfield 37, 3) := by decide +kernel
theorem dX0_takeFrom_13 : decode cX0_takeFrom 13 = .ok (.putfield 37, 3) := by decide +kernel
theorem dX0_takeFrom_16 : decode cX0_takeFrom 16 = .ok (.aload_n 0, 1) := by decide +kernel
theorem dX0_takeFrom_17 : decode cX0_takeFrom 17 = .ok (.aload_n 1, 1) := by decide +kernel
theorem dX0_takeFrom_18 : decode cX0_takeFrom 18 = .ok (.getfield 40, 3) := by decide +kernel
theorem dX0_takeFrom_21 : decode cX0_takeFrom 21 = .ok (.putfield 40, 3) := by decide +kernel
theorem dX0_takeFrom_24 : decode cX0_takeFrom 24 = .ok (.aload_n 1, 1) := by decide +kernel
theorem dX0_takeFrom_25 : decode cX0_takeFrom 25 = .ok (.getfield 9, 3) := by decide +kernel
theorem dX0_takeFrom_28 : decode cX0_takeFrom 28 = .ok (.iconst 0, 1) := by decide +kernel
theorem dX0_takeFrom_29 : decode cX0_takeFrom 29 = .ok (.aload_n 0, 1) := by decide +kernel
theorem dX0_takeFrom_30 : decode cX0_takeFrom 30 = .ok (.getfield 9, 3) := by decide +kernel
theorem dX0_takeFrom_33 : decode cX0_takeFrom 33 = .ok (.iconst 0, 1) := by decide +kernel
theorem dX0_takeFrom_34 : decode cX0_takeFrom 34 = .ok (.bipush 6, 2) := by decide +kernel
theorem dX0_takeFrom_36 : decode cX0_takeFrom 36 = .ok (.invokestatic 43, 3) := by decide +kernel
theorem dX0_takeFrom_39 : decode cX0_takeFrom 39 = .ok (.aload_n 1, 1) := by decide +kernel
theorem dX0_takeFrom_40 : decode cX0_takeFrom 40 = .ok (.getfield 15, 3) := by decide +kernel
theorem dX0_takeFrom_43 : decode cX0_takeFrom 43 = .ok (.iconst 0, 1) := by decide +kernel
theorem dX0_takeFrom_44 : decode cX0_takeFrom 44 = .ok (.aload_n 0, 1) := by decide +kernel
theorem dX0_takeFrom_45 : decode cX0_takeFrom 45 = .ok (.getfield 15, 3) := by decide +kernel
theorem dX0_takeFrom_48 : decode cX0_takeFrom 48 = .ok (.iconst 0, 1) := by decide +kernel
theorem dX0_takeFrom_49 : decode cX0_takeFrom 49 = .ok (.bipush 6, 2) := by decide +kernel
theorem dX0_takeFrom_51 : decode cX0_takeFrom 51 = .ok (.invokestatic 43, 3) := by decide +kernel
theorem dX0_takeFrom_54 : decode cX0_takeFrom 54 = .ok (.aload_n 1, 1) := by decide +kernel
theorem dX0_takeFrom_55 : decode cX0_takeFrom 55 = .ok (.getfield 18, 3) := by decide +kernel
theorem dX0_takeFrom_58 : decode cX0_takeFrom 58 = .ok (.iconst 0, 1) := by decide +kernel
theorem dX0_takeFrom_59 : decode cX0_takeFrom 59 = .ok (.aload_n 0, 1) := by decide +kernel
theorem dX0_takeFrom_60 : decode cX0_takeFrom 60 = .ok (.getfield 18, 3) := by decide +kernel
theorem dX0_takeFrom_63 : decode cX0_takeFrom 63 = .ok (.iconst 0, 1) := by decide +kernel
theorem dX0_takeFrom_64 : decode cX0_takeFrom 64 = .ok (.bipush 36, 2) := by decide +kernel
theorem dX0_takeFrom_66 : decode cX0_takeFrom 66 = .ok (.invokestatic 43, 3) := by decide +kernel
theorem dX0_takeFrom_69 : decode cX0_takeFrom 69 = .ok (.aload_n 1, 1) := by decide +kernel
theorem dX0_takeFrom_70 : decode cX0_takeFrom 70 = .ok (.getfield 21, 3) := by decide +kernel
theorem dX0_takeFrom_73 : decode cX0_takeFrom 73 = .ok (.iconst 0, 1) := by decide +kernel
theorem dX0_takeFrom_74 : decode cX0_takeFrom 74 = .ok (.aload_n 0, 1) := by decide +kernel
theorem dX0_takeFrom_75 : decode cX0_takeFrom 75 = .ok (.getfield 21, 3) := by decide +kernel
theorem dX0_takeFrom_78 : decode cX0_takeFrom 78 = .ok (.iconst 0, 1) := by decide +kernel
theorem dX0_takeFrom_79 : decode cX0_takeFrom 79 = .ok (.bipush 9, 2) := by decide +kernel
theorem dX0_takeFrom_81 : decode cX0_takeFrom 81 = .ok (.invokestatic 43, 3) := by decide +kernel
theorem dX0_takeFrom_84 : decode cX0_takeFrom 84 = .ok (.aload_n 1, 1) := by decide +kernel
theorem dX0_takeFrom_85 : decode cX0_takeFrom 85 = .ok (.getfield 24, 3) := by decide +kernel
theorem dX0_takeFrom_88 : decode cX0_takeFrom 88 = .ok (.iconst 0, 1) := by decide +kernel
theorem dX0_takeFrom_89 : decode cX0_takeFrom 89 = .ok (.aload_n 0, 1) := by decide +kernel
theorem dX0_takeFrom_90 : decode cX0_takeFrom 90 = .ok (.getfield 24, 3) := by decide +kernel
theorem dX0_takeFrom_93 : decode cX0_takeFrom 93 = .ok (.iconst 0, 1) := by decide +kernel
theorem dX0_takeFrom_94 : decode cX0_takeFrom 94 = .ok (.bipush 9, 2) := by decide +kernel
theorem dX0_takeFrom_96 : decode cX0_takeFrom 96 = .ok (.invokestatic 43, 3) := by decide +kernel
theorem dX0_takeFrom_99 : decode cX0_takeFrom 99 = .ok (.aload_n 1, 1) := by decide +kernel
theorem dX0_takeFrom_100 : decode cX0_takeFrom 100 = .ok (.getfield 27, 3) := by decide +kernel
theorem dX0_takeFrom_103 : decode cX0_takeFrom 103 = .ok (.iconst 0, 1) := by decide +kernel
theorem dX0_takeFrom_104 : decode cX0_takeFrom 104 = .ok (.aload_n 0, 1) := by decide +kernel
theorem dX0_takeFrom_105 : decode cX0_takeFrom 105 = .ok (.getfield 27, 3) := by decide +kernel
theorem dX0_takeFrom_108 : decode cX0_takeFrom 108 = .ok (.iconst 0, 1) := by decide +kernel
theorem dX0_takeFrom_109 : decode cX0_takeFrom 109 = .ok (.bipush 9, 2) := by decide +kernel
theorem dX0_takeFrom_111 : decode cX0_takeFrom 111 = .ok (.invokestatic 43, 3) := by decide +kernel
theorem dX0_takeFrom_114 : decode cX0_takeFrom 114 = .ok (.aload_n 1, 1) := by decide +kernel
theorem dX0_takeFrom_115 : decode cX0_takeFrom 115 = .ok (.getfield 30, 3) := by decide +kernel
theorem dX0_takeFrom_118 : decode cX0_takeFrom 118 = .ok (.iconst 0, 1) := by decide +kernel
theorem dX0_takeFrom_119 : decode cX0_takeFrom 119 = .ok (.aload_n 0, 1) := by decide +kernel
theorem dX0_takeFrom_120 : decode cX0_takeFrom 120 = .ok (.getfield 30, 3) := by decide +kernel
theorem dX0_takeFrom_123 : decode cX0_takeFrom 123 = .ok (.iconst 0, 1) := by decide +kernel
theorem dX0_takeFrom_124 : decode cX0_takeFrom 124 = .ok (.bipush 9, 2) := by decide +kernel
theorem dX0_takeFrom_126 : decode cX0_takeFrom 126 = .ok (.invokestatic 43, 3) := by decide +kernel
theorem dX0_takeFrom_129 : decode cX0_takeFrom 129 = .ok (.return_, 1) := by decide +kernel
def f_X0_takeFrom (l0 : Nat) (l1 : Nat) (h0 : Hp) : Option (Unit × Hp) :=
  (ck h0 l0 0).bind fun _ => (gI h0 l1 0 0).bind fun x1 => (pI h0 l0 0 0 x1).bind fun h2 => (gI h2 l1 0 1).bind fun x3 => (pI h2 l0 0 1 x3).bind fun h4 => (gI h4 l1 0 2).bind fun x5 => (pI h4 l0 0 2 x5).bind fun h6 => (gR h6 l1 0 3).bind fun r7 => (gR h6 l0 0 3).bind fun r8 => (aC h6 r7 (0 : Int32) r8 (0 : Int32) (6 : Int32)).bind fun h9 => (gR h9 l1 0 4).bind fun r10 => (gR h9 l0 0 4).bind fun r11 => (aC h9 r10 (0 : Int32) r11 (0 : Int32) (6 : Int32)).bind fun h12 => (gR h12 l1 0 5).bind fun r13 => (gR h12 l0 0 5).bind fun r14 => (aC h12 r13 (0 : Int32) r14 (0 : Int32) (36 : Int32)).bind fun h15 => (gR h15 l1 0 6).bind fun r16 => (gR h15 l0 0 6).bind fun r17 => (aC h15 r16 (0 : Int32) r17 (0 : Int32) (9 : Int32)).bind fun h18 => (gR h18 l1 0 7).bind fun r19 => (gR h18 l0 0 7).bind fun r20 => (aC h18 r19 (0 : Int32) r20 (0 : Int32) (9 : Int32)).bind fun h21 => (gR h21 l1 0 8).bind fun r22 => (gR h21 l0 0 8).bind fun r23 => (aC h21 r22 (0 : Int32) r23 (0 : Int32) (9 : Int32)).bind fun h24 => (gR h24 l1 0 9).bind fun r25 => (gR h24 l0 0 9).bind fun r26 => (aC h24 r25 (0 : Int32) r26 (0 : Int32) (9 : Int32)).bind fun h27 => some ((), h27)
set_option maxRecDepth 100000 in
set_option maxHeartbeats 4000000 in
theorem c_X0_takeFrom {l0 : Nat} {l1 : Nat} {h0 : Hp} {q : Unit × Hp} (hf : f_X0_takeFrom l0 l1 h0 = some q) : Mt 2 yX0_takeFrom cX0_takeFrom 2 none [.ref l0, .ref l1] h0 none q.2 := by
  refine MtQ.of (by decide) (Nat.le_of_ble_eq_true rfl) (fun X adr hr hn => ?_)
  unfold f_X0_takeFrom at hf
  show AW X cX0_takeFrom 2 RX0 (rmd 2 0 0) (Qmet X 0 0 (Qe none q.2 adr)) 0 0 adr h0 0 [(0, .ref l0), (1, .ref l1)] []
  obtain ⟨u0, e0, hf⟩ := b_some hf
  refine aw_aload_n 0 dX0_takeFrom_0 rfl rfl ?_
  refine aw_aload_n 1 dX0_takeFrom_1 rfl rfl ?_
  obtain ⟨x1, ex1, hf⟩ := b_some hf
  refine aw_getI dX0_takeFrom_2 gfX0_33 ex1 ?_
  obtain ⟨h2, eh2, hf⟩ := b_some hf
  refine aw_putI dX0_takeFrom_5 pfX0_33 eh2 ?_
  refine aw_aload_n 0 dX0_takeFrom_8 rfl rfl ?_
  refine aw_aload_n 1 dX0_takeFrom_9 rfl rfl ?_
  obtain ⟨x3, ex3, hf⟩ := b_some hf
  refine aw_getI dX0_takeFrom_10 gfX0_37 ex3 ?_
  obtain ⟨h4, eh4, hf⟩ := b_some hf
  refine aw_putI dX0_takeFrom_13 pfX0_37 eh4 ?_
  refine aw_aload_n 0 dX0_takeFrom_16 rfl rfl ?_
  refine aw_aload_n 1 dX0_takeFrom_17 rfl rfl ?_
  obtain ⟨x5, ex5, hf⟩ := b_some hf
  refine aw_getI dX0_takeFrom_18 gfX0_40 ex5 ?_
  obtain ⟨h6, eh6, hf⟩ := b_some hf
  refine aw_putI dX0_takeFrom_21 pfX0_40 eh6 ?_
  refine aw_aload_n 1 dX0_takeFrom_24 rfl rfl ?_
  obtain ⟨r7, er7, hf⟩ := b_some hf
  refine aw_getR dX0_takeFrom_25 gfX0_9 er7 ?_
  refine aw_iconst (v := 0) dX0_takeFrom_28 (by decide) ?_
  refine aw_aload_n 0 dX0_takeFrom_29 rfl rfl ?_
  obtain ⟨r8, er8, hf⟩ := b_some hf
  refine aw_getR dX0_takeFrom_30 gfX0_9 er8 ?_
  refine aw_iconst (v := 0) dX0_takeFrom_33 (by decide) ?_
  refine aw_bipush (v := 6) dX0_takeFrom_34 (by decide) ?_
  obtain ⟨h9, eh9, hf⟩ := b_some hf
  refine aw_copy dX0_takeFrom_36 mlX0_43 (by decide) (Nat.le_of_ble_eq_true rfl) eh9 ?_
  refine aw_aload_n 1 dX0_takeFrom_39 rfl rfl ?_
  obtain ⟨r10, er10, hf⟩ := b_some hf
  refine aw_getR dX0_takeFrom_40 gfX0_15 er10 ?_
  refine aw_iconst (v := 0) dX0_takeFrom_43 (by decide) ?_
  refine aw_aload_n 0 dX0_takeFrom_44 rfl rfl ?_
  obtain ⟨r11, er11, hf⟩ := b_some hf
  refine aw_getR dX0_takeFrom_45 gfX0_15 er11 ?_
  refine aw_iconst (v := 0) dX0_takeFrom_48 (by decide) ?_
  refine aw_bipush (v := 6) dX0_takeFrom_49 (by decide) ?_
  obtain ⟨h12, eh12, hf⟩ := b_some hf
  refine aw_copy dX0_takeFrom_51 mlX0_43 (by decide) (Nat.le_of_ble_eq_true rfl) eh12 ?_
  refine aw_aload_n 1 dX0_takeFrom_54 rfl rfl ?_
  obtain ⟨r13, er13, hf⟩ := b_some hf
  refine aw_getR dX0_takeFrom_55 gfX0_18 er13 ?_
  refine aw_iconst (v := 0) dX0_takeFrom_58 (by decide) ?_
  refine aw_aload_n 0 dX0_takeFrom_59 rfl rfl ?_
  obtain ⟨r14, er14, hf⟩ := b_some hf
  refine aw_getR dX0_takeFrom_60 gfX0_18 er14 ?_
  refine aw_iconst (v := 0) dX0_takeFrom_63 (by decide) ?_
  refine aw_bipush (v := 36) dX0_takeFrom_64 (by decide) ?_
  obtain ⟨h15, eh15, hf⟩ := b_some hf
  refine aw_copy dX0_takeFrom_66 mlX0_43 (by decide) (Nat.le_of_ble_eq_true rfl) eh15 ?_
  refine aw_aload_n 1 dX0_takeFrom_69 rfl rfl ?_
  obtain ⟨r16, er16, hf⟩ := b_some hf
  refine aw_getR dX0_takeFrom_70 gfX0_21 er16 ?_
  refine aw_iconst (v := 0) dX0_takeFrom_73 (by decide) ?_
  refine aw_aload_n 0 dX0_takeFrom_74 rfl rfl ?_
  obtain ⟨r17, er17, hf⟩ := b_some hf
  refine aw_getR dX0_takeFrom_75 gfX0_21 er17 ?_
  refine aw_iconst (v := 0) dX0_takeFrom_78 (by decide) ?_
  refine aw_bipush (v := 9) dX0_takeFrom_79 (by decide) ?_
  obtain ⟨h18, eh18, hf⟩ := b_some hf
  refine aw_copy dX0_takeFrom_81 mlX0_43 (by decide) (Nat.le_of_ble_eq_true rfl) eh18 ?_
  refine aw_aload_n 1 dX0_takeFrom_84 rfl rfl ?_
  obtain ⟨r19, er19, hf⟩ := b_some hf
  refine aw_getR dX0_takeFrom_85 gfX0_24 er19 ?_
  refine aw_iconst (v := 0) dX0_takeFrom_88 (by decide) ?_
  refine aw_aload_n 0 dX0_takeFrom_89 rfl rfl ?_
  obtain ⟨r20, er20, hf⟩ := b_some hf
  refine aw_getR dX0_takeFrom_90 gfX0_24 er20 ?_
  refine aw_iconst (v := 0) dX0_takeFrom_93 (by decide) ?_
  refine aw_bipush (v := 9) dX0_takeFrom_94 (by decide) ?_
  obtain ⟨h21, eh21, hf⟩ := b_some hf
  refine aw_copy dX0_takeFrom_96 mlX0_43 (by decide) (Nat.le_of_ble_eq_true rfl) eh21 ?_
  refine aw_aload_n 1 dX0_takeFrom_99 rfl rfl ?_
  obtain ⟨r22, er22, hf⟩ := b_some hf
  refine aw_getR dX0_takeFrom_100 gfX0_27 er22 ?_
  refine aw_iconst (v := 0) dX0_takeFrom_103 (by decide) ?_
  refine aw_aload_n 0 dX0_takeFrom_104 rfl rfl ?_
  obtain ⟨r23, er23, hf⟩ := b_some hf
  refine aw_getR dX0_takeFrom_105 gfX0_27 er23 ?_
  refine aw_iconst (v := 0) dX0_takeFrom_108 (by decide) ?_
  refine aw_bipush (v := 9) dX0_takeFrom_109 (by decide) ?_
  obtain ⟨h24, eh24, hf⟩ := b_some hf
  refine aw_copy dX0_takeFrom_111 mlX0_43 (by decide) (Nat.le_of_ble_eq_true rfl) eh24 ?_
  refine aw_aload_n 1 dX0_takeFrom_114 rfl rfl ?_
  obtain ⟨r25, er25, hf⟩ := b_some hf
  refine aw_getR dX0_takeFrom_115 gfX0_30 er25 ?_
  refine aw_iconst (v := 0) dX0_takeFrom_118 (by decide) ?_
  refine aw_aload_n 0 dX0_takeFrom_119 rfl rfl ?_
  obtain ⟨r26, er26, hf⟩ := b_some hf
  refine aw_getR dX0_takeFrom_120 gfX0_30 er26 ?_
  refine aw_iconst (v := 0) dX0_takeFrom_123 (by decide) ?_
  refine aw_bipush (v := 9) dX0_takeFrom_124 (by decide) ?_
  obtain ⟨h27, eh27, hf⟩ := b_some hf
  refine aw_copy dX0_takeFrom_126 mlX0_43 (by decide) (Nat.le_of_ble_eq_true rfl) eh27 ?_
  have hq := Option.some.inj hf
  subst hq
  exact aw_vret hr dX0_takeFrom_129 ⟨rfl, rfl, rfl⟩
theorem k_X0_takeFrom {l0 : Nat} {l1 : Nat} {h0 : Hp} {q : Unit × Hp} (hf : f_X0_takeFrom l0 l1 h0 = some q) : ck h0 l0 0 = some () := by
  unfold f_X0_takeFrom at hf
  obtain ⟨u0, e0, hf⟩ := b_some hf
  exact e0
theorem dX0_wasPlayedOn_0 : decode cX0_wasPlayedOn 0 = .ok (.iconst 0, 1) := by decide +kernel
theorem dX0_wasPlayedOn_1 : decode cX0_wasPlayedOn 1 = .ok (.istore_n 2, 1) := by decide +kernel
theorem dX0_wasPlayedOn_2 : decode cX0_wasPlayedOn 2 = .ok (.iload_n 2, 1) := by decide +kernel
theorem dX0_wasPlayedOn_3 : decode cX0_wasPlayedOn 3 = .ok (.aload_n 0, 1) := by decide +kernel
theorem dX0_wasPlayedOn_4 : decode cX0_wasPlayedOn 4 = .ok (.getfield 37, 3) := by decide +kernel
theorem dX0_wasPlayedOn_7 : decode cX0_wasPlayedOn 7 = .ok (.if_icmp .ge 29, 3) := by decide +kernel
theorem dX0_wasPlayedOn_10 : decode cX0_wasPlayedOn 10 = .ok (.aload_n 0, 1) := by decide +kernel
theorem dX0_wasPlayedOn_11 : decode cX0_wasPlayedOn 11 = .ok (.getfield 27, 3) := by decide +kernel
theorem dX0_wasPlayedOn_14 : decode cX0_wasPlayedOn 14 = .ok (.iload_n 2, 1) := by decide +kernel
theorem dX0_wasPlayedOn_15 : decode cX0_wasPlayedOn 15 = .ok (.iaload, 1) := by decide +kernel
theorem dX0_wasPlayedOn_16 : decode cX0_wasPlayedOn 16 = .ok (.iload_n 1, 1) := by decide +kernel
theorem dX0_wasPlayedOn_17 : decode cX0_wasPlayedOn 17 = .ok (.if_icmp .ne 13, 3) := by decide +kernel
theorem dX0_wasPlayedOn_20 : decode cX0_wasPlayedOn 20 = .ok (.aload_n 0, 1) := by decide +kernel
theorem dX0_wasPlayedOn_21 : decode cX0_wasPlayedOn 21 = .ok (.iload_n 2, 1) := by decide +kernel
theorem dX0_wasPlayedOn_22 : decode cX0_wasPlayedOn 22 = .ok (.invokevirtual 69, 3) := by decide +kernel
theorem dX0_wasPlayedOn_25 : decode cX0_wasPlayedOn 25 = .ok (.ifCond .ne 5, 3) := by decide +kernel
theorem dX0_wasPlayedOn_28 : decode cX0_wasPlayedOn 28 = .ok (.iconst 1, 1) := by decide +kernel
theorem dX0_wasPlayedOn_29 : decode cX0_wasPlayedOn 29 = .ok (.ireturn, 1) := by decide +kernel
theorem dX0_wasPlayedOn_30 : decode cX0_wasPlayedOn 30 = .ok (.iinc 2 1, 3) := by decide +kernel
theorem dX0_wasPlayedOn_33 : decode cX0_wasPlayedOn 33 = .ok (.goto (-31), 3) := by decide +kernel
theorem dX0_wasPlayedOn_36 : decode cX0_wasPlayedOn 36 = .ok (.iconst 0, 1) := by decide +kernel
theorem dX0_wasPlayedOn_37 : decode cX0_wasPlayedOn 37 = .ok (.ireturn, 1) := by decide +kernel
def f_X0_wasPlayedOn_2 (k2 : Nat × Int32 × Int32 → Hp → Option (Int32 × Hp)) (v : Nat × Int32 × Int32) (h0 : Hp) : Option (Int32 × Hp) :=
  match v with
  | (l0, l1, l2) => (gI h0 l0 0 1).bind fun x1 => if x1 ≤ l2 then (some ((0 : Int32), h0)) else ((gR h0 l0 0 8).bind fun r3 => (aL h0 r3 l2).bind fun x4 => if x4 = l1 then ((f_X0_isLeft l0 l2 h0).bind fun q7 => if q7.1 = 0 then (some ((1 : Int32), q7.2)) else ((some (l2 + 1)).bind fun x9 => k2 (l0, l1, x9) q7.2)) else ((some (l2 + 1)).bind fun x6 => k2 (l0, l1, x6) h0))
set_option maxRecDepth 100000 in
set_option maxHeartbeats 4000000 in
theorem c_X0_wasPlayedOn_2 {X : Cx} {adr : Nat → Nat} {q : Int32 × Hp} (hr : (mth X).sig.returnType = (some .boolean)) (n : Nat) : ∀ v h0, lp (f_X0_wasPlayedOn_2) n v h0 = some q → AW X cX0_wasPlayedOn 3 RX0 (rmd 2 0 0) (Qmet X 0 0 (Qe (some (.int q.1)) q.2 adr)) 0 0 adr h0 2 [(0, .ref v.1), (1, .int v.2.1), (2, .int v.2.2)] [] := by
  refine aw_lp (fun k2 hk2 v h0 hf => ?_) n
  obtain ⟨l0, l1, l2⟩ := v
  unfold f_X0_wasPlayedOn_2 at hf
  dsimp only at hf
  show AW X cX0_wasPlayedOn 3 RX0 (rmd 2 0 0) (Qmet X 0 0 (Qe (some (.int q.1)) q.2 adr)) 0 0 adr h0 2 [(0, .ref l0), (1, .int l1), (2, .int l2)] []
  refine aw_iload_n 2 dX0_wasPlayedOn_2 rfl rfl ?_
  refine aw_aload_n 0 dX0_wasPlayedOn_3 rfl rfl ?_
  obtain ⟨x1, ex1, hf⟩ := b_some hf
  refine aw_getI dX0_wasPlayedOn_4 gfX0_37 ex1 ?_
  refine aw_icmp_ge (tgt := 36) dX0_wasPlayedOn_7 (by decide) (fun c2 => ?_) (fun c2 => ?_)
  · have hf := i_pos c2 hf
    refine aw_iconst (v := 0) dX0_wasPlayedOn_36 (by decide) ?_
    have hq := Option.some.inj hf
    subst hq
    exact aw_zret hr (by decide) dX0_wasPlayedOn_37 ⟨rfl, rfl, rfl⟩
  · have hf := i_neg c2 hf
    refine aw_aload_n 0 dX0_wasPlayedOn_10 rfl rfl ?_
    obtain ⟨r3, er3, hf⟩ := b_some hf
    refine aw_getR dX0_wasPlayedOn_11 gfX0_27 er3 ?_
    refine aw_iload_n 2 dX0_wasPlayedOn_14 rfl rfl ?_
    obtain ⟨x4, ex4, hf⟩ := b_some hf
    refine aw_iald dX0_wasPlayedOn_15 ex4 ?_
    refine aw_iload_n 1 dX0_wasPlayedOn_16 rfl rfl ?_
    refine aw_icmp_ne (tgt := 30) dX0_wasPlayedOn_17 (by decide) (fun c5 => ?_) (fun c5 => ?_)
    · have hf := i_neg c5 hf
      obtain ⟨x6, ex6, hf⟩ := b_some hf
      refine aw_iinc (v := x6) (L' := [(2, .int x6), (0, .ref l0), (1, .int l1)]) 2 dX0_wasPlayedOn_30 rfl (Option.some.inj ex6) (by decide) rfl ?_
      refine aw_goto (tgt := 2) dX0_wasPlayedOn_33 (by decide) ?_
      exact aw_sub [1, 2, 0] rfl (hk2 _ _ hf)
    · have hf := i_pos c5 hf
      refine aw_aload_n 0 dX0_wasPlayedOn_20 rfl rfl ?_
      refine aw_iload_n 2 dX0_wasPlayedOn_21 rfl rfl ?_
      obtain ⟨q7, eq7, hf⟩ := b_some hf
      refine aw_cV (as := [.int l2]) dX0_wasPlayedOn_22 moX0_isLeft voX0_isLeft mlX0_69 (k_X0_isLeft eq7) rfl (rm_ok (by omega) (by decide)) ⟨Nat.le_refl _, Nat.le_refl _⟩ (Nat.le_of_ble_eq_true rfl) rfl (c_X0_isLeft eq7) ?_
      refine aw_if_ne (tgt := 30) dX0_wasPlayedOn_25 (by decide) (fun c8 => ?_) (fun c8 => ?_)
      · have hf := i_neg c8 hf
        obtain ⟨x9, ex9, hf⟩ := b_some hf
        refine aw_iinc (v := x9) (L' := [(2, .int x9), (0, .ref l0), (1, .int l1)]) 2 dX0_wasPlayedOn_30 rfl (Option.some.inj ex9) (by decide) rfl ?_
        refine aw_goto (tgt := 2) dX0_wasPlayedOn_33 (by decide) ?_
        exact aw_sub [1, 2, 0] rfl (hk2 _ _ hf)
      · have hf := i_pos c8 hf
        refine aw_iconst (v := 1) dX0_wasPlayedOn_28 (by decide) ?_
        have hq := Option.some.inj hf
        subst hq
        exact aw_zret hr (by decide) dX0_wasPlayedOn_29 ⟨rfl, rfl, rfl⟩
def f_X0_wasPlayedOn (l0 : Nat) (l1 : Int32) (h0 : Hp) : Option (Int32 × Hp) :=
  (ck h0 l0 0).bind fun _ => lp (f_X0_wasPlayedOn_2) 600 (l0, l1, (0 : Int32)) h0
set_option maxRecDepth 100000 in
set_option maxHeartbeats 4000000 in
theorem c_X0_wasPlayedOn {l0 : Nat} {l1 : Int32} {h0 : Hp} {q : Int32 × Hp} (hf : f_X0_wasPlayedOn l0 l1 h0 = some q) : Mt 2 yX0_wasPlayedOn cX0_wasPlayedOn 3 (some .boolean) [.ref l0, .int l1] h0 (some (.int q.1)) q.2 := by
  refine MtQ.of (by decide) (Nat.le_of_ble_eq_true rfl) (fun X adr hr hn => ?_)
  unfold f_X0_wasPlayedOn at hf
  show AW X cX0_wasPlayedOn 3 RX0 (rmd 2 0 0) (Qmet X 0 0 (Qe (some (.int q.1)) q.2 adr)) 0 0 adr h0 0 [(0, .ref l0), (1, .int l1)] []
  obtain ⟨u0, e0, hf⟩ := b_some hf
  refine aw_iconst (v := 0) dX0_wasPlayedOn_0 (by decide) ?_
  refine aw_istore_n (L' := [(2, .int (0 : Int32)), (0, .ref l0), (1, .int l1)]) dX0_wasPlayedOn_1 rfl (by decide) rfl ?_
  exact aw_sub [1, 2, 0] rfl (c_X0_wasPlayedOn_2 hr 600 _ _ hf)
theorem k_X0_wasPlayedOn {l0 : Nat} {l1 : Int32} {h0 : Hp} {q : Int32 × Hp} (hf : f_X0_wasPlayedOn l0 l1 h0 = some q) : ck h0 l0 0 = some () := by
  unfold f_X0_wasPlayedOn at hf
  obtain ⟨u0, e0, hf⟩ := b_some hf
  exact e0
theorem dX0_whose_0 : decode cX0_whose 0 = .ok (.iconst 0, 1) := by decide +kernel
theorem dX0_whose_1 : decode cX0_whose 1 = .ok (.istore 4, 2) := by decide +kernel
theorem dX0_whose_3 : decode cX0_whose 3 = .ok (.iload 4, 2) := by decide +kernel
theorem dX0_whose_5 : decode cX0_whose 5 = .ok (.aload_n 0, 1) := by decide +kernel
theorem dX0_whose_6 : decode cX0_whose 6 = .ok (.getfield 33, 3) := by decide +kernel
theorem dX0_whose_9 : decode cX0_whose 9 = .ok (.if_icmp .ge 24, 3) := by decide +kernel
theorem dX0_whose_12 : decode cX0_whose 12 = .ok (.aload_n 0, 1) := by decide +kernel
theorem dX0_whose_13 : decode cX0_whose 13 = .ok (.iload 4, 2) := by decide +kernel
theorem dX0_whose_15 : decode cX0_whose 15 = .ok (.aload_n 1, 1) := by decide +kernel
theorem dX0_whose_16 : decode cX0_whose 16 = .ok (.iload_n 2, 1) := by decide +kernel
theorem dX0_whose_17 : decode cX0_whose 17 = .ok (.iload_n 3, 1) := by decide +kernel
theorem dX0_whose_18 : decode cX0_whose 18 = .ok (.invokevirtual 61, 3) := by decide +kernel
theorem dX0_whose_21 : decode cX0_whose 21 = .ok (.ifCond .eq 6, 3) := by decide +kernel
theorem dX0_whose_24 : decode cX0_whose 24 = .ok (.iload 4, 2) := by decide +kernel
theorem dX0_whose_26 : decode cX0_whose 26 = .ok (.ireturn, 1) := by decide +kernel
theorem dX0_whose_27 : decode cX0_whose 27 = .ok (.iinc 4 1, 3) := by decide +kernel
theorem dX0_whose_30 : decode cX0_whose 30 = .ok (.goto (-27), 3) := by decide +kernel
theorem dX0_whose_33 : decode cX0_whose 33 = .ok (.iconst (-1), 1) := by decide +kernel
theorem dX0_whose_34 : decode cX0_whose 34 = .ok (.ireturn, 1) := by decide +kernel
def f_X0_whose_3 (k3 : Nat × Nat × Int32 × Int32 × Int32 → Hp → Option (Int32 × Hp)) (v : Nat × Nat × Int32 × Int32 × Int32) (h0 : Hp) : Option (Int32 × Hp) :=
  match v with
  | (l0, l1, l2, l3, l4) => (gI h0 l0 0 0).bind fun x1 => if x1 ≤ l4 then (some ((-1 : Int32), h0)) else ((f_X0_isNamed l0 l4 l1 l2 l3 h0).bind fun q3 => if q3.1 = 0 then ((some (l4 + 1)).bind fun x5 => k3 (l0, l1, l2, l3, x5) q3.2) else (some (l4, q3.2)))
set_option maxRecDepth 100000 in
set_option maxHeartbeats 4000000 in
theorem c_X0_whose_3 {X : Cx} {adr : Nat → Nat} {q : Int32 × Hp} (hr : (mth X).sig.returnType = (some .int)) (n : Nat) : ∀ v h0, lp (f_X0_whose_3) n v h0 = some q → AW X cX0_whose 5 RX0 (rmd 2 0 0) (Qmet X 0 0 (Qe (some (.int q.1)) q.2 adr)) 0 0 adr h0 3 [(0, .ref v.1), (1, .ref v.2.1), (2, .int v.2.2.1), (3, .int v.2.2.2.1), (4, .int v.2.2.2.2)] [] := by
  refine aw_lp (fun k3 hk3 v h0 hf => ?_) n
  obtain ⟨l0, l1, l2, l3, l4⟩ := v
  unfold f_X0_whose_3 at hf
  dsimp only at hf
  show AW X cX0_whose 5 RX0 (rmd 2 0 0) (Qmet X 0 0 (Qe (some (.int q.1)) q.2 adr)) 0 0 adr h0 3 [(0, .ref l0), (1, .ref l1), (2, .int l2), (3, .int l3), (4, .int l4)] []
  refine aw_iload 4 dX0_whose_3 rfl ?_
  refine aw_aload_n 0 dX0_whose_5 rfl rfl ?_
  obtain ⟨x1, ex1, hf⟩ := b_some hf
  refine aw_getI dX0_whose_6 gfX0_33 ex1 ?_
  refine aw_icmp_ge (tgt := 33) dX0_whose_9 (by decide) (fun c2 => ?_) (fun c2 => ?_)
  · have hf := i_pos c2 hf
    refine aw_iconst (v := -1) dX0_whose_33 (by decide) ?_
    have hq := Option.some.inj hf
    subst hq
    exact aw_iret hr dX0_whose_34 ⟨rfl, rfl, rfl⟩
  · have hf := i_neg c2 hf
    refine aw_aload_n 0 dX0_whose_12 rfl rfl ?_
    refine aw_iload 4 dX0_whose_13 rfl ?_
    refine aw_aload_n 1 dX0_whose_15 rfl rfl ?_
    refine aw_iload_n 2 dX0_whose_16 rfl rfl ?_
    refine aw_iload_n 3 dX0_whose_17 rfl rfl ?_
    obtain ⟨q3, eq3, hf⟩ := b_some hf
    refine aw_cV (as := [.int l4, .ref l1, .int l2, .int l3]) dX0_whose_18 moX0_isNamed voX0_isNamed mlX0_61 (k_X0_isNamed eq3) rfl (rm_ok (by omega) (by decide)) ⟨Nat.le_refl _, Nat.le_refl _⟩ (Nat.le_of_ble_eq_true rfl) rfl (c_X0_isNamed eq3) ?_
    refine aw_if_eq (tgt := 27) dX0_whose_21 (by decide) (fun c4 => ?_) (fun c4 => ?_)
    · have hf := i_pos c4 hf
      obtain ⟨x5, ex5, hf⟩ := b_some hf
      refine aw_iinc (v := x5) (L' := [(4, .int x5), (0, .ref l0), (1, .ref l1), (2, .int l2), (3, .int l3)]) 4 dX0_whose_27 rfl (Option.some.inj ex5) (by decide) rfl ?_
      refine aw_goto (tgt := 3) dX0_whose_30 (by decide) ?_
      exact aw_sub [1, 2, 3, 4, 0] rfl (hk3 _ _ hf)
    · have hf := i_neg c4 hf
      refine aw_iload 4 dX0_whose_24 rfl ?_
      have hq := Option.some.inj hf
      subst hq
      exact aw_iret hr dX0_whose_26 ⟨rfl, rfl, rfl⟩
def f_X0_whose (l0 : Nat) (l1 : Nat) (l2 : Int32) (l3 : Int32) (h0 : Hp) : Option (Int32 × Hp) :=
  (ck h0 l0 0).bind fun _ => lp (f_X0_whose_3) 600 (l0, l1, l2, l3, (0 : Int32)) h0
set_option maxRecDepth 100000 in
set_option maxHeartbeats 4000000 in
theorem c_X0_whose {l0 : Nat} {l1 : Nat} {l2 : Int32} {l3 : Int32} {h0 : Hp} {q : Int32 × Hp} (hf : f_X0_whose l0 l1 l2 l3 h0 = some q) : Mt 2 yX0_whose cX0_whose 5 (some .int) [.ref l0, .ref l1, .int l2, .int l3] h0 (some (.int q.1)) q.2 := by
  refine MtQ.of (by decide) (Nat.le_of_ble_eq_true rfl) (fun X adr hr hn => ?_)
  unfold f_X0_whose at hf
  show AW X cX0_whose 5 RX0 (rmd 2 0 0) (Qmet X 0 0 (Qe (some (.int q.1)) q.2 adr)) 0 0 adr h0 0 [(0, .ref l0), (1, .ref l1), (2, .int l2), (3, .int l3)] []
  obtain ⟨u0, e0, hf⟩ := b_some hf
  refine aw_iconst (v := 0) dX0_whose_0 (by decide) ?_
  refine aw_istore (L' := [(4, .int (0 : Int32)), (0, .ref l0), (1, .ref l1), (2, .int l2), (3, .int l3)]) dX0_whose_1 (by decide) rfl ?_
  exact aw_sub [1, 2, 3, 4, 0] rfl (c_X0_whose_3 hr 600 _ _ hf)
theorem k_X0_whose {l0 : Nat} {l1 : Nat} {l2 : Int32} {l3 : Int32} {h0 : Hp} {q : Int32 × Hp} (hf : f_X0_whose l0 l1 l2 l3 h0 = some q) : ck h0 l0 0 = some () := by
  unfold f_X0_whose at hf
  obtain ⟨u0, e0, hf⟩ := b_some hf
  exact e0
theorem dX0_winBrings_0 : decode cX0_winBrings 0 = .ok (.getstatic 49, 3) := by decide +kernel
theorem dX0_winBrings_3 : decode cX0_winBrings 3 = .ok (.aload_n 0, 1) := by decide +kernel
theorem dX0_winBrings_4 : decode cX0_winBrings 4 = .ok (.getfield 40, 3) := by decide +kernel
theorem dX0_winBrings_7 : decode cX0_winBrings 7 = .ok (.iaload, 1) := by decide +kernel
theorem dX0_winBrings_8 : decode cX0_winBrings 8 = .ok (.ireturn, 1) := by decide +kernel
def f_X0_winBrings (l0 : Nat) (h0 : Hp) : Option (Int32 × Hp) :=
  (ck h0 l0 0).bind fun _ => (gI h0 l0 0 2).bind fun x1 => (sT 0 x1).bind fun x2 => some (x2, h0)
set_option maxRecDepth 100000 in
set_option maxHeartbeats 4000000 in
theorem c_X0_winBrings {l0 : Nat} {h0 : Hp} {q : Int32 × Hp} (hf : f_X0_winBrings l0 h0 = some q) : Mt 1 yX0_winBrings cX0_winBrings 1 (some .int) [.ref l0] h0 (some (.int q.1)) q.2 := by
  refine MtQ.of (by decide) (Nat.le_of_ble_eq_true rfl) (fun X adr hr hn => ?_)
  unfold f_X0_winBrings at hf
  show AW X cX0_winBrings 1 RX0 (rmd 1 0 0) (Qmet X 0 0 (Qe (some (.int q.1)) q.2 adr)) 0 0 adr h0 0 [(0, .ref l0)] []
  obtain ⟨u0, e0, hf⟩ := b_some hf
  refine aw_gets (q := 0) dX0_winBrings_0 kfX0_49 rfl ?_
  refine aw_aload_n 0 dX0_winBrings_3 rfl rfl ?_
  obtain ⟨x1, ex1, hf⟩ := b_some hf
  refine aw_getI dX0_winBrings_4 gfX0_40 ex1 ?_
  obtain ⟨x2, ex2, hf⟩ := b_some hf
  refine aw_sald dX0_winBrings_7 rfl ex2 ?_
  have hq := Option.some.inj hf
  subst hq
  exact aw_iret hr dX0_winBrings_8 ⟨rfl, rfl, rfl⟩
theorem k_X0_winBrings {l0 : Nat} {h0 : Hp} {q : Int32 × Hp} (hf : f_X0_winBrings l0 h0 = some q) : ck h0 l0 0 = some () := by
  unfold f_X0_winBrings at hf
  obtain ⟨u0, e0, hf⟩ := b_some hf
  exact e0
theorem dX1_hasRoomForAll_0 : decode cX1_hasRoomForAll 0 = .ok (.iconst 0, 1) := by decide +kernel
theorem dX1_hasRoomForAll_1 : decode cX1_hasRoomForAll 1 = .ok (.istore_n 3, 1) := by decide +kernel
theorem dX1_hasRoomForAll_2 : decode cX1_hasRoomForAll 2 = .ok (.iload_n 2, 1) := by decide +kernel
theorem dX1_hasRoomForAll_3 : decode cX1_hasRoomForAll 3 = .ok (.istore 4, 2) := by decide +kernel
theorem dX1_hasRoomForAll_5 : decode cX1_hasRoomForAll 5 = .ok (.iload 4, 2) := by decide +kernel
theorem dX1_hasRoomForAll_7 : decode cX1_hasRoomForAll 7 = .ok (.aload_n 0, 1) := by decide +kernel
theorem dX1_hasRoomForAll_8 : decode cX1_hasRoomForAll 8 = .ok (.getfield 60, 3) := by decide +kernel
theorem dX1_hasRoomForAll_11 : decode cX1_hasRoomForAll 11 = .ok (.if_icmp .ge 38, 3) := by decide +kernel
theorem dX1_hasRoomForAll_14 : decode cX1_hasRoomForAll 14 = .ok (.aload_n 0, 1) := by decide +kernel
theorem dX1_hasRoomForAll_15 : decode cX1_hasRoomForAll 15 = .ok (.getfield 15, 3) := by decide +kernel
theorem dX1_hasRoomForAll_18 : decode cX1_hasRoomForAll 18 = .ok (.iload 4, 2) := by decide +kernel
theorem dX1_hasRoomForAll_20 : decode cX1_hasRoomForAll 20 = .ok (.iaload, 1) := by decide +kernel
theorem dX1_hasRoomForAll_21 : decode cX1_hasRoomForAll 21 = .ok (.iload_n 1, 1) := by decide +kernel
theorem dX1_hasRoomForAll_22 : decode cX1_hasRoomForAll 22 = .ok (.if_icmp .eq 14, 3) := by decide +kernel
theorem dX1_hasRoomForAll_25 : decode cX1_hasRoomForAll 25 = .ok (.aload_n 0, 1) := by decide +kernel
theorem dX1_hasRoomForAll_26 : decode cX1_hasRoomForAll 26 = .ok (.getfield 18, 3) := by decide +kernel
theorem dX1_hasRoomForAll_29 : decode cX1_hasRoomForAll 29 = .ok (.iload 4, 2) := by decide +kernel
theorem dX1_hasRoomForAll_31 : decode cX1_hasRoomForAll 31 = .ok (.iaload, 1) := by decide +kernel
theorem dX1_hasRoomForAll_32 : decode cX1_hasRoomForAll 32 = .ok (.iload_n 1, 1) := by decide +kernel
theorem dX1_hasRoomForAll_33 : decode cX1_hasRoomForAll 33 = .ok (.if_icmp .ne 10, 3) := by decide +kernel
theorem dX1_hasRoomForAll_36 : decode cX1_hasRoomForAll 36 = .ok (.iload_n 3, 1) := by decide +kernel
theorem dX1_hasRoomForAll_37 : decode cX1_hasRoomForAll 37 = .ok (.aload_n 0, 1) := by decide +kernel
theorem dX1_hasRoomForAll_38 : decode cX1_hasRoomForAll 38 = .ok (.getfield 33, 3) := by decide +kernel
theorem dX1_hasRoomForAll_41 : decode cX1_hasRoomForAll 41 = .ok (.iadd, 1) := by decide +kernel
theorem dX1_hasRoomForAll_42 : decode cX1_hasRoomForAll 42 = .ok (.istore_n 3, 1) := by decide +kernel
theorem dX1_hasRoomForAll_43 : decode cX1_hasRoomForAll 43 = .ok (.iinc 4 1, 3) := by decide +kernel
theorem dX1_hasRoomForAll_46 : decode cX1_hasRoomForAll 46 = .ok (.goto (-41), 3) := by decide +kernel
theorem dX1_hasRoomForAll_49 : decode cX1_hasRoomForAll 49 = .ok (.aload_n 0, 1) := by decide +kernel
theorem dX1_hasRoomForAll_50 : decode cX1_hasRoomForAll 50 = .ok (.getfield 9, 3) := by decide +kernel
theorem dX1_hasRoomForAll_53 : decode cX1_hasRoomForAll 53 = .ok (.iload_n 1, 1) := by decide +kernel
theorem dX1_hasRoomForAll_54 : decode cX1_hasRoomForAll 54 = .ok (.iaload, 1) := by decide +kernel
theorem dX1_hasRoomForAll_55 : decode cX1_hasRoomForAll 55 = .ok (.iload_n 3, 1) := by decide +kernel
theorem dX1_hasRoomForAll_56 : decode cX1_hasRoomForAll 56 = .ok (.if_icmp .lt 7, 3) := by decide +kernel
theorem dX1_hasRoomForAll_59 : decode cX1_hasRoomForAll 59 = .ok (.iconst 1, 1) := by decide +kernel
theorem dX1_hasRoomForAll_60 : decode cX1_hasRoomForAll 60 = .ok (.goto 4, 3) := by decide +kernel
theorem dX1_hasRoomForAll_63 : decode cX1_hasRoomForAll 63 = .ok (.iconst 0, 1) := by decide +kernel
theorem dX1_hasRoomForAll_64 : decode cX1_hasRoomForAll 64 = .ok (.ireturn, 1) := by decide +kernel
def f_X1_hasRoomForAll_36 (k5 : Nat × Int32 × Int32 × Int32 → Hp → Option (Int32 × Hp)) (l0 : Nat) (l1 : Int32) (l3 : Int32) (l4 : Int32) (h0 : Hp) : Option (Int32 × Hp) :=
  (gI h0 l0 1 6).bind fun x1 => (some (l3 + x1)).bind fun x2 => (some (l4 + 1)).bind fun x3 => k5 (l0, l1, x2, x3) h0
set_option maxRecDepth 100000 in
set_option maxHeartbeats 4000000 in
theorem c_X1_hasRoomForAll_36 {X : Cx} {adr : Nat → Nat} {q : Int32 × Hp} (hr : (mth X).sig.returnType = (some .boolean)) {k5 : Nat × Int32 × Int32 × Int32 → Hp → Option (Int32 × Hp)} (hk5 : ∀ v h, k5 v h = some q → AW X cX1_hasRoomForAll 5 RX1 (rmd 1 0 0) (Qmet X 0 0 (Qe (some (.int q.1)) q.2 adr)) 0 0 adr h 5 [(0, .ref v.1), (1, .int v.2.1), (3, .int v.2.2.1), (4, .int v.2.2.2)] []) {l0 : Nat} {l1 : Int32} {l3 : Int32} {l4 : Int32} {h0 : Hp} (hf : f_X1_hasRoomForAll_36 k5 l0 l1 l3 l4 h0 = some q) : AW X cX1_hasRoomForAll 5 RX1 (rmd 1 0 0) (Qmet X 0 0 (Qe (some (.int q.1)) q.2 adr)) 0 0 adr h0 36 [(0, .ref l0), (1, .int l1), (3, .int l3), (4, .int l4)] [] := by
  unfold f_X1_hasRoomForAll_36 at hf
  refine aw_iload_n 2 dX1_hasRoomForAll_36 rfl rfl ?_
  refine aw_aload_n 0 dX1_hasRoomForAll_37 rfl rfl ?_
  obtain ⟨x1, ex1, hf⟩ := b_some hf
  refine aw_getI dX1_hasRoomForAll_38 gfX1_33 ex1 ?_
  refine aw_iadd dX1_hasRoomForAll_41 ?_
  obtain ⟨x2, ex2, hf⟩ := b_some hf
  refine aw_nm ex2 ?_
  refine aw_istore_n (L' := [(3, .int x2), (0, .ref l0), (1, .int l1), (4, .int l4)]) dX1_hasRoomForAll_42 rfl (by decide) rfl ?_
  obtain ⟨x3, ex3, hf⟩ := b_some hf
  refine aw_iinc (v := x3) (L' := [(4, .int x3), (3, .int x2), (0, .ref l0), (1, .int l1)]) 3 dX1_hasRoomForAll_43 rfl (Option.some.inj ex3) (by decide) rfl ?_
  refine aw_goto (tgt := 5) dX1_hasRoomForAll_46 (by decide) ?_
  exact aw_sub [2, 3, 1, 0] rfl (hk5 _ _ hf)
def f_X1_hasRoomForAll_5 (k5 : Nat × Int32 × Int32 × Int32 → Hp → Option (Int32 × Hp)) (v : Nat × Int32 × Int32 × Int32) (h0 : Hp) : Option (Int32 × Hp) :=
  match v with
  | (l0, l1, l3, l4) => (gI h0 l0 1 5).bind fun x1 => if x1 ≤ l4 then ((gR h0 l0 1 0).bind fun r3 => (aL h0 r3 l1).bind fun x4 => if x4 < l3 then (some ((0 : Int32), h0)) else (some ((1 : Int32), h0))) else ((gR h0 l0 1 1).bind fun r6 => (aL h0 r6 l4).bind fun x7 => if x7 = l1 then (f_X1_hasRoomForAll_36 k5 l0 l1 l3 l4 h0) else ((gR h0 l0 1 2).bind fun r9 => (aL h0 r9 l4).bind fun x10 => if x10 = l1 then (f_X1_hasRoomForAll_36 k5 l0 l1 l3 l4 h0) else ((some (l4 + 1)).bind fun x12 => k5 (l0, l1, l3, x12) h0)))
set_option maxRecDepth 100000 in
set_option maxHeartbeats 4000000 in
theorem c_X1_hasRoomForAll_5 {X : Cx} {adr : Nat → Nat} {q : Int32 × Hp} (hr : (mth X).sig.returnType = (some .boolean)) (n : Nat) : ∀ v h0, lp (f_X1_hasRoomForAll_5) n v h0 = some q → AW X cX1_hasRoomForAll 5 RX1 (rmd 1 0 0) (Qmet X 0 0 (Qe (some (.int q.1)) q.2 adr)) 0 0 adr h0 5 [(0, .ref v.1), (1, .int v.2.1), (3, .int v.2.2.1), (4, .int v.2.2.2)] [] := by
  refine aw_lp (fun k5 hk5 v h0 hf => ?_) n
  obtain ⟨l0, l1, l3, l4⟩ := v
  unfold f_X1_hasRoomForAll_5 at hf
  dsimp only at hf
  show AW X cX1_hasRoomForAll 5 RX1 (rmd 1 0 0) (Qmet X 0 0 (Qe (some (.int q.1)) q.2 adr)) 0 0 adr h0 5 [(0, .ref l0), (1, .int l1), (3, .int l3), (4, .int l4)] []
  refine aw_iload 3 dX1_hasRoomForAll_5 rfl ?_
  refine aw_aload_n 0 dX1_hasRoomForAll_7 rfl rfl ?_
  obtain ⟨x1, ex1, hf⟩ := b_some hf
  refine aw_getI dX1_hasRoomForAll_8 gfX1_60 ex1 ?_
  refine aw_icmp_ge (tgt := 49) dX1_hasRoomForAll_11 (by decide) (fun c2 => ?_) (fun c2 => ?_)
  · have hf := i_pos c2 hf
    refine aw_aload_n 0 dX1_hasRoomForAll_49 rfl rfl ?_
    obtain ⟨r3, er3, hf⟩ := b_some hf
    refine aw_getR dX1_hasRoomForAll_50 gfX1_9 er3 ?_
    refine aw_iload_n 1 dX1_hasRoomForAll_53 rfl rfl ?_
    obtain ⟨x4, ex4, hf⟩ := b_some hf
    refine aw_iald dX1_hasRoomForAll_54 ex4 ?_
    refine aw_iload_n 2 dX1_hasRoomForAll_55 rfl rfl ?_
    refine aw_icmp_lt (tgt := 63) dX1_hasRoomForAll_56 (by decide) (fun c5 => ?_) (fun c5 => ?_)
    · have hf := i_pos c5 hf
      refine aw_iconst (v := 0) dX1_hasRoomForAll_63 (by decide) ?_
      have hq := Option.some.inj hf
      subst hq
      exact aw_zret hr (by decide) dX1_hasRoomForAll_64 ⟨rfl, rfl, rfl⟩
    · have hf := i_neg c5 hf
      refine aw_iconst (v := 1) dX1_hasRoomForAll_59 (by decide) ?_
      refine aw_goto (tgt := 64) dX1_hasRoomForAll_60 (by decide) ?_
      have hq := Option.some.inj hf
      subst hq
      exact aw_zret hr (by decide) dX1_hasRoomForAll_64 ⟨rfl, rfl, rfl⟩
  · have hf := i_neg c2 hf
    refine aw_aload_n 0 dX1_hasRoomForAll_14 rfl rfl ?_
    obtain ⟨r6, er6, hf⟩ := b_some hf
    refine aw_getR dX1_hasRoomForAll_15 gfX1_15 er6 ?_
    refine aw_iload 3 dX1_hasRoomForAll_18 rfl ?_
    obtain ⟨x7, ex7, hf⟩ := b_some hf
    refine aw_iald dX1_hasRoomForAll_20 ex7 ?_
    refine aw_iload_n 1 dX1_hasRoomForAll_21 rfl rfl ?_
    refine aw_icmp_eq (tgt := 36) dX1_hasRoomForAll_22 (by decide) (fun c8 => ?_) (fun c8 => ?_)
    · have hf := i_pos c8 hf
      exact aw_sub [0, 1, 2, 3] rfl (c_X1_hasRoomForAll_36 hr hk5 hf)
    · have hf := i_neg c8 hf
      refine aw_aload_n 0 dX1_hasRoomForAll_25 rfl rfl ?_
      obtain ⟨r9, er9, hf⟩ := b_some hf
      refine aw_getR dX1_hasRoomForAll_26 gfX1_18 er9 ?_
      refine aw_iload 3 dX1_hasRoomForAll_29 rfl ?_
      obtain ⟨x10, ex10, hf⟩ := b_some hf
      refine aw_iald dX1_hasRoomForAll_31 ex10 ?_
      refine aw_iload_n 1 dX1_hasRoomForAll_32 rfl rfl ?_
      refine aw_icmp_ne (tgt := 43) dX1_hasRoomForAll_33 (by decide) (fun c11 => ?_) (fun c11 => ?_)
      · have hf := i_neg c11 hf
        obtain ⟨x12, ex12, hf⟩ := b_some hf
        refine aw_iinc (v := x12) (L' := [(4, .int x12), (0, .ref l0), (1, .int l1), (3, .int l3)]) 3 dX1_hasRoomForAll_43 rfl (Option.some.inj ex12) (by decide) rfl ?_
        refine aw_goto (tgt := 5) dX1_hasRoomForAll_46 (by decide) ?_
        exact aw_sub [1, 2, 3, 0] rfl (hk5 _ _ hf)
      · have hf := i_pos c11 hf
        exact aw_sub [0, 1, 2, 3] rfl (c_X1_hasRoomForAll_36 hr hk5 hf)
def f_X1_hasRoomForAll (l0 : Nat) (l1 : Int32) (l2 : Int32) (h0 : Hp) : Option (Int32 × Hp) :=
  (ck h0 l0 1).bind fun _ => lp (f_X1_hasRoomForAll_5) 600 (l0, l1, (0 : Int32), l2) h0
set_option maxRecDepth 100000 in
set_option maxHeartbeats 4000000 in
theorem c_X1_hasRoomForAll {l0 : Nat} {l1 : Int32} {l2 : Int32} {h0 : Hp} {q : Int32 × Hp} (hf : f_X1_hasRoomForAll l0 l1 l2 h0 = some q) : Mt 1 yX1_hasRoomForAll cX1_hasRoomForAll 5 (some .boolean) [.ref l0, .int l1, .int l2] h0 (some (.int q.1)) q.2 := by
  refine MtQ.of (by decide) (Nat.le_of_ble_eq_true rfl) (fun X adr hr hn => ?_)
  unfold f_X1_hasRoomForAll at hf
  show AW X cX1_hasRoomForAll 5 RX1 (rmd 1 0 0) (Qmet X 0 0 (Qe (some (.int q.1)) q.2 adr)) 0 0 adr h0 0 [(0, .ref l0), (1, .int l1), (2, .int l2)] []
  obtain ⟨u0, e0, hf⟩ := b_some hf
  refine aw_iconst (v := 0) dX1_hasRoomForAll_0 (by decide) ?_
  refine aw_istore_n (L' := [(3, .int (0 : Int32)), (0, .ref l0), (1, .int l1), (2, .int l2)]) dX1_hasRoomForAll_1 rfl (by decide) rfl ?_
  refine aw_iload_n 3 dX1_hasRoomForAll_2 rfl rfl ?_
  refine aw_istore (L' := [(4, .int l2), (3, .int (0 : Int32)), (0, .ref l0), (1, .int l1), (2, .int l2)]) dX1_hasRoomForAll_3 (by decide) rfl ?_
  exact aw_sub [2, 3, 1, 0] rfl (c_X1_hasRoomForAll_5 hr 600 _ _ hf)
theorem k_X1_hasRoomForAll {l0 : Nat} {l1 : Int32} {l2 : Int32} {h0 : Hp} {q : Int32 × Hp} (hf : f_X1_hasRoomForAll l0 l1 l2 h0 = some q) : ck h0 l0 1 = some () := by
  unfold f_X1_hasRoomForAll at hf
  obtain ⟨u0, e0, hf⟩ := b_some hf
  exact e0
theorem dX1_fitsWon_0 : decode cX1_fitsWon 0 = .ok (.aload_n 0, 1) := by decide +kernel
theorem dX1_fitsWon_1 : decode cX1_fitsWon 1 = .ok (.getfield 9, 3) := by decide +kernel
theorem dX1_fitsWon_4 : decode cX1_fitsWon 4 = .ok (.iload_n 2, 1) := by decide +kernel
theorem dX1_fitsWon_5 : decode cX1_fitsWon 5 = .ok (.iaload, 1) := by decide +kernel
theorem dX1_fitsWon_6 : decode cX1_fitsWon 6 = .ok (.aload_n 0, 1) := by decide +kernel
theorem dX1_fitsWon_7 : decode cX1_fitsWon 7 = .ok (.getfield 33, 3) := by decide +kernel
theorem dX1_fitsWon_10 : decode cX1_fitsWon 10 = .ok (.if_icmp .ge 5, 3) := by decide +kernel
theorem dX1_fitsWon_13 : decode cX1_fitsWon 13 = .ok (.iconst 0, 1) := by decide +kernel
theorem dX1_fitsWon_14 : decode cX1_fitsWon 14 = .ok (.ireturn, 1) := by decide +kernel
theorem dX1_fitsWon_15 : decode cX1_fitsWon 15 = .ok (.aload_n 0, 1) := by decide +kernel
theorem dX1_fitsWon_16 : decode cX1_fitsWon 16 = .ok (.getfield 24, 3) := by decide +kernel
theorem dX1_fitsWon_19 : decode cX1_fitsWon 19 = .ok (.iload_n 1, 1) := by decide +kernel
theorem dX1_fitsWon_20 : decode cX1_fitsWon 20 = .ok (.iload_n 3, 1) := by decide +kernel
theorem dX1_fitsWon_21 : decode cX1_fitsWon 21 = .ok (.iastore, 1) := by decide +kernel
theorem dX1_fitsWon_22 : decode cX1_fitsWon 22 = .ok (.aload_n 0, 1) := by decide +kernel
theorem dX1_fitsWon_23 : decode cX1_fitsWon 23 = .ok (.getfield 9, 3) := by decide +kernel
theorem dX1_fitsWon_26 : decode cX1_fitsWon 26 = .ok (.iload_n 2, 1) := by decide +kernel
theorem dX1_fitsWon_27 : decode cX1_fitsWon 27 = .ok (.dup2, 1) := by decide +kernel
theorem dX1_fitsWon_28 : decode cX1_fitsWon 28 = .ok (.iaload, 1) := by decide +kernel
theorem dX1_fitsWon_29 : decode cX1_fitsWon 29 = .ok (.aload_n 0, 1) := by decide +kernel
theorem dX1_fitsWon_30 : decode cX1_fitsWon 30 = .ok (.getfield 33, 3) := by decide +kernel
theorem dX1_fitsWon_33 : decode cX1_fitsWon 33 = .ok (.isub, 1) := by decide +kernel
theorem dX1_fitsWon_34 : decode cX1_fitsWon 34 = .ok (.iastore, 1) := by decide +kernel
theorem dX1_fitsWon_35 : decode cX1_fitsWon 35 = .ok (.aload_n 0, 1) := by decide +kernel
theorem dX1_fitsWon_36 : decode cX1_fitsWon 36 = .ok (.iload_n 1, 1) := by decide +kernel
theorem dX1_fitsWon_37 : decode cX1_fitsWon 37 = .ok (.iconst 1, 1) := by decide +kernel
theorem dX1_fitsWon_38 : decode cX1_fitsWon 38 = .ok (.iadd, 1) := by decide +kernel
theorem dX1_fitsWon_39 : decode cX1_fitsWon 39 = .ok (.invokevirtual 84, 3) := by decide +kernel
theorem dX1_fitsWon_42 : decode cX1_fitsWon 42 = .ok (.istore 4, 2) := by decide +kernel
theorem dX1_fitsWon_44 : decode cX1_fitsWon 44 = .ok (.aload_n 0, 1) := by decide +kernel
theorem dX1_fitsWon_45 : decode cX1_fitsWon 45 = .ok (.getfield 9, 3) := by decide +kernel
theorem dX1_fitsWon_48 : decode cX1_fitsWon 48 = .ok (.iload_n 2, 1) := by decide +kernel
theorem dX1_fitsWon_49 : decode cX1_fitsWon 49 = .ok (.dup2, 1) := by decide +kernel
theorem dX1_fitsWon_50 : decode cX1_fitsWon 50 = .ok (.iaload, 1) := by decide +kernel
theorem dX1_fitsWon_51 : decode cX1_fitsWon 51 = .ok (.aload_n 0, 1) := by decide +kernel
theorem dX1_fitsWon_52 : decode cX1_fitsWon 52 = .ok (.getfield 33, 3) := by decide +kernel
theorem dX1_fitsWon_55 : decode cX1_fitsWon 55 = .ok (.iadd, 1) := by decide +kernel
theorem dX1_fitsWon_56 : decode cX1_fitsWon 56 = .ok (.iastore, 1) := by decide +kernel
theorem dX1_fitsWon_57 : decode cX1_fitsWon 57 = .ok (.iload 4, 2) := by decide +kernel
theorem dX1_fitsWon_59 : decode cX1_fitsWon 59 = .ok (.ireturn, 1) := by decide +kernel
def f_X1_fitsWon (ks : Nat × Int32 → Hp → Option (Int32 × Hp)) (l0 : Nat) (l1 : Int32) (l2 : Int32) (l3 : Int32) (h0 : Hp) : Option (Int32 × Hp) :=
  (ck h0 l0 1).bind fun _ => (gR h0 l0 1 0).bind fun r1 => (aL h0 r1 l2).bind fun x2 => (gI h0 l0 1 6).bind fun x3 => if x3 ≤ x2 then ((gR h0 l0 1 4).bind fun r5 => (aS h0 r5 l1 l3).bind fun h6 => (gR h6 l0 1 0).bind fun r7 => (aL h6 r7 l2).bind fun x8 => (gI h6 l0 1 6).bind fun x9 => (aS h6 r7 l2 (x8 - x9)).bind fun h10 => (ck h10 l0 1).bind fun u12 => (ks (l0, (l1 + (1 : Int32))) h10).bind fun q11 => (gR q11.2 l0 1 0).bind fun r13 => (aL q11.2 r13 l2).bind fun x14 => (gI q11.2 l0 1 6).bind fun x15 => (aS q11.2 r13 l2 (x14 + x15)).bind fun h16 => (bz q11.1).bind fun u17 => some (q11.1, h16)) else (some ((0 : Int32), h0))
set_option maxRecDepth 100000 in
set_option maxHeartbeats 4000000 in
theorem c_X1_fitsWon {d : Nat} (hdd : 0 ≤ d) {ks : Nat × Int32 → Hp → Option (Int32 × Hp)} (hks : ∀ a h p, ks a h = some p → Mt d yX1_fits cX1_fits 2 (some .boolean) [.ref a.1, .int a.2] h (some (.int p.1)) p.2) {l0 : Nat} {l1 : Int32} {l2 : Int32} {l3 : Int32} {h0 : Hp} {q : Int32 × Hp} (hf : f_X1_fitsWon ks l0 l1 l2 l3 h0 = some q) : Mt (d + 1) yX1_fitsWon cX1_fitsWon 5 (some .boolean) [.ref l0, .int l1, .int l2, .int l3] h0 (some (.int q.1)) q.2 := by
  refine MtQ.of (by decide) (Nat.le_of_ble_eq_true rfl) (fun X adr hr hn => ?_)
  unfold f_X1_fitsWon at hf
  show AW X cX1_fitsWon 5 RX1 (rmd (d + 1) 0 0) (Qmet X 0 0 (Qe (some (.int q.1)) q.2 adr)) 0 0 adr h0 0 [(0, .ref l0), (1, .int l1), (2, .int l2), (3, .int l3)] []
  obtain ⟨u0, e0, hf⟩ := b_some hf
  refine aw_aload_n 0 dX1_fitsWon_0 rfl rfl ?_
  obtain ⟨r1, er1, hf⟩ := b_some hf
  refine aw_getR dX1_fitsWon_1 gfX1_9 er1 ?_
  refine aw_iload_n 2 dX1_fitsWon_4 rfl rfl ?_
  obtain ⟨x2, ex2, hf⟩ := b_some hf
  refine aw_iald dX1_fitsWon_5 ex2 ?_
  refine aw_aload_n 0 dX1_fitsWon_6 rfl rfl ?_
  obtain ⟨x3, ex3, hf⟩ := b_some hf
  refine aw_getI dX1_fitsWon_7 gfX1_33 ex3 ?_
  refine aw_icmp_ge (tgt := 15) dX1_fitsWon_10 (by decide) (fun c4 => ?_) (fun c4 => ?_)
  · have hf := i_pos c4 hf
    refine aw_aload_n 0 dX1_fitsWon_15 rfl rfl ?_
    obtain ⟨r5, er5, hf⟩ := b_some hf
    refine aw_getR dX1_fitsWon_16 gfX1_24 er5 ?_
    refine aw_iload_n 1 dX1_fitsWon_19 rfl rfl ?_
    refine aw_iload_n 3 dX1_fitsWon_20 rfl rfl ?_
    obtain ⟨h6, eh6, hf⟩ := b_some hf
    refine aw_iast dX1_fitsWon_21 eh6 ?_
    refine aw_aload_n 0 dX1_fitsWon_22 rfl rfl ?_
    obtain ⟨r7, er7, hf⟩ := b_some hf
    refine aw_getR dX1_fitsWon_23 gfX1_9 er7 ?_
    refine aw_iload_n 2 dX1_fitsWon_26 rfl rfl ?_
    refine aw_dup2 dX1_fitsWon_27 rfl rfl ?_
    obtain ⟨x8, ex8, hf⟩ := b_some hf
    refine aw_iald dX1_fitsWon_28 ex8 ?_
    refine aw_aload_n 0 dX1_fitsWon_29 rfl rfl ?_
    obtain ⟨x9, ex9, hf⟩ := b_some hf
    refine aw_getI dX1_fitsWon_30 gfX1_33 ex9 ?_
    refine aw_isub dX1_fitsWon_33 ?_
    obtain ⟨h10, eh10, hf⟩ := b_some hf
    refine aw_iast dX1_fitsWon_34 eh10 ?_
    refine aw_aload_n 0 dX1_fitsWon_35 rfl rfl ?_
    refine aw_iload_n 1 dX1_fitsWon_36 rfl rfl ?_
    refine aw_iconst (v := 1) dX1_fitsWon_37 (by decide) ?_
    refine aw_iadd dX1_fitsWon_38 ?_
    obtain ⟨u12, eu12, hf⟩ := b_some hf
    obtain ⟨q11, eq11, hf⟩ := b_some hf
    refine aw_cV (as := [.int (l1 + (1 : Int32))]) dX1_fitsWon_39 moX1_fits voX1_fits mlX1_84 eu12 rfl (rm_ok (by omega) (by decide)) ⟨Nat.le_refl _, Nat.le_refl _⟩ (Nat.le_of_ble_eq_true rfl) rfl (hks _ _ _ eq11) ?_
    refine aw_istore (L' := [(4, .int q11.1), (0, .ref l0), (1, .int l1), (2, .int l2), (3, .int l3)]) dX1_fitsWon_42 (by decide) rfl ?_
    refine aw_aload_n 1 dX1_fitsWon_44 rfl rfl ?_
    obtain ⟨r13, er13, hf⟩ := b_some hf
    refine aw_getR dX1_fitsWon_45 gfX1_9 er13 ?_
    refine aw_iload_n 3 dX1_fitsWon_48 rfl rfl ?_
    refine aw_dup2 dX1_fitsWon_49 rfl rfl ?_
    obtain ⟨x14, ex14, hf⟩ := b_some hf
    refine aw_iald dX1_fitsWon_50 ex14 ?_
    refine aw_aload_n 1 dX1_fitsWon_51 rfl rfl ?_
    obtain ⟨x15, ex15, hf⟩ := b_some hf
    refine aw_getI dX1_fitsWon_52 gfX1_33 ex15 ?_
    refine aw_iadd dX1_fitsWon_55 ?_
    obtain ⟨h16, eh16, hf⟩ := b_some hf
    refine aw_iast dX1_fitsWon_56 eh16 ?_
    refine aw_iload 0 dX1_fitsWon_57 rfl ?_
    obtain ⟨u17, eu17, hf⟩ := b_some hf
    have hq := Option.some.inj hf
    subst hq
    exact aw_zret hr (bz_nar eu17) dX1_fitsWon_59 ⟨rfl, rfl, rfl⟩
  · have hf := i_neg c4 hf
    refine aw_iconst (v := 0) dX1_fitsWon_13 (by decide) ?_
    have hq := Option.some.inj hf
    subst hq
    exact aw_zret hr (by decide) dX1_fitsWon_14 ⟨rfl, rfl, rfl⟩
theorem k_X1_fitsWon {ks : Nat × Int32 → Hp → Option (Int32 × Hp)} {l0 : Nat} {l1 : Int32} {l2 : Int32} {l3 : Int32} {h0 : Hp} {q : Int32 × Hp} (hf : f_X1_fitsWon ks l0 l1 l2 l3 h0 = some q) : ck h0 l0 1 = some () := by
  unfold f_X1_fitsWon at hf
  obtain ⟨u0, e0, hf⟩ := b_some hf
  exact e0
theorem dX1_fitsDrawn_0 : decode cX1_fitsDrawn 0 = .ok (.aload_n 0, 1) := by decide +kernel
theorem dX1_fitsDrawn_1 : decode cX1_fitsDrawn 1 = .ok (.getfield 15, 3) := by decide +kernel
theorem dX1_fitsDrawn_4 : decode cX1_fitsDrawn 4 = .ok (.iload_n 1, 1) := by decide +kernel
theorem dX1_fitsDrawn_5 : decode cX1_fitsDrawn 5 = .ok (.iaload, 1) := by decide +kernel
theorem dX1_fitsDrawn_6 : decode cX1_fitsDrawn 6 = .ok (.istore_n 2, 1) := by decide +kernel
theorem dX1_fitsDrawn_7 : decode cX1_fitsDrawn 7 = .ok (.aload_n 0, 1) := by decide +kernel
theorem dX1_fitsDrawn_8 : decode cX1_fitsDrawn 8 = .ok (.getfield 18, 3) := by decide +kernel
theorem dX1_fitsDrawn_11 : decode cX1_fitsDrawn 11 = .ok (.iload_n 1, 1) := by decide +kernel
theorem dX1_fitsDrawn_12 : decode cX1_fitsDrawn 12 = .ok (.iaload, 1) := by decide +kernel
theorem dX1_fitsDrawn_13 : decode cX1_fitsDrawn 13 = .ok (.istore_n 3, 1) := by decide +kernel
theorem dX1_fitsDrawn_14 : decode cX1_fitsDrawn 14 = .ok (.aload_n 0, 1) := by decide +kernel
theorem dX1_fitsDrawn_15 : decode cX1_fitsDrawn 15 = .ok (.getfield 9, 3) := by decide +kernel
theorem dX1_fitsDrawn_18 : decode cX1_fitsDrawn 18 = .ok (.iload_n 2, 1) := by decide +kernel
theorem dX1_fitsDrawn_19 : decode cX1_fitsDrawn 19 = .ok (.iaload, 1) := by decide +kernel
theorem dX1_fitsDrawn_20 : decode cX1_fitsDrawn 20 = .ok (.aload_n 0, 1) := by decide +kernel
theorem dX1_fitsDrawn_21 : decode cX1_fitsDrawn 21 = .ok (.getfield 40, 3) := by decide +kernel
theorem dX1_fitsDrawn_24 : decode cX1_fitsDrawn 24 = .ok (.if_icmp .lt 16, 3) := by decide +kernel
theorem dX1_fitsDrawn_27 : decode cX1_fitsDrawn 27 = .ok (.aload_n 0, 1) := by decide +kernel
theorem dX1_fitsDrawn_28 : decode cX1_fitsDrawn 28 = .ok (.getfield 9, 3) := by decide +kernel
theorem dX1_fitsDrawn_31 : decode cX1_fitsDrawn 31 = .ok (.iload_n 3, 1) := by decide +kernel
theorem dX1_fitsDrawn_32 : decode cX1_fitsDrawn 32 = .ok (.iaload, 1) := by decide +kernel
theorem dX1_fitsDrawn_33 : decode cX1_fitsDrawn 33 = .ok (.aload_n 0, 1) := by decide +kernel
theorem dX1_fitsDrawn_34 : decode cX1_fitsDrawn 34 = .ok (.getfield 40, 3) := by decide +kernel
theorem dX1_fitsDrawn_37 : decode cX1_fitsDrawn 37 = .ok (.if_icmp .ge 5, 3) := by decide +kernel
theorem dX1_fitsDrawn_40 : decode cX1_fitsDrawn 40 = .ok (.iconst 0, 1) := by decide +kernel
theorem dX1_fitsDrawn_41 : decode cX1_fitsDrawn 41 = .ok (.ireturn, 1) := by decide +kernel
theorem dX1_fitsDrawn_42 : decode cX1_fitsDrawn 42 = .ok (.aload_n 0, 1) := by decide +kernel
theorem dX1_fitsDrawn_43 : decode cX1_fitsDrawn 43 = .ok (.getfield 24, 3) := by decide +kernel
theorem dX1_fitsDrawn_46 : decode cX1_fitsDrawn 46 = .ok (.iload_n 1, 1) := by decide +kernel
theorem dX1_fitsDrawn_47 : decode cX1_fitsDrawn 47 = .ok (.iconst 0, 1) := by decide +kernel
theorem dX1_fitsDrawn_48 : decode cX1_fitsDrawn 48 = .ok (.iastore, 1) := by decide +kernel
theorem dX1_fitsDrawn_49 : decode cX1_fitsDrawn 49 = .ok (.aload_n 0, 1) := by decide +kernel
theorem dX1_fitsDrawn_50 : decode cX1_fitsDrawn 50 = .ok (.getfield 9, 3) := by decide +kernel
theorem dX1_fitsDrawn_53 : decode cX1_fitsDrawn 53 = .ok (.iload_n 2, 1) := by decide +kernel
theorem dX1_fitsDrawn_54 : decode cX1_fitsDrawn 54 = .ok (.dup2, 1) := by decide +kernel
theorem dX1_fitsDrawn_55 : decode cX1_fitsDrawn 55 = .ok (.iaload, 1) := by decide +kernel
theorem dX1_fitsDrawn_56 : decode cX1_fitsDrawn 56 = .ok (.aload_n 0, 1) := by decide +kernel
theorem dX1_fitsDrawn_57 : decode cX1_fitsDrawn 57 = .ok (.getfield 40, 3) := by decide +kernel
theorem dX1_fitsDrawn_60 : decode cX1_fitsDrawn 60 = .ok (.isub, 1) := by decide +kernel
theorem dX1_fitsDrawn_61 : decode cX1_fitsDrawn 61 = .ok (.iastore, 1) := by decide +kernel
theorem dX1_fitsDrawn_62 : decode cX1_fitsDrawn 62 = .ok (.aload_n 0, 1) := by decide +kernel
theorem dX1_fitsDrawn_63 : decode cX1_fitsDrawn 63 = .ok (.getfield 9, 3) := by decide +kernel
theorem dX1_fitsDrawn_66 : decode cX1_fitsDrawn 66 = .ok (.iload_n 3, 1) := by decide +kernel
theorem dX1_fitsDrawn_67 : decode cX1_fitsDrawn 67 = .ok (.dup2, 1) := by decide +kernel
theorem dX1_fitsDrawn_68 : decode cX1_fitsDrawn 68 = .ok (.iaload, 1) := by decide +kernel
theorem dX1_fitsDrawn_69 : decode cX1_fitsDrawn 69 = .ok (.aload_n 0, 1) := by decide +kernel
theorem dX1_fitsDrawn_70 : decode cX1_fitsDrawn 70 = .ok (.getfield 40, 3) := by decide +kernel
theorem dX1_fitsDrawn_73 : decode cX1_fitsDrawn 73 = .ok (.isub, 1) := by decide +kernel
theorem dX1_fitsDrawn_74 : decode cX1_fitsDrawn 74 = .ok (.iastore, 1) := by decide +kernel
theorem dX1_fitsDrawn_75 : decode cX1_fitsDrawn 75 = .ok (.aload_n 0, 1) := by decide +kernel
theorem dX1_fitsDrawn_76 : decode cX1_fitsDrawn 76 = .ok (.iload_n 1, 1) := by decide +kernel
theorem dX1_fitsDrawn_77 : decode cX1_fitsDrawn 77 = .ok (.iconst 1, 1) := by decide +kernel
theorem dX1_fitsDrawn_78 : decode cX1_fitsDrawn 78 = .ok (.iadd, 1) := by decide +kernel
theorem dX1_fitsDrawn_79 : decode cX1_fitsDrawn 79 = .ok (.invokevirtual 84, 3) := by decide +kernel
theorem dX1_fitsDrawn_82 : decode cX1_fitsDrawn 82 = .ok (.istore 4, 2) := by decide +kernel
theorem dX1_fitsDrawn_84 : decode cX1_fitsDrawn 84 = .ok (.aload_n 0, 1) := by decide +kernel
theorem dX1_fitsDrawn_85 : decode cX1_fitsDrawn 85 = .ok (.getfield 9, 3) := by decide +kernel
theorem dX1_fitsDrawn_88 : decode cX1_fitsDrawn 88 = .ok (.iload_n 2, 1) := by decide +kernel
theorem dX1_fitsDrawn_89 : decode cX1_fitsDrawn 89 = .ok (.dup2, 1) := by decide +kernel
theorem dX1_fitsDrawn_90 : decode cX1_fitsDrawn 90 = .ok (.iaload, 1) := by decide +kernel
theorem dX1_fitsDrawn_91 : decode cX1_fitsDrawn 91 = .ok (.aload_n 0, 1) := by decide +kernel
theorem dX1_fitsDrawn_92 : decode cX1_fitsDrawn 92 = .ok (.getfield 40, 3) := by decide +kernel
theorem dX1_fitsDrawn_95 : decode cX1_fitsDrawn 95 = .ok (.iadd, 1) := by decide +kernel
theorem dX1_fitsDrawn_96 : decode cX1_fitsDrawn 96 = .ok (.iastore, 1) := by decide +kernel
theorem dX1_fitsDrawn_97 : decode cX1_fitsDrawn 97 = .ok (.aload_n 0, 1) := by decide +kernel
theorem dX1_fitsDrawn_98 : decode cX1_fitsDrawn 98 = .ok (.getfield 9, 3) := by decide +kernel
theorem dX1_fitsDrawn_101 : decode cX1_fitsDrawn 101 = .ok (.iload_n 3, 1) := by decide +kernel
theorem dX1_fitsDrawn_102 : decode cX1_fitsDrawn 102 = .ok (.dup2, 1) := by decide +kernel
theorem dX1_fitsDrawn_103 : decode cX1_fitsDrawn 103 = .ok (.iaload, 1) := by decide +kernel
theorem dX1_fitsDrawn_104 : decode cX1_fitsDrawn 104 = .ok (.aload_n 0, 1) := by decide +kernel
theorem dX1_fitsDrawn_105 : decode cX1_fitsDrawn 105 = .ok (.getfield 40, 3) := by decide +kernel
theorem dX1_fitsDrawn_108 : decode cX1_fitsDrawn 108 = .ok (.iadd, 1) := by decide +kernel
theorem dX1_fitsDrawn_109 : decode cX1_fitsDrawn 109 = .ok (.iastore, 1) := by decide +kernel
theorem dX1_fitsDrawn_110 : decode cX1_fitsDrawn 110 = .ok (.iload 4, 2) := by decide +kernel
theorem dX1_fitsDrawn_112 : decode cX1_fitsDrawn 112 = .ok (.ireturn, 1) := by decide +kernel
def f_X1_fitsDrawn (ks : Nat × Int32 → Hp → Option (Int32 × Hp)) (l0 : Nat) (l1 : Int32) (h0 : Hp) : Option (Int32 × Hp) :=
  (ck h0 l0 1).bind fun _ => (gR h0 l0 1 1).bind fun r1 => (aL h0 r1 l1).bind fun x2 => (gR h0 l0 1 2).bind fun r3 => (aL h0 r3 l1).bind fun x4 => (gR h0 l0 1 0).bind fun r5 => (aL h0 r5 x2).bind fun x6 => (gI h0 l0 1 7).bind fun x7 => if x6 < x7 then (some ((0 : Int32), h0)) else ((gR h0 l0 1 0).bind fun r9 => (aL h0 r9 x4).bind fun x10 => (gI h0 l0 1 7).bind fun x11 => if x11 ≤ x10 then ((gR h0 l0 1 4).bind fun r13 => (aS h0 r13 l1 (0 : Int32)).bind fun h14 => (gR h14 l0 1 0).bind fun r15 => (aL h14 r15 x2).bind fun x16 => (gI h14 l0 1 7).bind fun x17 => (aS h14 r15 x2 (x16 - x17)).bind fun h18 => (gR h18 l0 1 0).bind fun r19 => (aL h18 r19 x4).bind fun x20 => (gI h18 l0 1 7).bind fun x21 => (aS h18 r19 x4 (x20 - x21)).bind fun h22 => (ck h22 l0 1).bind fun u24 => (ks (l0, (l1 + (1 : Int32))) h22).bind fun q23 => (gR q23.2 l0 1 0).bind fun r25 => (aL q23.2 r25 x2).bind fun x26 => (gI q23.2 l0 1 7).bind fun x27 => (aS q23.2 r25 x2 (x26 + x27)).bind fun h28 => (gR h28 l0 1 0).bind fun r29 => (aL h28 r29 x4).bind fun x30 => (gI h28 l0 1 7).bind fun x31 => (aS h28 r29 x4 (x30 + x31)).bind fun h32 => (bz q23.1).bind fun u33 => some (q23.1, h32)) else (some ((0 : Int32), h0)))
set_option maxRecDepth 100000 in
set_option maxHeartbeats 4000000 in
theorem c_X1_fitsDrawn {d : Nat} (hdd : 0 ≤ d) {ks : Nat × Int32 → Hp → Option (Int32 × Hp)} (hks : ∀ a h p, ks a h = some p → Mt d yX1_fits cX1_fits 2 (some .boolean) [.ref a.1, .int a.2] h (some (.int p.1)) p.2) {l0 : Nat} {l1 : Int32} {h0 : Hp} {q : Int32 × Hp} (hf : f_X1_fitsDrawn ks l0 l1 h0 = some q) : Mt (d + 1) yX1_fitsDrawn cX1_fitsDrawn 5 (some .boolean) [.ref l0, .int l1] h0 (some (.int q.1)) q.2 := by
  refine MtQ.of (by decide) (Nat.le_of_ble_eq_true rfl) (fun X adr hr hn => ?_)
  unfold f_X1_fitsDrawn at hf
  show AW X cX1_fitsDrawn 5 RX1 (rmd (d + 1) 0 0) (Qmet X 0 0 (Qe (some (.int q.1)) q.2 adr)) 0 0 adr h0 0 [(0, .ref l0), (1, .int l1)] []
  obtain ⟨u0, e0, hf⟩ := b_some hf
  refine aw_aload_n 0 dX1_fitsDrawn_0 rfl rfl ?_
  obtain ⟨r1, er1, hf⟩ := b_some hf
  refine aw_getR dX1_fitsDrawn_1 gfX1_15 er1 ?_
  refine aw_iload_n 1 dX1_fitsDrawn_4 rfl rfl ?_
  obtain ⟨x2, ex2, hf⟩ := b_some hf
  refine aw_iald dX1_fitsDrawn_5 ex2 ?_
  refine aw_istore_n (L' := [(2, .int x2), (0, .ref l0), (1, .int l1)]) dX1_fitsDrawn_6 rfl (by decide) rfl ?_
  refine aw_aload_n 1 dX1_fitsDrawn_7 rfl rfl ?_
  obtain ⟨r3, er3, hf⟩ := b_some hf
  refine aw_getR dX1_fitsDrawn_8 gfX1_18 er3 ?_
  refine aw_iload_n 2 dX1_fitsDrawn_11 rfl rfl ?_
  obtain ⟨x4, ex4, hf⟩ := b_some hf
  refine aw_iald dX1_fitsDrawn_12 ex4 ?_
  refine aw_istore_n (L' := [(3, .int x4), (2, .int x2), (0, .ref l0), (1, .int l1)]) dX1_fitsDrawn_13 rfl (by decide) rfl ?_
  refine aw_aload_n 2 dX1_fitsDrawn_14 rfl rfl ?_
  obtain ⟨r5, er5, hf⟩ := b_some hf
  refine aw_getR dX1_fitsDrawn_15 gfX1_9 er5 ?_
  refine aw_iload_n 1 dX1_fitsDrawn_18 rfl rfl ?_
  obtain ⟨x6, ex6, hf⟩ := b_some hf
  refine aw_iald dX1_fitsDrawn_19 ex6 ?_
  refine aw_aload_n 2 dX1_fitsDrawn_20 rfl rfl ?_
  obtain ⟨x7, ex7, hf⟩ := b_some hf
  refine aw_getI dX1_fitsDrawn_21 gfX1_40 ex7 ?_
  refine aw_icmp_lt (tgt := 40) dX1_fitsDrawn_24 (by decide) (fun c8 => ?_) (fun c8 => ?_)
  · have hf := i_pos c8 hf
    refine aw_iconst (v := 0) dX1_fitsDrawn_40 (by decide) ?_
    have hq := Option.some.inj hf
    subst hq
    exact aw_zret hr (by decide) dX1_fitsDrawn_41 ⟨rfl, rfl, rfl⟩
  · have hf := i_neg c8 hf
    refine aw_aload_n 2 dX1_fitsDrawn_27 rfl rfl ?_
    obtain ⟨r9, er9, hf⟩ := b_some hf
    refine aw_getR dX1_fitsDrawn_28 gfX1_9 er9 ?_
    refine aw_iload_n 0 dX1_fitsDrawn_31 rfl rfl ?_
    obtain ⟨x10, ex10, hf⟩ := b_some hf
    refine aw_iald dX1_fitsDrawn_32 ex10 ?_
    refine aw_aload_n 2 dX1_fitsDrawn_33 rfl rfl ?_
    obtain ⟨x11, ex11, hf⟩ := b_some hf
    refine aw_getI dX1_fitsDrawn_34 gfX1_40 ex11 ?_
    refine aw_icmp_ge (tgt := 42) dX1_fitsDrawn_37 (by decide) (fun c12 => ?_) (fun c12 => ?_)
    · have hf := i_pos c12 hf
      refine aw_aload_n 2 dX1_fitsDrawn_42 rfl rfl ?_
      obtain ⟨r13, er13, hf⟩ := b_some hf
      refine aw_getR dX1_fitsDrawn_43 gfX1_24 er13 ?_
      refine aw_iload_n 3 dX1_fitsDrawn_46 rfl rfl ?_
      refine aw_iconst (v := 0) dX1_fitsDrawn_47 (by decide) ?_
      obtain ⟨h14, eh14, hf⟩ := b_some hf
      refine aw_iast dX1_fitsDrawn_48 eh14 ?_
      refine aw_aload_n 2 dX1_fitsDrawn_49 rfl rfl ?_
      obtain ⟨r15, er15, hf⟩ := b_some hf
      refine aw_getR dX1_fitsDrawn_50 gfX1_9 er15 ?_
      refine aw_iload_n 1 dX1_fitsDrawn_53 rfl rfl ?_
      refine aw_dup2 dX1_fitsDrawn_54 rfl rfl ?_
      obtain ⟨x16, ex16, hf⟩ := b_some hf
      refine aw_iald dX1_fitsDrawn_55 ex16 ?_
      refine aw_aload_n 2 dX1_fitsDrawn_56 rfl rfl ?_
      obtain ⟨x17, ex17, hf⟩ := b_some hf
      refine aw_getI dX1_fitsDrawn_57 gfX1_40 ex17 ?_
      refine aw_isub dX1_fitsDrawn_60 ?_
      obtain ⟨h18, eh18, hf⟩ := b_some hf
      refine aw_iast dX1_fitsDrawn_61 eh18 ?_
      refine aw_aload_n 2 dX1_fitsDrawn_62 rfl rfl ?_
      obtain ⟨r19, er19, hf⟩ := b_some hf
      refine aw_getR dX1_fitsDrawn_63 gfX1_9 er19 ?_
      refine aw_iload_n 0 dX1_fitsDrawn_66 rfl rfl ?_
      refine aw_dup2 dX1_fitsDrawn_67 rfl rfl ?_
      obtain ⟨x20, ex20, hf⟩ := b_some hf
      refine aw_iald dX1_fitsDrawn_68 ex20 ?_
      refine aw_aload_n 2 dX1_fitsDrawn_69 rfl rfl ?_
      obtain ⟨x21, ex21, hf⟩ := b_some hf
      refine aw_getI dX1_fitsDrawn_70 gfX1_40 ex21 ?_
      refine aw_isub dX1_fitsDrawn_73 ?_
      obtain ⟨h22, eh22, hf⟩ := b_some hf
      refine aw_iast dX1_fitsDrawn_74 eh22 ?_
      refine aw_aload_n 2 dX1_fitsDrawn_75 rfl rfl ?_
      refine aw_iload_n 3 dX1_fitsDrawn_76 rfl rfl ?_
      refine aw_iconst (v := 1) dX1_fitsDrawn_77 (by decide) ?_
      refine aw_iadd dX1_fitsDrawn_78 ?_
      obtain ⟨u24, eu24, hf⟩ := b_some hf
      obtain ⟨q23, eq23, hf⟩ := b_some hf
      refine aw_cV (as := [.int (l1 + (1 : Int32))]) dX1_fitsDrawn_79 moX1_fits voX1_fits mlX1_84 eu24 rfl (rm_ok (by omega) (by decide)) ⟨Nat.le_refl _, Nat.le_refl _⟩ (Nat.le_of_ble_eq_true rfl) rfl (hks _ _ _ eq23) ?_
      refine aw_istore (L' := [(4, .int q23.1), (3, .int x4), (2, .int x2), (0, .ref l0), (1, .int l1)]) dX1_fitsDrawn_82 (by decide) rfl ?_
      refine aw_aload_n 3 dX1_fitsDrawn_84 rfl rfl ?_
      obtain ⟨r25, er25, hf⟩ := b_some hf
      refine aw_getR dX1_fitsDrawn_85 gfX1_9 er25 ?_
      refine aw_iload_n 2 dX1_fitsDrawn_88 rfl rfl ?_
      refine aw_dup2 dX1_fitsDrawn_89 rfl rfl ?_
      obtain ⟨x26, ex26, hf⟩ := b_some hf
      refine aw_iald dX1_fitsDrawn_90 ex26 ?_
      refine aw_aload_n 3 dX1_fitsDrawn_91 rfl rfl ?_
      obtain ⟨x27, ex27, hf⟩ := b_some hf
      refine aw_getI dX1_fitsDrawn_92 gfX1_40 ex27 ?_
      refine aw_iadd dX1_fitsDrawn_95 ?_
      obtain ⟨h28, eh28, hf⟩ := b_some hf
      refine aw_iast dX1_fitsDrawn_96 eh28 ?_
      refine aw_aload_n 3 dX1_fitsDrawn_97 rfl rfl ?_
      obtain ⟨r29, er29, hf⟩ := b_some hf
      refine aw_getR dX1_fitsDrawn_98 gfX1_9 er29 ?_
      refine aw_iload_n 1 dX1_fitsDrawn_101 rfl rfl ?_
      refine aw_dup2 dX1_fitsDrawn_102 rfl rfl ?_
      obtain ⟨x30, ex30, hf⟩ := b_some hf
      refine aw_iald dX1_fitsDrawn_103 ex30 ?_
      refine aw_aload_n 3 dX1_fitsDrawn_104 rfl rfl ?_
      obtain ⟨x31, ex31, hf⟩ := b_some hf
      refine aw_getI dX1_fitsDrawn_105 gfX1_40 ex31 ?_
      refine aw_iadd dX1_fitsDrawn_108 ?_
      obtain ⟨h32, eh32, hf⟩ := b_some hf
      refine aw_iast dX1_fitsDrawn_109 eh32 ?_
      refine aw_iload 0 dX1_fitsDrawn_110 rfl ?_
      obtain ⟨u33, eu33, hf⟩ := b_some hf
      have hq := Option.some.inj hf
      subst hq
      exact aw_zret hr (bz_nar eu33) dX1_fitsDrawn_112 ⟨rfl, rfl, rfl⟩
    · have hf := i_neg c12 hf
      refine aw_iconst (v := 0) dX1_fitsDrawn_40 (by decide) ?_
      have hq := Option.some.inj hf
      subst hq
      exact aw_zret hr (by decide) dX1_fitsDrawn_41 ⟨rfl, rfl, rfl⟩
theorem k_X1_fitsDrawn {ks : Nat × Int32 → Hp → Option (Int32 × Hp)} {l0 : Nat} {l1 : Int32} {h0 : Hp} {q : Int32 × Hp} (hf : f_X1_fitsDrawn ks l0 l1 h0 = some q) : ck h0 l0 1 = some () := by
  unfold f_X1_fitsDrawn at hf
  obtain ⟨u0, e0, hf⟩ := b_some hf
  exact e0
theorem dX1_fits_0 : decode cX1_fits 0 = .ok (.iload_n 1, 1) := by decide +kernel
theorem dX1_fits_1 : decode cX1_fits 1 = .ok (.aload_n 0, 1) := by decide +kernel
theorem dX1_fits_2 : decode cX1_fits 2 = .ok (.getfield 60, 3) := by decide +kernel
theorem dX1_fits_5 : decode cX1_fits 5 = .ok (.if_icmp .lt 5, 3) := by decide +kernel
theorem dX1_fits_8 : decode cX1_fits 8 = .ok (.iconst 1, 1) := by decide +kernel
theorem dX1_fits_9 : decode cX1_fits 9 = .ok (.ireturn, 1) := by decide +kernel
theorem dX1_fits_10 : decode cX1_fits 10 = .ok (.aload_n 0, 1) := by decide +kernel
theorem dX1_fits_11 : decode cX1_fits 11 = .ok (.iload_n 1, 1) := by decide +kernel
theorem dX1_fits_12 : decode cX1_fits 12 = .ok (.aload_n 0, 1) := by decide +kernel
theorem dX1_fits_13 : decode cX1_fits 13 = .ok (.getfield 15, 3) := by decide +kernel
theorem dX1_fits_16 : decode cX1_fits 16 = .ok (.iload_n 1, 1) := by decide +kernel
theorem dX1_fits_17 : decode cX1_fits 17 = .ok (.iaload, 1) := by decide +kernel
theorem dX1_fits_18 : decode cX1_fits 18 = .ok (.iconst 1, 1) := by decide +kernel
theorem dX1_fits_19 : decode cX1_fits 19 = .ok (.invokevirtual 87, 3) := by decide +kernel
theorem dX1_fits_22 : decode cX1_fits 22 = .ok (.ifCond .eq 5, 3) := by decide +kernel
theorem dX1_fits_25 : decode cX1_fits 25 = .ok (.iconst 1, 1) := by decide +kernel
theorem dX1_fits_26 : decode cX1_fits 26 = .ok (.ireturn, 1) := by decide +kernel
theorem dX1_fits_27 : decode cX1_fits 27 = .ok (.aload_n 0, 1) := by decide +kernel
theorem dX1_fits_28 : decode cX1_fits 28 = .ok (.aload_n 0, 1) := by decide +kernel
theorem dX1_fits_29 : decode cX1_fits 29 = .ok (.getfield 15, 3) := by decide +kernel
theorem dX1_fits_32 : decode cX1_fits 32 = .ok (.iload_n 1, 1) := by decide +kernel
theorem dX1_fits_33 : decode cX1_fits 33 = .ok (.iaload, 1) := by decide +kernel
theorem dX1_fits_34 : decode cX1_fits 34 = .ok (.iload_n 1, 1) := by decide +kernel
theorem dX1_fits_35 : decode cX1_fits 35 = .ok (.invokevirtual 91, 3) := by decide +kernel
theorem dX1_fits_38 : decode cX1_fits 38 = .ok (.ifCond .eq 5, 3) := by decide +kernel
theorem dX1_fits_41 : decode cX1_fits 41 = .ok (.iconst 0, 1) := by decide +kernel
theorem dX1_fits_42 : decode cX1_fits 42 = .ok (.ireturn, 1) := by decide +kernel
theorem dX1_fits_43 : decode cX1_fits 43 = .ok (.aload_n 0, 1) := by decide +kernel
theorem dX1_fits_44 : decode cX1_fits 44 = .ok (.iload_n 1, 1) := by decide +kernel
theorem dX1_fits_45 : decode cX1_fits 45 = .ok (.aload_n 0, 1) := by decide +kernel
theorem dX1_fits_46 : decode cX1_fits 46 = .ok (.getfield 18, 3) := by decide +kernel
theorem dX1_fits_49 : decode cX1_fits 49 = .ok (.iload_n 1, 1) := by decide +kernel
theorem dX1_fits_50 : decode cX1_fits 50 = .ok (.iaload, 1) := by decide +kernel
theorem dX1_fits_51 : decode cX1_fits 51 = .ok (.iconst 2, 1) := by decide +kernel
theorem dX1_fits_52 : decode cX1_fits 52 = .ok (.invokevirtual 87, 3) := by decide +kernel
theorem dX1_fits_55 : decode cX1_fits 55 = .ok (.ifCond .eq 5, 3) := by decide +kernel
theorem dX1_fits_58 : decode cX1_fits 58 = .ok (.iconst 1, 1) := by decide +kernel
theorem dX1_fits_59 : decode cX1_fits 59 = .ok (.ireturn, 1) := by decide +kernel
theorem dX1_fits_60 : decode cX1_fits 60 = .ok (.aload_n 0, 1) := by decide +kernel
theorem dX1_fits_61 : decode cX1_fits 61 = .ok (.getfield 46, 3) := by decide +kernel
theorem dX1_fits_64 : decode cX1_fits 64 = .ok (.ifCond .eq 17, 3) := by decide +kernel
theorem dX1_fits_67 : decode cX1_fits 67 = .ok (.aload_n 0, 1) := by decide +kernel
theorem dX1_fits_68 : decode cX1_fits 68 = .ok (.aload_n 0, 1) := by decide +kernel
theorem dX1_fits_69 : decode cX1_fits 69 = .ok (.getfield 18, 3) := by decide +kernel
theorem dX1_fits_72 : decode cX1_fits 72 = .ok (.iload_n 1, 1) := by decide +kernel
theorem dX1_fits_73 : decode cX1_fits 73 = .ok (.iaload, 1) := by decide +kernel
theorem dX1_fits_74 : decode cX1_fits 74 = .ok (.iload_n 1, 1) := by decide +kernel
theorem dX1_fits_75 : decode cX1_fits 75 = .ok (.invokevirtual 91, 3) := by decide +kernel
theorem dX1_fits_78 : decode cX1_fits 78 = .ok (.ifCond .eq 5, 3) := by decide +kernel
theorem dX1_fits_81 : decode cX1_fits 81 = .ok (.iconst 0, 1) := by decide +kernel
theorem dX1_fits_82 : decode cX1_fits 82 = .ok (.ireturn, 1) := by decide +kernel
theorem dX1_fits_83 : decode cX1_fits 83 = .ok (.aload_n 0, 1) := by decide +kernel
theorem dX1_fits_84 : decode cX1_fits 84 = .ok (.iload_n 1, 1) := by decide +kernel
theorem dX1_fits_85 : decode cX1_fits 85 = .ok (.invokevirtual 94, 3) := by decide +kernel
theorem dX1_fits_88 : decode cX1_fits 88 = .ok (.ireturn, 1) := by decide +kernel
def f_X1_fits_r (ks : Nat × Int32 → Hp → Option (Int32 × Hp)) (l0 : Nat) (l1 : Int32) (h0 : Hp) : Option (Int32 × Hp) :=
  (ck h0 l0 1).bind fun _ => (gI h0 l0 1 5).bind fun x1 => if l1 < x1 then ((gR h0 l0 1 1).bind fun r3 => (aL h0 r3 l1).bind fun x4 => (f_X1_fitsWon ks l0 l1 x4 (1 : Int32) h0).bind fun q5 => if q5.1 = 0 then ((gR q5.2 l0 1 1).bind fun r7 => (aL q5.2 r7 l1).bind fun x8 => (f_X1_hasRoomForAll l0 x8 l1 q5.2).bind fun q9 => if q9.1 = 0 then ((gR q9.2 l0 1 2).bind fun r11 => (aL q9.2 r11 l1).bind fun x12 => (f_X1_fitsWon ks l0 l1 x12 (2 : Int32) q9.2).bind fun q13 => if q13.1 = 0 then ((gI q13.2 l0 1 8).bind fun x15 => if x15 = 0 then (some ((0 : Int32), q13.2)) else ((gR q13.2 l0 1 2).bind fun r17 => (aL q13.2 r17 l1).bind fun x18 => (f_X1_hasRoomForAll l0 x18 l1 q13.2).bind fun q19 => if q19.1 = 0 then ((f_X1_fitsDrawn ks l0 l1 q19.2).bind fun q21 => (bz q21.1).bind fun u22 => some (q21.1, q21.2)) else (some ((0 : Int32), q19.2)))) else (some ((1 : Int32), q13.2))) else (some ((0 : Int32), q9.2))) else (some ((1 : Int32), q5.2))) else (some ((1 : Int32), h0))
set_option maxRecDepth 100000 in
set_option maxHeartbeats 4000000 in
theorem c_X1_fits_r {d : Nat} (hdd : 1 ≤ d) {ks : Nat × Int32 → Hp → Option (Int32 × Hp)} (hks : ∀ a h p, ks a h = some p → Mt d yX1_fits cX1_fits 2 (some .boolean) [.ref a.1, .int a.2] h (some (.int p.1)) p.2) {l0 : Nat} {l1 : Int32} {h0 : Hp} {q : Int32 × Hp} (hf : f_X1_fits_r ks l0 l1 h0 = some q) : Mt (d + 2) yX1_fits cX1_fits 2 (some .boolean) [.ref l0, .int l1] h0 (some (.int q.1)) q.2 := by
  refine MtQ.of (by decide) (Nat.le_of_ble_eq_true rfl) (fun X adr hr hn => ?_)
  unfold f_X1_fits_r at hf
  show AW X cX1_fits 2 RX1 (rmd (d + 2) 0 0) (Qmet X 0 0 (Qe (some (.int q.1)) q.2 adr)) 0 0 adr h0 0 [(0, .ref l0), (1, .int l1)] []
  obtain ⟨u0, e0, hf⟩ := b_some hf
  refine aw_iload_n 1 dX1_fits_0 rfl rfl ?_
  refine aw_aload_n 0 dX1_fits_1 rfl rfl ?_
  obtain ⟨x1, ex1, hf⟩ := b_some hf
  refine aw_getI dX1_fits_2 gfX1_60 ex1 ?_
  refine aw_icmp_lt (tgt := 10) dX1_fits_5 (by decide) (fun c2 => ?_) (fun c2 => ?_)
  · have hf := i_pos c2 hf
    refine aw_aload_n 0 dX1_fits_10 rfl rfl ?_
    refine aw_iload_n 1 dX1_fits_11 rfl rfl ?_
    refine aw_aload_n 0 dX1_fits_12 rfl rfl ?_
    obtain ⟨r3, er3, hf⟩ := b_some hf
    refine aw_getR dX1_fits_13 gfX1_15 er3 ?_
    refine aw_iload_n 1 dX1_fits_16 rfl rfl ?_
    obtain ⟨x4, ex4, hf⟩ := b_some hf
    refine aw_iald dX1_fits_17 ex4 ?_
    refine aw_iconst (v := 1) dX1_fits_18 (by decide) ?_
    obtain ⟨q5, eq5, hf⟩ := b_some hf
    refine aw_cV (as := [.int l1, .int x4, .int (1 : Int32)]) dX1_fits_19 moX1_fitsWon voX1_fitsWon mlX1_87 (k_X1_fitsWon eq5) rfl (rm_ok (by omega) (by decide)) ⟨Nat.le_refl _, Nat.le_refl _⟩ (Nat.le_of_ble_eq_true rfl) rfl (c_X1_fitsWon (by omega) hks eq5) ?_
    refine aw_if_eq (tgt := 27) dX1_fits_22 (by decide) (fun c6 => ?_) (fun c6 => ?_)
    · have hf := i_pos c6 hf
      refine aw_aload_n 0 dX1_fits_27 rfl rfl ?_
      refine aw_aload_n 0 dX1_fits_28 rfl rfl ?_
      obtain ⟨r7, er7, hf⟩ := b_some hf
      refine aw_getR dX1_fits_29 gfX1_15 er7 ?_
      refine aw_iload_n 1 dX1_fits_32 rfl rfl ?_
      obtain ⟨x8, ex8, hf⟩ := b_some hf
      refine aw_iald dX1_fits_33 ex8 ?_
      refine aw_iload_n 1 dX1_fits_34 rfl rfl ?_
      obtain ⟨q9, eq9, hf⟩ := b_some hf
      refine aw_cV (as := [.int x8, .int l1]) dX1_fits_35 moX1_hasRoomForAll voX1_hasRoomForAll mlX1_91 (k_X1_hasRoomForAll eq9) rfl (rm_ok (by omega) (by decide)) ⟨Nat.le_refl _, Nat.le_refl _⟩ (Nat.le_of_ble_eq_true rfl) rfl (c_X1_hasRoomForAll eq9) ?_
      refine aw_if_eq (tgt := 43) dX1_fits_38 (by decide) (fun c10 => ?_) (fun c10 => ?_)
      · have hf := i_pos c10 hf
        refine aw_aload_n 0 dX1_fits_43 rfl rfl ?_
        refine aw_iload_n 1 dX1_fits_44 rfl rfl ?_
        refine aw_aload_n 0 dX1_fits_45 rfl rfl ?_
        obtain ⟨r11, er11, hf⟩ := b_some hf
        refine aw_getR dX1_fits_46 gfX1_18 er11 ?_
        refine aw_iload_n 1 dX1_fits_49 rfl rfl ?_
        obtain ⟨x12, ex12, hf⟩ := b_some hf
        refine aw_iald dX1_fits_50 ex12 ?_
        refine aw_iconst (v := 2) dX1_fits_51 (by decide) ?_
        obtain ⟨q13, eq13, hf⟩ := b_some hf
        refine aw_cV (as := [.int l1, .int x12, .int (2 : Int32)]) dX1_fits_52 moX1_fitsWon voX1_fitsWon mlX1_87 (k_X1_fitsWon eq13) rfl (rm_ok (by omega) (by decide)) ⟨Nat.le_refl _, Nat.le_refl _⟩ (Nat.le_of_ble_eq_true rfl) rfl (c_X1_fitsWon (by omega) hks eq13) ?_
        refine aw_if_eq (tgt := 60) dX1_fits_55 (by decide) (fun c14 => ?_) (fun c14 => ?_)
        · have hf := i_pos c14 hf
          refine aw_aload_n 0 dX1_fits_60 rfl rfl ?_
          obtain ⟨x15, ex15, hf⟩ := b_some hf
          refine aw_getI dX1_fits_61 gfX1_46 ex15 ?_
          refine aw_if_eq (tgt := 81) dX1_fits_64 (by decide) (fun c16 => ?_) (fun c16 => ?_)
          · have hf := i_pos c16 hf
            refine aw_iconst (v := 0) dX1_fits_81 (by decide) ?_
            have hq := Option.some.inj hf
            subst hq
            exact aw_zret hr (by decide) dX1_fits_82 ⟨rfl, rfl, rfl⟩
          · have hf := i_neg c16 hf
            refine aw_aload_n 0 dX1_fits_67 rfl rfl ?_
            refine aw_aload_n 0 dX1_fits_68 rfl rfl ?_
            obtain ⟨r17, er17, hf⟩ := b_some hf
            refine aw_getR dX1_fits_69 gfX1_18 er17 ?_
            refine aw_iload_n 1 dX1_fits_72 rfl rfl ?_
            obtain ⟨x18, ex18, hf⟩ := b_some hf
            refine aw_iald dX1_fits_73 ex18 ?_
            refine aw_iload_n 1 dX1_fits_74 rfl rfl ?_
            obtain ⟨q19, eq19, hf⟩ := b_some hf
            refine aw_cV (as := [.int x18, .int l1]) dX1_fits_75 moX1_hasRoomForAll voX1_hasRoomForAll mlX1_91 (k_X1_hasRoomForAll eq19) rfl (rm_ok (by omega) (by decide)) ⟨Nat.le_refl _, Nat.le_refl _⟩ (Nat.le_of_ble_eq_true rfl) rfl (c_X1_hasRoomForAll eq19) ?_
            refine aw_if_eq (tgt := 83) dX1_fits_78 (by decide) (fun c20 => ?_) (fun c20 => ?_)
            · have hf := i_pos c20 hf
              refine aw_aload_n 0 dX1_fits_83 rfl rfl ?_
              refine aw_iload_n 1 dX1_fits_84 rfl rfl ?_
              obtain ⟨q21, eq21, hf⟩ := b_some hf
              refine aw_cV (as := [.int l1]) dX1_fits_85 moX1_fitsDrawn voX1_fitsDrawn mlX1_94 (k_X1_fitsDrawn eq21) rfl (rm_ok (by omega) (by decide)) ⟨Nat.le_refl _, Nat.le_refl _⟩ (Nat.le_of_ble_eq_true rfl) rfl (c_X1_fitsDrawn (by omega) hks eq21) ?_
              obtain ⟨u22, eu22, hf⟩ := b_some hf
              have hq := Option.some.inj hf
              subst hq
              exact aw_zret hr (bz_nar eu22) dX1_fits_88 ⟨rfl, rfl, rfl⟩
            · have hf := i_neg c20 hf
              refine aw_iconst (v := 0) dX1_fits_81 (by decide) ?_
              have hq := Option.some.inj hf
              subst hq
              exact aw_zret hr (by decide) dX1_fits_82 ⟨rfl, rfl, rfl⟩
        · have hf := i_neg c14 hf
          refine aw_iconst (v := 1) dX1_fits_58 (by decide) ?_
          have hq := Option.some.inj hf
          subst hq
          exact aw_zret hr (by decide) dX1_fits_59 ⟨rfl, rfl, rfl⟩
      · have hf := i_neg c10 hf
        refine aw_iconst (v := 0) dX1_fits_41 (by decide) ?_
        have hq := Option.some.inj hf
        subst hq
        exact aw_zret hr (by decide) dX1_fits_42 ⟨rfl, rfl, rfl⟩
    · have hf := i_neg c6 hf
      refine aw_iconst (v := 1) dX1_fits_25 (by decide) ?_
      have hq := Option.some.inj hf
      subst hq
      exact aw_zret hr (by decide) dX1_fits_26 ⟨rfl, rfl, rfl⟩
  · have hf := i_neg c2 hf
    refine aw_iconst (v := 1) dX1_fits_8 (by decide) ?_
    have hq := Option.some.inj hf
    subst hq
    exact aw_zret hr (by decide) dX1_fits_9 ⟨rfl, rfl, rfl⟩
def f_X1_fits (n : Nat) (l0 : Nat) (l1 : Int32) (h0 : Hp) : Option (Int32 × Hp) := lp (fun ks a h => f_X1_fits_r ks a.1 a.2 h) n (l0, l1) h0
theorem c_X1_fits_l : ∀ (n : Nat) (a : Nat × Int32) (h : Hp) (p : Int32 × Hp), lp (fun ks a h => f_X1_fits_r ks a.1 a.2 h) n a h = some p → Mt (1 + 2 * n) yX1_fits cX1_fits 2 (some .boolean) [.ref a.1, .int a.2] h (some (.int p.1)) p.2
  | 0, _, _, _, hf => by cases hf
  | n + 1, a, h, p, hf => c_X1_fits_r (d := 1 + 2 * n) (Nat.le_add_right _ _) (c_X1_fits_l n) hf
theorem c_X1_fits (n : Nat) {l0 : Nat} {l1 : Int32} {h0 : Hp} {q : Int32 × Hp} (hf : f_X1_fits n l0 l1 h0 = some q) : Mt (1 + 2 * n) yX1_fits cX1_fits 2 (some .boolean) [.ref l0, .int l1] h0 (some (.int q.1)) q.2 := c_X1_fits_l n _ h0 q hf
theorem k_X1_fits {n : Nat} {l0 : Nat} {l1 : Int32} {h0 : Hp} {q : Int32 × Hp} (hf : f_X1_fits n l0 l1 h0 = some q) : ck h0 l0 1 = some () := by
  cases n with
  | zero => cases hf
  | succ n =>
    obtain ⟨u0, e0, hf⟩ := b_some (show (ck h0 l0 1).bind _ = some q from hf)
    exact e0
theorem dX1_canEnd_0 : decode cX1_canEnd 0 = .ok (.iconst 0, 1) := by decide +kernel
theorem dX1_canEnd_1 : decode cX1_canEnd 1 = .ok (.istore_n 1, 1) := by decide +kernel
theorem dX1_canEnd_2 : decode cX1_canEnd 2 = .ok (.iload_n 1, 1) := by decide +kernel
theorem dX1_canEnd_3 : decode cX1_canEnd 3 = .ok (.bipush 6, 2) := by decide +kernel
theorem dX1_canEnd_5 : decode cX1_canEnd 5 = .ok (.if_icmp .ge 20, 3) := by decide +kernel
theorem dX1_canEnd_8 : decode cX1_canEnd 8 = .ok (.aload_n 0, 1) := by decide +kernel
theorem dX1_canEnd_9 : decode cX1_canEnd 9 = .ok (.getfield 9, 3) := by decide +kernel
theorem dX1_canEnd_12 : decode cX1_canEnd 12 = .ok (.iload_n 1, 1) := by decide +kernel
theorem dX1_canEnd_13 : decode cX1_canEnd 13 = .ok (.iaload, 1) := by decide +kernel
theorem dX1_canEnd_14 : decode cX1_canEnd 14 = .ok (.ifCond .ge 5, 3) := by decide +kernel
theorem dX1_canEnd_17 : decode cX1_canEnd 17 = .ok (.iconst 0, 1) := by decide +kernel
theorem dX1_canEnd_18 : decode cX1_canEnd 18 = .ok (.ireturn, 1) := by decide +kernel
theorem dX1_canEnd_19 : decode cX1_canEnd 19 = .ok (.iinc 1 1, 3) := by decide +kernel
theorem dX1_canEnd_22 : decode cX1_canEnd 22 = .ok (.goto (-20), 3) := by decide +kernel
theorem dX1_canEnd_25 : decode cX1_canEnd 25 = .ok (.aload_n 0, 1) := by decide +kernel
theorem dX1_canEnd_26 : decode cX1_canEnd 26 = .ok (.iconst 0, 1) := by decide +kernel
theorem dX1_canEnd_27 : decode cX1_canEnd 27 = .ok (.invokevirtual 84, 3) := by decide +kernel
theorem dX1_canEnd_30 : decode cX1_canEnd 30 = .ok (.ireturn, 1) := by decide +kernel
def f_X1_canEnd_2 (k2 : Nat × Int32 → Hp → Option (Int32 × Hp)) (v : Nat × Int32) (h0 : Hp) : Option (Int32 × Hp) :=
  match v with
  | (l0, l1) => if (6 : Int32) ≤ l1 then ((f_X1_fits 12 l0 (0 : Int32) h0).bind fun q2 => (bz q2.1).bind fun u3 => some (q2.1, q2.2)) else ((gR h0 l0 1 0).bind fun r4 => (aL h0 r4 l1).bind fun x5 => if 0 ≤ x5 then ((some (l1 + 1)).bind fun x7 => k2 (l0, x7) h0) else (some ((0 : Int32), h0)))
set_option maxRecDepth 100000 in
set_option maxHeartbeats 4000000 in
theorem c_X1_canEnd_2 {X : Cx} {adr : Nat → Nat} {q : Int32 × Hp} (hr : (mth X).sig.returnType = (some .boolean)) (n : Nat) : ∀ v h0, lp (f_X1_canEnd_2) n v h0 = some q → AW X cX1_canEnd 2 RX1 (rmd 26 0 0) (Qmet X 0 0 (Qe (some (.int q.1)) q.2 adr)) 0 0 adr h0 2 [(0, .ref v.1), (1, .int v.2)] [] := by
  refine aw_lp (fun k2 hk2 v h0 hf => ?_) n
  obtain ⟨l0, l1⟩ := v
  unfold f_X1_canEnd_2 at hf
  dsimp only at hf
  show AW X cX1_canEnd 2 RX1 (rmd 26 0 0) (Qmet X 0 0 (Qe (some (.int q.1)) q.2 adr)) 0 0 adr h0 2 [(0, .ref l0), (1, .int l1)] []
  refine aw_iload_n 1 dX1_canEnd_2 rfl rfl ?_
  refine aw_bipush (v := 6) dX1_canEnd_3 (by decide) ?_
  refine aw_icmp_ge (tgt := 25) dX1_canEnd_5 (by decide) (fun c1 => ?_) (fun c1 => ?_)
  · have hf := i_pos c1 hf
    refine aw_aload_n 0 dX1_canEnd_25 rfl rfl ?_
    refine aw_iconst (v := 0) dX1_canEnd_26 (by decide) ?_
    obtain ⟨q2, eq2, hf⟩ := b_some hf
    refine aw_cV (as := [.int (0 : Int32)]) dX1_canEnd_27 moX1_fits voX1_fits mlX1_84 (k_X1_fits eq2) rfl (rm_ok (by omega) (by decide)) ⟨Nat.le_refl _, Nat.le_refl _⟩ (Nat.le_of_ble_eq_true rfl) rfl (c_X1_fits 12 eq2) ?_
    obtain ⟨u3, eu3, hf⟩ := b_some hf
    have hq := Option.some.inj hf
    subst hq
    exact aw_zret hr (bz_nar eu3) dX1_canEnd_30 ⟨rfl, rfl, rfl⟩
  · have hf := i_neg c1 hf
    refine aw_aload_n 0 dX1_canEnd_8 rfl rfl ?_
    obtain ⟨r4, er4, hf⟩ := b_some hf
    refine aw_getR dX1_canEnd_9 gfX1_9 er4 ?_
    refine aw_iload_n 1 dX1_canEnd_12 rfl rfl ?_
    obtain ⟨x5, ex5, hf⟩ := b_some hf
    refine aw_iald dX1_canEnd_13 ex5 ?_
    refine aw_if_ge (tgt := 19) dX1_canEnd_14 (by decide) (fun c6 => ?_) (fun c6 => ?_)
    · have hf := i_pos c6 hf
      obtain ⟨x7, ex7, hf⟩ := b_some hf
      refine aw_iinc (v := x7) (L' := [(1, .int x7), (0, .ref l0)]) 1 dX1_canEnd_19 rfl (Option.some.inj ex7) (by decide) rfl ?_
      refine aw_goto (tgt := 2) dX1_canEnd_22 (by decide) ?_
      exact aw_sub [1, 0] rfl (hk2 _ _ hf)
    · have hf := i_neg c6 hf
      refine aw_iconst (v := 0) dX1_canEnd_17 (by decide) ?_
      have hq := Option.some.inj hf
      subst hq
      exact aw_zret hr (by decide) dX1_canEnd_18 ⟨rfl, rfl, rfl⟩
def f_X1_canEnd (l0 : Nat) (h0 : Hp) : Option (Int32 × Hp) :=
  (ck h0 l0 1).bind fun _ => lp (f_X1_canEnd_2) 600 (l0, (0 : Int32)) h0
set_option maxRecDepth 100000 in
set_option maxHeartbeats 4000000 in
theorem c_X1_canEnd {l0 : Nat} {h0 : Hp} {q : Int32 × Hp} (hf : f_X1_canEnd l0 h0 = some q) : Mt 26 yX1_canEnd cX1_canEnd 2 (some .boolean) [.ref l0] h0 (some (.int q.1)) q.2 := by
  refine MtQ.of (by decide) (Nat.le_of_ble_eq_true rfl) (fun X adr hr hn => ?_)
  unfold f_X1_canEnd at hf
  show AW X cX1_canEnd 2 RX1 (rmd 26 0 0) (Qmet X 0 0 (Qe (some (.int q.1)) q.2 adr)) 0 0 adr h0 0 [(0, .ref l0)] []
  obtain ⟨u0, e0, hf⟩ := b_some hf
  refine aw_iconst (v := 0) dX1_canEnd_0 (by decide) ?_
  refine aw_istore_n (L' := [(1, .int (0 : Int32)), (0, .ref l0)]) dX1_canEnd_1 rfl (by decide) rfl ?_
  exact aw_sub [1, 0] rfl (c_X1_canEnd_2 hr 600 _ _ hf)
theorem k_X1_canEnd {l0 : Nat} {h0 : Hp} {q : Int32 × Hp} (hf : f_X1_canEnd l0 h0 = some q) : ck h0 l0 1 = some () := by
  unfold f_X1_canEnd at hf
  obtain ⟨u0, e0, hf⟩ := b_some hf
  exact e0
theorem dX6_has_0 : decode cX6_has 0 = .ok (.iload_n 0, 1) := by decide +kernel
theorem dX6_has_1 : decode cX6_has 1 = .ok (.iload_n 1, 1) := by decide +kernel
theorem dX6_has_2 : decode cX6_has 2 = .ok (.ishr, 1) := by decide +kernel
theorem dX6_has_3 : decode cX6_has 3 = .ok (.iconst 1, 1) := by decide +kernel
theorem dX6_has_4 : decode cX6_has 4 = .ok (.iand, 1) := by decide +kernel
theorem dX6_has_5 : decode cX6_has 5 = .ok (.iconst 1, 1) := by decide +kernel
theorem dX6_has_6 : decode cX6_has 6 = .ok (.if_icmp .ne 7, 3) := by decide +kernel
theorem dX6_has_9 : decode cX6_has 9 = .ok (.iconst 1, 1) := by decide +kernel
theorem dX6_has_10 : decode cX6_has 10 = .ok (.goto 4, 3) := by decide +kernel
theorem dX6_has_13 : decode cX6_has 13 = .ok (.iconst 0, 1) := by decide +kernel
theorem dX6_has_14 : decode cX6_has 14 = .ok (.ireturn, 1) := by decide +kernel
def f_X6_has (l0 : Int32) (l1 : Int32) (h0 : Hp) : Option (Int32 × Hp) :=
  if ((l0 >>> (l1 &&& 31)) &&& (1 : Int32)) = (1 : Int32) then (some ((1 : Int32), h0)) else (some ((0 : Int32), h0))
set_option maxRecDepth 100000 in
set_option maxHeartbeats 4000000 in
theorem c_X6_has {l0 : Int32} {l1 : Int32} {h0 : Hp} {q : Int32 × Hp} (hf : f_X6_has l0 l1 h0 = some q) : Mt 1 yX6_has cX6_has 2 (some .boolean) [.int l0, .int l1] h0 (some (.int q.1)) q.2 := by
  refine MtQ.of (by decide) (Nat.le_of_ble_eq_true rfl) (fun X adr hr hn => ?_)
  unfold f_X6_has at hf
  show AW X cX6_has 2 RX6 (rmd 1 0 0) (Qmet X 0 0 (Qe (some (.int q.1)) q.2 adr)) 0 0 adr h0 0 [(0, .int l0), (1, .int l1)] []
  refine aw_iload_n 0 dX6_has_0 rfl rfl ?_
  refine aw_iload_n 1 dX6_has_1 rfl rfl ?_
  refine aw_ishr dX6_has_2 ?_
  refine aw_iconst (v := 1) dX6_has_3 (by decide) ?_
  refine aw_iand dX6_has_4 ?_
  refine aw_iconst (v := 1) dX6_has_5 (by decide) ?_
  refine aw_icmp_ne (tgt := 13) dX6_has_6 (by decide) (fun c1 => ?_) (fun c1 => ?_)
  · have hf := i_neg c1 hf
    refine aw_iconst (v := 0) dX6_has_13 (by decide) ?_
    have hq := Option.some.inj hf
    subst hq
    exact aw_zret hr (by decide) dX6_has_14 ⟨rfl, rfl, rfl⟩
  · have hf := i_pos c1 hf
    refine aw_iconst (v := 1) dX6_has_9 (by decide) ?_
    refine aw_goto (tgt := 14) dX6_has_10 (by decide) ?_
    have hq := Option.some.inj hf
    subst hq
    exact aw_zret hr (by decide) dX6_has_14 ⟨rfl, rfl, rfl⟩
theorem dX1_enter_0 : decode cX1_enter 0 = .ok (.aload_n 0, 1) := by decide +kernel
theorem dX1_enter_1 : decode cX1_enter 1 = .ok (.getfield 21, 3) := by decide +kernel
theorem dX1_enter_4 : decode cX1_enter 4 = .ok (.aload_n 0, 1) := by decide +kernel
theorem dX1_enter_5 : decode cX1_enter 5 = .ok (.getfield 60, 3) := by decide +kernel
theorem dX1_enter_8 : decode cX1_enter 8 = .ok (.iload_n 1, 1) := by decide +kernel
theorem dX1_enter_9 : decode cX1_enter 9 = .ok (.iastore, 1) := by decide +kernel
theorem dX1_enter_10 : decode cX1_enter 10 = .ok (.aload_n 0, 1) := by decide +kernel
theorem dX1_enter_11 : decode cX1_enter 11 = .ok (.getfield 15, 3) := by decide +kernel
theorem dX1_enter_14 : decode cX1_enter 14 = .ok (.aload_n 0, 1) := by decide +kernel
theorem dX1_enter_15 : decode cX1_enter 15 = .ok (.getfield 60, 3) := by decide +kernel
theorem dX1_enter_18 : decode cX1_enter 18 = .ok (.iload_n 2, 1) := by decide +kernel
theorem dX1_enter_19 : decode cX1_enter 19 = .ok (.iastore, 1) := by decide +kernel
theorem dX1_enter_20 : decode cX1_enter 20 = .ok (.aload_n 0, 1) := by decide +kernel
theorem dX1_enter_21 : decode cX1_enter 21 = .ok (.getfield 18, 3) := by decide +kernel
theorem dX1_enter_24 : decode cX1_enter 24 = .ok (.aload_n 0, 1) := by decide +kernel
theorem dX1_enter_25 : decode cX1_enter 25 = .ok (.getfield 60, 3) := by decide +kernel
theorem dX1_enter_28 : decode cX1_enter 28 = .ok (.iload_n 3, 1) := by decide +kernel
theorem dX1_enter_29 : decode cX1_enter 29 = .ok (.iastore, 1) := by decide +kernel
theorem dX1_enter_30 : decode cX1_enter 30 = .ok (.aload_n 0, 1) := by decide +kernel
theorem dX1_enter_31 : decode cX1_enter 31 = .ok (.dup, 1) := by decide +kernel
theorem dX1_enter_32 : decode cX1_enter 32 = .ok (.getfield 60, 3) := by decide +kernel
theorem dX1_enter_35 : decode cX1_enter 35 = .ok (.iconst 1, 1) := by decide +kernel
theorem dX1_enter_36 : decode cX1_enter 36 = .ok (.iadd, 1) := by decide +kernel
theorem dX1_enter_37 : decode cX1_enter 37 = .ok (.putfield 60, 3) := by decide +kernel
theorem dX1_enter_40 : decode cX1_enter 40 = .ok (.return_, 1) := by decide +kernel
def f_X1_enter (l0 : Nat) (l1 : Int32) (l2 : Int32) (l3 : Int32) (h0 : Hp) : Option (Unit × Hp) :=
  (ck h0 l0 1).bind fun _ => (gR h0 l0 1 3).bind fun r1 => (gI h0 l0 1 5).bind fun x2 => (aS h0 r1 x2 l1).bind fun h3 => (gR h3 l0 1 1).bind fun r4 => (gI h3 l0 1 5).bind fun x5 => (aS h3 r4 x5 l2).bind fun h6 => (gR h6 l0 1 2).bind fun r7 => (gI h6 l0 1 5).bind fun x8 => (aS h6 r7 x8 l3).bind fun h9 => (gI h9 l0 1 5).bind fun x10 => (pI h9 l0 1 5 (x10 + (1 : Int32))).bind fun h11 => some ((), h11)
set_option maxRecDepth 100000 in
set_option maxHeartbeats 4000000 in
theorem c_X1_enter {l0 : Nat} {l1 : Int32} {l2 : Int32} {l3 : Int32} {h0 : Hp} {q : Unit × Hp} (hf : f_X1_enter l0 l1 l2 l3 h0 = some q) : Mt 1 yX1_enter cX1_enter 4 none [.ref l0, .int l1, .int l2, .int l3] h0 none q.2 := by
  refine MtQ.of (by decide) (Nat.le_of_ble_eq_true rfl) (fun X adr hr hn => ?_)
  unfold f_X1_enter at hf
  show AW X cX1_enter 4 RX1 (rmd 1 0 0) (Qmet X 0 0 (Qe none q.2 adr)) 0 0 adr h0 0 [(0, .ref l0), (1, .int l1), (2, .int l2), (3, .int l3)] []
  obtain ⟨u0, e0, hf⟩ := b_some hf
  refine aw_aload_n 0 dX1_enter_0 rfl rfl ?_
  obtain ⟨r1, er1, hf⟩ := b_some hf
  refine aw_getR dX1_enter_1 gfX1_21 er1 ?_
  refine aw_aload_n 0 dX1_enter_4 rfl rfl ?_
  obtain ⟨x2, ex2, hf⟩ := b_some hf
  refine aw_getI dX1_enter_5 gfX1_60 ex2 ?_
  refine aw_iload_n 1 dX1_enter_8 rfl rfl ?_
  obtain ⟨h3, eh3, hf⟩ := b_some hf
  refine aw_iast dX1_enter_9 eh3 ?_
  refine aw_aload_n 0 dX1_enter_10 rfl rfl ?_
  obtain ⟨r4, er4, hf⟩ := b_some hf
  refine aw_getR dX1_enter_11 gfX1_15 er4 ?_
  refine aw_aload_n 0 dX1_enter_14 rfl rfl ?_
  obtain ⟨x5, ex5, hf⟩ := b_some hf
  refine aw_getI dX1_enter_15 gfX1_60 ex5 ?_
  refine aw_iload_n 2 dX1_enter_18 rfl rfl ?_
  obtain ⟨h6, eh6, hf⟩ := b_some hf
  refine aw_iast dX1_enter_19 eh6 ?_
  refine aw_aload_n 0 dX1_enter_20 rfl rfl ?_
  obtain ⟨r7, er7, hf⟩ := b_some hf
  refine aw_getR dX1_enter_21 gfX1_18 er7 ?_
  refine aw_aload_n 0 dX1_enter_24 rfl rfl ?_
  obtain ⟨x8, ex8, hf⟩ := b_some hf
  refine aw_getI dX1_enter_25 gfX1_60 ex8 ?_
  refine aw_iload_n 3 dX1_enter_28 rfl rfl ?_
  obtain ⟨h9, eh9, hf⟩ := b_some hf
  refine aw_iast dX1_enter_29 eh9 ?_
  refine aw_aload_n 0 dX1_enter_30 rfl rfl ?_
  refine aw_dup dX1_enter_31 rfl ?_
  obtain ⟨x10, ex10, hf⟩ := b_some hf
  refine aw_getI dX1_enter_32 gfX1_60 ex10 ?_
  refine aw_iconst (v := 1) dX1_enter_35 (by decide) ?_
  refine aw_iadd dX1_enter_36 ?_
  obtain ⟨h11, eh11, hf⟩ := b_some hf
  refine aw_putI dX1_enter_37 pfX1_60 eh11 ?_
  have hq := Option.some.inj hf
  subst hq
  exact aw_vret hr dX1_enter_40 ⟨rfl, rfl, rfl⟩
theorem k_X1_enter {l0 : Nat} {l1 : Int32} {l2 : Int32} {l3 : Int32} {h0 : Hp} {q : Unit × Hp} (hf : f_X1_enter l0 l1 l2 l3 h0 = some q) : ck h0 l0 1 = some () := by
  unfold f_X1_enter at hf
  obtain ⟨u0, e0, hf⟩ := b_some hf
  exact e0
theorem dX1_drawOnly_0 : decode cX1_drawOnly 0 = .ok (.aload_n 0, 1) := by decide +kernel
theorem dX1_drawOnly_1 : decode cX1_drawOnly 1 = .ok (.iconst 0, 1) := by decide +kernel
theorem dX1_drawOnly_2 : decode cX1_drawOnly 2 = .ok (.putfield 46, 3) := by decide +kernel
theorem dX1_drawOnly_5 : decode cX1_drawOnly 5 = .ok (.aload_n 0, 1) := by decide +kernel
theorem dX1_drawOnly_6 : decode cX1_drawOnly 6 = .ok (.getfield 60, 3) := by decide +kernel
theorem dX1_drawOnly_9 : decode cX1_drawOnly 9 = .ok (.istore_n 2, 1) := by decide +kernel
theorem dX1_drawOnly_10 : decode cX1_drawOnly 10 = .ok (.aload_n 0, 1) := by decide +kernel
theorem dX1_drawOnly_11 : decode cX1_drawOnly 11 = .ok (.iconst 0, 1) := by decide +kernel
theorem dX1_drawOnly_12 : decode cX1_drawOnly 12 = .ok (.putfield 60, 3) := by decide +kernel
theorem dX1_drawOnly_15 : decode cX1_drawOnly 15 = .ok (.iconst 0, 1) := by decide +kernel
theorem dX1_drawOnly_16 : decode cX1_drawOnly 16 = .ok (.istore_n 3, 1) := by decide +kernel
theorem dX1_drawOnly_17 : decode cX1_drawOnly 17 = .ok (.iload_n 3, 1) := by decide +kernel
theorem dX1_drawOnly_18 : decode cX1_drawOnly 18 = .ok (.iload_n 2, 1) := by decide +kernel
theorem dX1_drawOnly_19 : decode cX1_drawOnly 19 = .ok (.if_icmp .ge 83, 3) := by decide +kernel
theorem dX1_drawOnly_22 : decode cX1_drawOnly 22 = .ok (.iload_n 1, 1) := by decide +kernel
theorem dX1_drawOnly_23 : decode cX1_drawOnly 23 = .ok (.aload_n 0, 1) := by decide +kernel
theorem dX1_drawOnly_24 : decode cX1_drawOnly 24 = .ok (.getfield 21, 3) := by decide +kernel
theorem dX1_drawOnly_27 : decode cX1_drawOnly 27 = .ok (.iload_n 3, 1) := by decide +kernel
theorem dX1_drawOnly_28 : decode cX1_drawOnly 28 = .ok (.iaload, 1) := by decide +kernel
theorem dX1_drawOnly_29 : decode cX1_drawOnly 29 = .ok (.invokestatic 80, 3) := by decide +kernel
theorem dX1_drawOnly_32 : decode cX1_drawOnly 32 = .ok (.ifCond .eq 42, 3) := by decide +kernel
theorem dX1_drawOnly_35 : decode cX1_drawOnly 35 = .ok (.aload_n 0, 1) := by decide +kernel
theorem dX1_drawOnly_36 : decode cX1_drawOnly 36 = .ok (.getfield 9, 3) := by decide +kernel
theorem dX1_drawOnly_39 : decode cX1_drawOnly 39 = .ok (.aload_n 0, 1) := by decide +kernel
theorem dX1_drawOnly_40 : decode cX1_drawOnly 40 = .ok (.getfield 15, 3) := by decide +kernel
theorem dX1_drawOnly_43 : decode cX1_drawOnly 43 = .ok (.iload_n 3, 1) := by decide +kernel
theorem dX1_drawOnly_44 : decode cX1_drawOnly 44 = .ok (.iaload, 1) := by decide +kernel
theorem dX1_drawOnly_45 : decode cX1_drawOnly 45 = .ok (.dup2, 1) := by decide +kernel
theorem dX1_drawOnly_46 : decode cX1_drawOnly 46 = .ok (.iaload, 1) := by decide +kernel
theorem dX1_drawOnly_47 : decode cX1_drawOnly 47 = .ok (.aload_n 0, 1) := by decide +kernel
theorem dX1_drawOnly_48 : decode cX1_drawOnly 48 = .ok (.getfield 40, 3) := by decide +kernel
theorem dX1_drawOnly_51 : decode cX1_drawOnly 51 = .ok (.isub, 1) := by decide +kernel
theorem dX1_drawOnly_52 : decode cX1_drawOnly 52 = .ok (.iastore, 1) := by decide +kernel
theorem dX1_drawOnly_53 : decode cX1_drawOnly 53 = .ok (.aload_n 0, 1) := by decide +kernel
theorem dX1_drawOnly_54 : decode cX1_drawOnly 54 = .ok (.getfield 9, 3) := by decide +kernel
theorem dX1_drawOnly_57 : decode cX1_drawOnly 57 = .ok (.aload_n 0, 1) := by decide +kernel
theorem dX1_drawOnly_58 : decode cX1_drawOnly 58 = .ok (.getfield 18, 3) := by decide +kernel
theorem dX1_drawOnly_61 : decode cX1_drawOnly 61 = .ok (.iload_n 3, 1) := by decide +kernel
theorem dX1_drawOnly_62 : decode cX1_drawOnly 62 = .ok (.iaload, 1) := by decide +kernel
theorem dX1_drawOnly_63 : decode cX1_drawOnly 63 = .ok (.dup2, 1) := by decide +kernel
theorem dX1_drawOnly_64 : decode cX1_drawOnly 64 = .ok (.iaload, 1) := by decide +kernel
theorem dX1_drawOnly_65 : decode cX1_drawOnly 65 = .ok (.aload_n 0, 1) := by decide +kernel
theorem dX1_drawOnly_66 : decode cX1_drawOnly 66 = .ok (.getfield 40, 3) := by decide +kernel
theorem dX1_drawOnly_69 : decode cX1_drawOnly 69 = .ok (.isub, 1) := by decide +kernel
theorem dX1_drawOnly_70 : decode cX1_drawOnly 70 = .ok (.iastore, 1) := by decide +kernel
theorem dX1_drawOnly_71 : decode cX1_drawOnly 71 = .ok (.goto 25, 3) := by decide +kernel
theorem dX1_drawOnly_74 : decode cX1_drawOnly 74 = .ok (.aload_n 0, 1) := by decide +kernel
theorem dX1_drawOnly_75 : decode cX1_drawOnly 75 = .ok (.aload_n 0, 1) := by decide +kernel
theorem dX1_drawOnly_76 : decode cX1_drawOnly 76 = .ok (.getfield 21, 3) := by decide +kernel
theorem dX1_drawOnly_79 : decode cX1_drawOnly 79 = .ok (.iload_n 3, 1) := by decide +kernel
theorem dX1_drawOnly_80 : decode cX1_drawOnly 80 = .ok (.iaload, 1) := by decide +kernel
theorem dX1_drawOnly_81 : decode cX1_drawOnly 81 = .ok (.aload_n 0, 1) := by decide +kernel
theorem dX1_drawOnly_82 : decode cX1_drawOnly 82 = .ok (.getfield 15, 3) := by decide +kernel
theorem dX1_drawOnly_85 : decode cX1_drawOnly 85 = .ok (.iload_n 3, 1) := by decide +kernel
theorem dX1_drawOnly_86 : decode cX1_drawOnly 86 = .ok (.iaload, 1) := by decide +kernel
theorem dX1_drawOnly_87 : decode cX1_drawOnly 87 = .ok (.aload_n 0, 1) := by decide +kernel
theorem dX1_drawOnly_88 : decode cX1_drawOnly 88 = .ok (.getfield 18, 3) := by decide +kernel
theorem dX1_drawOnly_91 : decode cX1_drawOnly 91 = .ok (.iload_n 3, 1) := by decide +kernel
theorem dX1_drawOnly_92 : decode cX1_drawOnly 92 = .ok (.iaload, 1) := by decide +kernel
theorem dX1_drawOnly_93 : decode cX1_drawOnly 93 = .ok (.invokevirtual 76, 3) := by decide +kernel
theorem dX1_drawOnly_96 : decode cX1_drawOnly 96 = .ok (.iinc 3 1, 3) := by decide +kernel
theorem dX1_drawOnly_99 : decode cX1_drawOnly 99 = .ok (.goto (-82), 3) := by decide +kernel
theorem dX1_drawOnly_102 : decode cX1_drawOnly 102 = .ok (.return_, 1) := by decide +kernel
def f_X1_drawOnly_17 (k17 : Nat × Int32 × Int32 × Int32 → Hp → Option (Unit × Hp)) (v : Nat × Int32 × Int32 × Int32) (h0 : Hp) : Option (Unit × Hp) :=
  match v with
  | (l0, l1, l2, l3) => if l2 ≤ l3 then (some ((), h0)) else ((gR h0 l0 1 3).bind fun r2 => (aL h0 r2 l3).bind fun x3 => (f_X6_has l1 x3 h0).bind fun q4 => if q4.1 = 0 then ((gR q4.2 l0 1 3).bind fun r6 => (aL q4.2 r6 l3).bind fun x7 => (gR q4.2 l0 1 1).bind fun r8 => (aL q4.2 r8 l3).bind fun x9 => (gR q4.2 l0 1 2).bind fun r10 => (aL q4.2 r10 l3).bind fun x11 => (f_X1_enter l0 x7 x9 x11 q4.2).bind fun q12 => (some (l3 + 1)).bind fun x13 => k17 (l0, l1, l2, x13) q12.2) else ((gR q4.2 l0 1 0).bind fun r14 => (gR q4.2 l0 1 1).bind fun r15 => (aL q4.2 r15 l3).bind fun x16 => (aL q4.2 r14 x16).bind fun x17 => (gI q4.2 l0 1 7).bind fun x18 => (aS q4.2 r14 x16 (x17 - x18)).bind fun h19 => (gR h19 l0 1 0).bind fun r20 => (gR h19 l0 1 2).bind fun r21 => (aL h19 r21 l3).bind fun x22 => (aL h19 r20 x22).bind fun x23 => (gI h19 l0 1 7).bind fun x24 => (aS h19 r20 x22 (x23 - x24)).bind fun h25 => (some (l3 + 1)).bind fun x26 => k17 (l0, l1, l2, x26) h25))
set_option maxRecDepth 100000 in
set_option maxHeartbeats 4000000 in
theorem c_X1_drawOnly_17 {X : Cx} {adr : Nat → Nat} {q : Unit × Hp} (hr : (mth X).sig.returnType = none) (n : Nat) : ∀ v h0, lp (f_X1_drawOnly_17) n v h0 = some q → AW X cX1_drawOnly 4 RX1 (rmd 2 0 0) (Qmet X 0 0 (Qe none q.2 adr)) 0 0 adr h0 17 [(0, .ref v.1), (1, .int v.2.1), (2, .int v.2.2.1), (3, .int v.2.2.2)] [] := by
  refine aw_lp (fun k17 hk17 v h0 hf => ?_) n
  obtain ⟨l0, l1, l2, l3⟩ := v
  unfold f_X1_drawOnly_17 at hf
  dsimp only at hf
  show AW X cX1_drawOnly 4 RX1 (rmd 2 0 0) (Qmet X 0 0 (Qe none q.2 adr)) 0 0 adr h0 17 [(0, .ref l0), (1, .int l1), (2, .int l2), (3, .int l3)] []
  refine aw_iload_n 3 dX1_drawOnly_17 rfl rfl ?_
  refine aw_iload_n 2 dX1_drawOnly_18 rfl rfl ?_
  refine aw_icmp_ge (tgt := 102) dX1_drawOnly_19 (by decide) (fun c1 => ?_) (fun c1 => ?_)
  · have hf := i_pos c1 hf
    have hq := Option.some.inj hf
    subst hq
    exact aw_vret hr dX1_drawOnly_102 ⟨rfl, rfl, rfl⟩
  · have hf := i_neg c1 hf
    refine aw_iload_n 1 dX1_drawOnly_22 rfl rfl ?_
    refine aw_aload_n 0 dX1_drawOnly_23 rfl rfl ?_
    obtain ⟨r2, er2, hf⟩ := b_some hf
    refine aw_getR dX1_drawOnly_24 gfX1_21 er2 ?_
    refine aw_iload_n 3 dX1_drawOnly_27 rfl rfl ?_
    obtain ⟨x3, ex3, hf⟩ := b_some hf
    refine aw_iald dX1_drawOnly_28 ex3 ?_
    obtain ⟨q4, eq4, hf⟩ := b_some hf
    refine aw_cSN (as := [.int l1, .int x3]) dX1_drawOnly_29 moX6_has soX6_has mnX1_80 (rm_ok (by omega) (by decide)) ⟨Nat.le_refl _, Nat.le_refl _⟩ (Nat.le_of_ble_eq_true rfl) rfl (c_X6_has eq4) ?_
    refine aw_if_eq (tgt := 74) dX1_drawOnly_32 (by decide) (fun c5 => ?_) (fun c5 => ?_)
    · have hf := i_pos c5 hf
      refine aw_aload_n 0 dX1_drawOnly_74 rfl rfl ?_
      refine aw_aload_n 0 dX1_drawOnly_75 rfl rfl ?_
      obtain ⟨r6, er6, hf⟩ := b_some hf
      refine aw_getR dX1_drawOnly_76 gfX1_21 er6 ?_
      refine aw_iload_n 3 dX1_drawOnly_79 rfl rfl ?_
      obtain ⟨x7, ex7, hf⟩ := b_some hf
      refine aw_iald dX1_drawOnly_80 ex7 ?_
      refine aw_aload_n 0 dX1_drawOnly_81 rfl rfl ?_
      obtain ⟨r8, er8, hf⟩ := b_some hf
      refine aw_getR dX1_drawOnly_82 gfX1_15 er8 ?_
      refine aw_iload_n 3 dX1_drawOnly_85 rfl rfl ?_
      obtain ⟨x9, ex9, hf⟩ := b_some hf
      refine aw_iald dX1_drawOnly_86 ex9 ?_
      refine aw_aload_n 0 dX1_drawOnly_87 rfl rfl ?_
      obtain ⟨r10, er10, hf⟩ := b_some hf
      refine aw_getR dX1_drawOnly_88 gfX1_18 er10 ?_
      refine aw_iload_n 3 dX1_drawOnly_91 rfl rfl ?_
      obtain ⟨x11, ex11, hf⟩ := b_some hf
      refine aw_iald dX1_drawOnly_92 ex11 ?_
      obtain ⟨q12, eq12, hf⟩ := b_some hf
      refine aw_cV0 (as := [.int x7, .int x9, .int x11]) dX1_drawOnly_93 moX1_enter voX1_enter mlX1_76 (k_X1_enter eq12) rfl (rm_ok (by omega) (by decide)) ⟨Nat.le_refl _, Nat.le_refl _⟩ (Nat.le_of_ble_eq_true rfl) rfl (c_X1_enter eq12) ?_
      obtain ⟨x13, ex13, hf⟩ := b_some hf
      refine aw_iinc (v := x13) (L' := [(3, .int x13), (0, .ref l0), (1, .int l1), (2, .int l2)]) 3 dX1_drawOnly_96 rfl (Option.some.inj ex13) (by decide) rfl ?_
      refine aw_goto (tgt := 17) dX1_drawOnly_99 (by decide) ?_
      exact aw_sub [1, 2, 3, 0] rfl (hk17 _ _ hf)
    · have hf := i_neg c5 hf
      refine aw_aload_n 0 dX1_drawOnly_35 rfl rfl ?_
      obtain ⟨r14, er14, hf⟩ := b_some hf
      refine aw_getR dX1_drawOnly_36 gfX1_9 er14 ?_
      refine aw_aload_n 0 dX1_drawOnly_39 rfl rfl ?_
      obtain ⟨r15, er15, hf⟩ := b_some hf
      refine aw_getR dX1_drawOnly_40 gfX1_15 er15 ?_
      refine aw_iload_n 3 dX1_drawOnly_43 rfl rfl ?_
      obtain ⟨x16, ex16, hf⟩ := b_some hf
      refine aw_iald dX1_drawOnly_44 ex16 ?_
      refine aw_dup2 dX1_drawOnly_45 rfl rfl ?_
      obtain ⟨x17, ex17, hf⟩ := b_some hf
      refine aw_iald dX1_drawOnly_46 ex17 ?_
      refine aw_aload_n 0 dX1_drawOnly_47 rfl rfl ?_
      obtain ⟨x18, ex18, hf⟩ := b_some hf
      refine aw_getI dX1_drawOnly_48 gfX1_40 ex18 ?_
      refine aw_isub dX1_drawOnly_51 ?_
      obtain ⟨h19, eh19, hf⟩ := b_some hf
      refine aw_iast dX1_drawOnly_52 eh19 ?_
      refine aw_aload_n 0 dX1_drawOnly_53 rfl rfl ?_
      obtain ⟨r20, er20, hf⟩ := b_some hf
      refine aw_getR dX1_drawOnly_54 gfX1_9 er20 ?_
      refine aw_aload_n 0 dX1_drawOnly_57 rfl rfl ?_
      obtain ⟨r21, er21, hf⟩ := b_some hf
      refine aw_getR dX1_drawOnly_58 gfX1_18 er21 ?_
      refine aw_iload_n 3 dX1_drawOnly_61 rfl rfl ?_
      obtain ⟨x22, ex22, hf⟩ := b_some hf
      refine aw_iald dX1_drawOnly_62 ex22 ?_
      refine aw_dup2 dX1_drawOnly_63 rfl rfl ?_
      obtain ⟨x23, ex23, hf⟩ := b_some hf
      refine aw_iald dX1_drawOnly_64 ex23 ?_
      refine aw_aload_n 0 dX1_drawOnly_65 rfl rfl ?_
      obtain ⟨x24, ex24, hf⟩ := b_some hf
      refine aw_getI dX1_drawOnly_66 gfX1_40 ex24 ?_
      refine aw_isub dX1_drawOnly_69 ?_
      obtain ⟨h25, eh25, hf⟩ := b_some hf
      refine aw_iast dX1_drawOnly_70 eh25 ?_
      refine aw_goto (tgt := 96) dX1_drawOnly_71 (by decide) ?_
      obtain ⟨x26, ex26, hf⟩ := b_some hf
      refine aw_iinc (v := x26) (L' := [(3, .int x26), (0, .ref l0), (1, .int l1), (2, .int l2)]) 3 dX1_drawOnly_96 rfl (Option.some.inj ex26) (by decide) rfl ?_
      refine aw_goto (tgt := 17) dX1_drawOnly_99 (by decide) ?_
      exact aw_sub [1, 2, 3, 0] rfl (hk17 _ _ hf)
def f_X1_drawOnly (l0 : Nat) (l1 : Int32) (h0 : Hp) : Option (Unit × Hp) :=
  (ck h0 l0 1).bind fun _ => (pZ h0 l0 1 8 (0 : Int32)).bind fun h1 => (gI h1 l0 1 5).bind fun x2 => (pI h1 l0 1 5 (0 : Int32)).bind fun h3 => lp (f_X1_drawOnly_17) 600 (l0, l1, x2, (0 : Int32)) h3
set_option maxRecDepth 100000 in
set_option maxHeartbeats 4000000 in
theorem c_X1_drawOnly {l0 : Nat} {l1 : Int32} {h0 : Hp} {q : Unit × Hp} (hf : f_X1_drawOnly l0 l1 h0 = some q) : Mt 2 yX1_drawOnly cX1_drawOnly 4 none [.ref l0, .int l1] h0 none q.2 := by
  refine MtQ.of (by decide) (Nat.le_of_ble_eq_true rfl) (fun X adr hr hn => ?_)
  unfold f_X1_drawOnly at hf
  show AW X cX1_drawOnly 4 RX1 (rmd 2 0 0) (Qmet X 0 0 (Qe none q.2 adr)) 0 0 adr h0 0 [(0, .ref l0), (1, .int l1)] []
  obtain ⟨u0, e0, hf⟩ := b_some hf
  refine aw_aload_n 0 dX1_drawOnly_0 rfl rfl ?_
  refine aw_iconst (v := 0) dX1_drawOnly_1 (by decide) ?_
  obtain ⟨h1, eh1, hf⟩ := b_some hf
  refine aw_putZ dX1_drawOnly_2 pfX1_46 eh1 ?_
  refine aw_aload_n 0 dX1_drawOnly_5 rfl rfl ?_
  obtain ⟨x2, ex2, hf⟩ := b_some hf
  refine aw_getI dX1_drawOnly_6 gfX1_60 ex2 ?_
  refine aw_istore_n (L' := [(2, .int x2), (0, .ref l0), (1, .int l1)]) dX1_drawOnly_9 rfl (by decide) rfl ?_
  refine aw_aload_n 1 dX1_drawOnly_10 rfl rfl ?_
  refine aw_iconst (v := 0) dX1_drawOnly_11 (by decide) ?_
  obtain ⟨h3, eh3, hf⟩ := b_some hf
  refine aw_putI dX1_drawOnly_12 pfX1_60 eh3 ?_
  refine aw_iconst (v := 0) dX1_drawOnly_15 (by decide) ?_
  refine aw_istore_n (L' := [(3, .int (0 : Int32)), (2, .int x2), (0, .ref l0), (1, .int l1)]) dX1_drawOnly_16 rfl (by decide) rfl ?_
  exact aw_sub [2, 3, 1, 0] rfl (c_X1_drawOnly_17 hr 600 _ _ hf)
theorem k_X1_drawOnly {l0 : Nat} {l1 : Int32} {h0 : Hp} {q : Unit × Hp} (hf : f_X1_drawOnly l0 l1 h0 = some q) : ck h0 l0 1 = some () := by
  unfold f_X1_drawOnly at hf
  obtain ⟨u0, e0, hf⟩ := b_some hf
  exact e0
