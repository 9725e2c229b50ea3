theorem dX7_text_0 : decode cX7_text 0 = .ok (.aload_n 0, 1) := by decide +kernel
theorem dX7_text_1 : decode cX7_text 1 = .ok (.iconst 0, 1) := by decide +kernel
theorem dX7_text_2 : decode cX7_text 2 = .ok (.putfield 140, 3) := by decide +kernel
theorem dX7_text_5 : decode cX7_text 5 = .ok (.aload_n 0, 1) := by decide +kernel
theorem dX7_text_6 : decode cX7_text 6 = .ok (.invokevirtual 164, 3) := by decide +kernel
theorem dX7_text_9 : decode cX7_text 9 = .ok (.aload_n 0, 1) := by decide +kernel
theorem dX7_text_10 : decode cX7_text 10 = .ok (.invokevirtual 158, 3) := by decide +kernel
theorem dX7_text_13 : decode cX7_text 13 = .ok (.ifCond .eq 10, 3) := by decide +kernel
theorem dX7_text_16 : decode cX7_text 16 = .ok (.aload_n 0, 1) := by decide +kernel
theorem dX7_text_17 : decode cX7_text 17 = .ok (.invokevirtual 161, 3) := by decide +kernel
theorem dX7_text_20 : decode cX7_text 20 = .ok (.goto 4, 3) := by decide +kernel
theorem dX7_text_23 : decode cX7_text 23 = .ok (.iconst (-1), 1) := by decide +kernel
theorem dX7_text_24 : decode cX7_text 24 = .ok (.istore_n 1, 1) := by decide +kernel
theorem dX7_text_25 : decode cX7_text 25 = .ok (.iload_n 1, 1) := by decide +kernel
theorem dX7_text_26 : decode cX7_text 26 = .ok (.ifCond .ge 8, 3) := by decide +kernel
theorem dX7_text_29 : decode cX7_text 29 = .ok (.aload_n 0, 1) := by decide +kernel
theorem dX7_text_30 : decode cX7_text 30 = .ok (.invokevirtual 167, 3) := by decide +kernel
theorem dX7_text_33 : decode cX7_text 33 = .ok (.ireturn, 1) := by decide +kernel
theorem dX7_text_34 : decode cX7_text 34 = .ok (.aload_n 0, 1) := by decide +kernel
theorem dX7_text_35 : decode cX7_text 35 = .ok (.invokevirtual 164, 3) := by decide +kernel
theorem dX7_text_38 : decode cX7_text 38 = .ok (.aload_n 0, 1) := by decide +kernel
theorem dX7_text_39 : decode cX7_text 39 = .ok (.invokevirtual 170, 3) := by decide +kernel
theorem dX7_text_42 : decode cX7_text 42 = .ok (.ifCond .eq 35, 3) := by decide +kernel
theorem dX7_text_45 : decode cX7_text 45 = .ok (.aload_n 0, 1) := by decide +kernel
theorem dX7_text_46 : decode cX7_text 46 = .ok (.aload_n 0, 1) := by decide +kernel
theorem dX7_text_47 : decode cX7_text 47 = .ok (.getfield 146, 3) := by decide +kernel
theorem dX7_text_50 : decode cX7_text 50 = .ok (.aload_n 0, 1) := by decide +kernel
theorem dX7_text_51 : decode cX7_text 51 = .ok (.getfield 149, 3) := by decide +kernel
theorem dX7_text_54 : decode cX7_text 54 = .ok (.invokevirtual 173, 3) := by decide +kernel
theorem dX7_text_57 : decode cX7_text 57 = .ok (.ifCond .ge 7, 3) := by decide +kernel
theorem dX7_text_60 : decode cX7_text 60 = .ok (.iconst 1, 1) := by decide +kernel
theorem dX7_text_61 : decode cX7_text 61 = .ok (.goto 4, 3) := by decide +kernel
theorem dX7_text_64 : decode cX7_text 64 = .ok (.iconst 0, 1) := by decide +kernel
theorem dX7_text_65 : decode cX7_text 65 = .ok (.iload_n 1, 1) := by decide +kernel
theorem dX7_text_66 : decode cX7_text 66 = .ok (.ifCond .ne 7, 3) := by decide +kernel
theorem dX7_text_69 : decode cX7_text 69 = .ok (.iconst 1, 1) := by decide +kernel
theorem dX7_text_70 : decode cX7_text 70 = .ok (.goto 4, 3) := by decide +kernel
theorem dX7_text_73 : decode cX7_text 73 = .ok (.iconst 0, 1) := by decide +kernel
theorem dX7_text_74 : decode cX7_text 74 = .ok (.if_icmp .eq 8, 3) := by decide +kernel
theorem dX7_text_77 : decode cX7_text 77 = .ok (.aload_n 0, 1) := by decide +kernel
theorem dX7_text_78 : decode cX7_text 78 = .ok (.invokevirtual 167, 3) := by decide +kernel
theorem dX7_text_81 : decode cX7_text 81 = .ok (.ireturn, 1) := by decide +kernel
theorem dX7_text_82 : decode cX7_text 82 = .ok (.iload_n 1, 1) := by decide +kernel
theorem dX7_text_83 : decode cX7_text 83 = .ok (.ifCond .ne 10, 3) := by decide +kernel
theorem dX7_text_86 : decode cX7_text 86 = .ok (.aload_n 0, 1) := by decide +kernel
theorem dX7_text_87 : decode cX7_text 87 = .ok (.invokevirtual 177, 3) := by decide +kernel
theorem dX7_text_90 : decode cX7_text 90 = .ok (.goto 20, 3) := by decide +kernel
theorem dX7_text_93 : decode cX7_text 93 = .ok (.iload_n 1, 1) := by decide +kernel
theorem dX7_text_94 : decode cX7_text 94 = .ok (.iconst 1, 1) := by decide +kernel
theorem dX7_text_95 : decode cX7_text 95 = .ok (.if_icmp .ne 10, 3) := by decide +kernel
theorem dX7_text_98 : decode cX7_text 98 = .ok (.aload_n 0, 1) := by decide +kernel
theorem dX7_text_99 : decode cX7_text 99 = .ok (.invokevirtual 180, 3) := by decide +kernel
theorem dX7_text_102 : decode cX7_text 102 = .ok (.goto 8, 3) := by decide +kernel
theorem dX7_text_105 : decode cX7_text 105 = .ok (.aload_n 0, 1) := by decide +kernel
theorem dX7_text_106 : decode cX7_text 106 = .ok (.iload_n 1, 1) := by decide +kernel
theorem dX7_text_107 : decode cX7_text 107 = .ok (.invokevirtual 183, 3) := by decide +kernel
theorem dX7_text_110 : decode cX7_text 110 = .ok (.ireturn, 1) := by decide +kernel
def f_X7_text_77 (l0 : Nat) (h0 : Hp) : Option (Int32 × Hp) :=
  (f_X7_faults l0 h0).bind fun q1 => some (q1.1, q1.2)
set_option maxRecDepth 100000 in
set_option maxHeartbeats 4000000 in
theorem c_X7_text_77 {X : Cx} {adr : Nat → Nat} {q : Int32 × Hp} (hr : (mth X).sig.returnType = (some .int)) {l0 : Nat} {h0 : Hp} (hf : f_X7_text_77 l0 h0 = some q) : AW X cX7_text 2 RX7 (rmd 6 0 0) (Qmet X 0 0 (Qe (some (.int q.1)) q.2 adr)) 0 0 adr h0 77 [(0, .ref l0)] [] := by
  unfold f_X7_text_77 at hf
  refine aw_aload_n 0 dX7_text_77 rfl rfl ?_
  obtain ⟨q1, eq1, hf⟩ := b_some hf
  refine aw_cV (as := []) dX7_text_78 moX7_faults voX7_faults mlX7_167 (k_X7_faults eq1) rfl (rm_ok (by omega) (by decide)) ⟨Nat.le_refl _, Nat.le_refl _⟩ (Nat.le_of_ble_eq_true rfl) rfl (c_X7_faults eq1) ?_
  have hq := Option.some.inj hf
  subst hq
  exact aw_iret hr dX7_text_81 ⟨rfl, rfl, rfl⟩
def f_X7_text_74 (l0 : Nat) (l1 : Int32) (s0 : Int32) (s1 : Int32) (h0 : Hp) : Option (Int32 × Hp) :=
  if s1 = s0 then (if l1 = 0 then ((f_X7_comesTeam l0 h0).bind fun q6 => some (q6.1, q6.2)) else (if l1 = (1 : Int32) then ((f_X7_starts l0 h0).bind fun q5 => some (q5.1, q5.2)) else ((f_X7_games l0 l1 h0).bind fun q4 => some (q4.1, q4.2)))) else (f_X7_text_77 l0 h0)
set_option maxRecDepth 100000 in
set_option maxHeartbeats 4000000 in
theorem c_X7_text_74 {X : Cx} {adr : Nat → Nat} {q : Int32 × Hp} (hr : (mth X).sig.returnType = (some .int)) {l0 : Nat} {l1 : Int32} {s0 : Int32} {s1 : Int32} {h0 : Hp} (hf : f_X7_text_74 l0 l1 s0 s1 h0 = some q) : AW X cX7_text 2 RX7 (rmd 6 0 0) (Qmet X 0 0 (Qe (some (.int q.1)) q.2 adr)) 0 0 adr h0 74 [(0, .ref l0), (1, .int l1)] [.int s0, .int s1] := by
  unfold f_X7_text_74 at hf
  refine aw_icmp_eq (tgt := 82) dX7_text_74 (by decide) (fun c1 => ?_) (fun c1 => ?_)
  · have hf := i_pos c1 hf
    refine aw_iload_n 1 dX7_text_82 rfl rfl ?_
    refine aw_if_ne (tgt := 93) dX7_text_83 (by decide) (fun c2 => ?_) (fun c2 => ?_)
    · have hf := i_neg c2 hf
      refine aw_iload_n 1 dX7_text_93 rfl rfl ?_
      refine aw_iconst (v := 1) dX7_text_94 (by decide) ?_
      refine aw_icmp_ne (tgt := 105) dX7_text_95 (by decide) (fun c3 => ?_) (fun c3 => ?_)
      · have hf := i_neg c3 hf
        refine aw_aload_n 0 dX7_text_105 rfl rfl ?_
        refine aw_iload_n 1 dX7_text_106 rfl rfl ?_
        obtain ⟨q4, eq4, hf⟩ := b_some hf
        refine aw_cV (as := [.int l1]) dX7_text_107 moX7_games voX7_games mlX7_183 (k_X7_games eq4) rfl (rm_ok (by omega) (by decide)) ⟨Nat.le_refl _, Nat.le_refl _⟩ (Nat.le_of_ble_eq_true rfl) rfl (c_X7_games eq4) ?_
        have hq := Option.some.inj hf
        subst hq
        exact aw_iret hr dX7_text_110 ⟨rfl, rfl, rfl⟩
      · have hf := i_pos c3 hf
        refine aw_aload_n 0 dX7_text_98 rfl rfl ?_
        obtain ⟨q5, eq5, hf⟩ := b_some hf
        refine aw_cV (as := []) dX7_text_99 moX7_starts voX7_starts mlX7_180 (k_X7_starts eq5) rfl (rm_ok (by omega) (by decide)) ⟨Nat.le_refl _, Nat.le_refl _⟩ (Nat.le_of_ble_eq_true rfl) rfl (c_X7_starts eq5) ?_
        refine aw_goto (tgt := 110) dX7_text_102 (by decide) ?_
        have hq := Option.some.inj hf
        subst hq
        exact aw_iret hr dX7_text_110 ⟨rfl, rfl, rfl⟩
    · have hf := i_pos c2 hf
      refine aw_aload_n 0 dX7_text_86 rfl rfl ?_
      obtain ⟨q6, eq6, hf⟩ := b_some hf
      refine aw_cV (as := []) dX7_text_87 moX7_comesTeam voX7_comesTeam mlX7_177 (k_X7_comesTeam eq6) rfl (rm_ok (by omega) (by decide)) ⟨Nat.le_refl _, Nat.le_refl _⟩ (Nat.le_of_ble_eq_true rfl) rfl (c_X7_comesTeam eq6) ?_
      refine aw_goto (tgt := 110) dX7_text_90 (by decide) ?_
      have hq := Option.some.inj hf
      subst hq
      exact aw_iret hr dX7_text_110 ⟨rfl, rfl, rfl⟩
  · have hf := i_neg c1 hf
    exact aw_sub [0] rfl (c_X7_text_77 hr hf)
def f_X7_text_65 (l0 : Nat) (l1 : Int32) (s0 : Int32) (h0 : Hp) : Option (Int32 × Hp) :=
  if l1 = 0 then (f_X7_text_74 l0 l1 (1 : Int32) s0 h0) else (f_X7_text_74 l0 l1 (0 : Int32) s0 h0)
set_option maxRecDepth 100000 in
set_option maxHeartbeats 4000000 in
theorem c_X7_text_65 {X : Cx} {adr : Nat → Nat} {q : Int32 × Hp} (hr : (mth X).sig.returnType = (some .int)) {l0 : Nat} {l1 : Int32} {s0 : Int32} {h0 : Hp} (hf : f_X7_text_65 l0 l1 s0 h0 = some q) : AW X cX7_text 2 RX7 (rmd 6 0 0) (Qmet X 0 0 (Qe (some (.int q.1)) q.2 adr)) 0 0 adr h0 65 [(0, .ref l0), (1, .int l1)] [.int s0] := by
  unfold f_X7_text_65 at hf
  refine aw_iload_n 1 dX7_text_65 rfl rfl ?_
  refine aw_if_ne (tgt := 73) dX7_text_66 (by decide) (fun c1 => ?_) (fun c1 => ?_)
  · have hf := i_neg c1 hf
    refine aw_iconst (v := 0) dX7_text_73 (by decide) ?_
    exact aw_sub [0, 1] rfl (c_X7_text_74 hr hf)
  · have hf := i_pos c1 hf
    refine aw_iconst (v := 1) dX7_text_69 (by decide) ?_
    refine aw_goto (tgt := 74) dX7_text_70 (by decide) ?_
    exact aw_sub [0, 1] rfl (c_X7_text_74 hr hf)
def f_X7_text_24 (l0 : Nat) (s0 : Int32) (h0 : Hp) : Option (Int32 × Hp) :=
  if 0 ≤ s0 then ((f_X7_next l0 h0).bind fun q2 => (f_X7_isName l0 q2.2).bind fun q3 => if q3.1 = 0 then (f_X7_text_77 l0 q3.2) else ((gI q3.2 l0 7 13).bind fun x5 => (gI q3.2 l0 7 14).bind fun x6 => (f_X7_whose l0 x5 x6 q3.2).bind fun q7 => if 0 ≤ q7.1 then (f_X7_text_65 l0 s0 (0 : Int32) q7.2) else (f_X7_text_65 l0 s0 (1 : Int32) q7.2))) else ((f_X7_faults l0 h0).bind fun q9 => some (q9.1, q9.2))
set_option maxRecDepth 100000 in
set_option maxHeartbeats 4000000 in
theorem c_X7_text_24 {X : Cx} {adr : Nat → Nat} {q : Int32 × Hp} (hr : (mth X).sig.returnType = (some .int)) {l0 : Nat} {s0 : Int32} {h0 : Hp} (hf : f_X7_text_24 l0 s0 h0 = some q) : AW X cX7_text 2 RX7 (rmd 6 0 0) (Qmet X 0 0 (Qe (some (.int q.1)) q.2 adr)) 0 0 adr h0 24 [(0, .ref l0)] [.int s0] := by
  unfold f_X7_text_24 at hf
  refine aw_istore_n (L' := [(1, .int s0), (0, .ref l0)]) dX7_text_24 rfl (by decide) rfl ?_
  refine aw_iload_n 0 dX7_text_25 rfl rfl ?_
  refine aw_if_ge (tgt := 34) dX7_text_26 (by decide) (fun c1 => ?_) (fun c1 => ?_)
  · have hf := i_pos c1 hf
    refine aw_aload_n 1 dX7_text_34 rfl rfl ?_
    obtain ⟨q2, eq2, hf⟩ := b_some hf
    refine aw_cV0 (as := []) dX7_text_35 moX7_next voX7_next mlX7_164 (k_X7_next eq2) rfl (rm_ok (by omega) (by decide)) ⟨Nat.le_refl _, Nat.le_refl _⟩ (Nat.le_of_ble_eq_true rfl) rfl (c_X7_next eq2) ?_
    refine aw_aload_n 1 dX7_text_38 rfl rfl ?_
    obtain ⟨q3, eq3, hf⟩ := b_some hf
    refine aw_cV (as := []) dX7_text_39 moX7_isName voX7_isName mlX7_170 (k_X7_isName eq3) rfl (rm_ok (by omega) (by decide)) ⟨Nat.le_refl _, Nat.le_refl _⟩ (Nat.le_of_ble_eq_true rfl) rfl (c_X7_isName eq3) ?_
    refine aw_if_eq (tgt := 77) dX7_text_42 (by decide) (fun c4 => ?_) (fun c4 => ?_)
    · have hf := i_pos c4 hf
      exact aw_sub [1] rfl (c_X7_text_77 hr hf)
    · have hf := i_neg c4 hf
      refine aw_aload_n 1 dX7_text_45 rfl rfl ?_
      refine aw_aload_n 1 dX7_text_46 rfl rfl ?_
      obtain ⟨x5, ex5, hf⟩ := b_some hf
      refine aw_getI dX7_text_47 gfX7_146 ex5 ?_
      refine aw_aload_n 1 dX7_text_50 rfl rfl ?_
      obtain ⟨x6, ex6, hf⟩ := b_some hf
      refine aw_getI dX7_text_51 gfX7_149 ex6 ?_
      obtain ⟨q7, eq7, hf⟩ := b_some hf
      refine aw_cV (as := [.int x5, .int x6]) dX7_text_54 moX7_whose voX7_whose mlX7_173 (k_X7_whose eq7) rfl (rm_ok (by omega) (by decide)) ⟨Nat.le_refl _, Nat.le_refl _⟩ (Nat.le_of_ble_eq_true rfl) rfl (c_X7_whose eq7) ?_
      refine aw_if_ge (tgt := 64) dX7_text_57 (by decide) (fun c8 => ?_) (fun c8 => ?_)
      · have hf := i_pos c8 hf
        refine aw_iconst (v := 0) dX7_text_64 (by decide) ?_
        exact aw_sub [1, 0] rfl (c_X7_text_65 hr hf)
      · have hf := i_neg c8 hf
        refine aw_iconst (v := 1) dX7_text_60 (by decide) ?_
        refine aw_goto (tgt := 65) dX7_text_61 (by decide) ?_
        exact aw_sub [1, 0] rfl (c_X7_text_65 hr hf)
  · have hf := i_neg c1 hf
    refine aw_aload_n 1 dX7_text_29 rfl rfl ?_
    obtain ⟨q9, eq9, hf⟩ := b_some hf
    refine aw_cV (as := []) dX7_text_30 moX7_faults voX7_faults mlX7_167 (k_X7_faults eq9) rfl (rm_ok (by omega) (by decide)) ⟨Nat.le_refl _, Nat.le_refl _⟩ (Nat.le_of_ble_eq_true rfl) rfl (c_X7_faults eq9) ?_
    have hq := Option.some.inj hf
    subst hq
    exact aw_iret hr dX7_text_33 ⟨rfl, rfl, rfl⟩
def f_X7_text (l0 : Nat) (h0 : Hp) : Option (Int32 × Hp) :=
  (ck h0 l0 7).bind fun _ => (pI h0 l0 7 12 (0 : Int32)).bind fun h1 => (f_X7_next l0 h1).bind fun q2 => (f_X7_isWord l0 q2.2).bind fun q3 => if q3.1 = 0 then (f_X7_text_24 l0 (-1 : Int32) q3.2) else ((f_X7_key l0 q3.2).bind fun q5 => f_X7_text_24 l0 q5.1 q5.2)
set_option maxRecDepth 100000 in
set_option maxHeartbeats 4000000 in
theorem c_X7_text {l0 : Nat} {h0 : Hp} {q : Int32 × Hp} (hf : f_X7_text l0 h0 = some q) : Mt 6 yX7_text cX7_text 2 (some .int) [.ref l0] h0 (some (.int q.1)) q.2 := by
  refine MtQ.of (by decide) (Nat.le_of_ble_eq_true rfl) (fun X adr hr hn => ?_)
  unfold f_X7_text at hf
  show AW X cX7_text 2 RX7 (rmd 6 0 0) (Qmet X 0 0 (Qe (some (.int q.1)) q.2 adr)) 0 0 adr h0 0 [(0, .ref l0)] []
  obtain ⟨u0, e0, hf⟩ := b_some hf
  refine aw_aload_n 0 dX7_text_0 rfl rfl ?_
  refine aw_iconst (v := 0) dX7_text_1 (by decide) ?_
  obtain ⟨h1, eh1, hf⟩ := b_some hf
  refine aw_putI dX7_text_2 pfX7_140 eh1 ?_
  refine aw_aload_n 0 dX7_text_5 rfl rfl ?_
  obtain ⟨q2, eq2, hf⟩ := b_some hf
  refine aw_cV0 (as := []) dX7_text_6 moX7_next voX7_next mlX7_164 (k_X7_next eq2) rfl (rm_ok (by omega) (by decide)) ⟨Nat.le_refl _, Nat.le_refl _⟩ (Nat.le_of_ble_eq_true rfl) rfl (c_X7_next eq2) ?_
  refine aw_aload_n 0 dX7_text_9 rfl rfl ?_
  obtain ⟨q3, eq3, hf⟩ := b_some hf
  refine aw_cV (as := []) dX7_text_10 moX7_isWord voX7_isWord mlX7_158 (k_X7_isWord eq3) rfl (rm_ok (by omega) (by decide)) ⟨Nat.le_refl _, Nat.le_refl _⟩ (Nat.le_of_ble_eq_true rfl) rfl (c_X7_isWord eq3) ?_
  refine aw_if_eq (tgt := 23) dX7_text_13 (by decide) (fun c4 => ?_) (fun c4 => ?_)
  · have hf := i_pos c4 hf
    refine aw_iconst (v := -1) dX7_text_23 (by decide) ?_
    exact aw_sub [0] rfl (c_X7_text_24 hr hf)
  · have hf := i_neg c4 hf
    refine aw_aload_n 0 dX7_text_16 rfl rfl ?_
    obtain ⟨q5, eq5, hf⟩ := b_some hf
    refine aw_cV (as := []) dX7_text_17 moX7_key voX7_key mlX7_161 (k_X7_key eq5) rfl (rm_ok (by omega) (by decide)) ⟨Nat.le_refl _, Nat.le_refl _⟩ (Nat.le_of_ble_eq_true rfl) rfl (c_X7_key eq5) ?_
    refine aw_goto (tgt := 24) dX7_text_20 (by decide) ?_
    exact aw_sub [0] rfl (c_X7_text_24 hr hf)
theorem k_X7_text {l0 : Nat} {h0 : Hp} {q : Int32 × Hp} (hf : f_X7_text l0 h0 = some q) : ck h0 l0 7 = some () := by
  unfold f_X7_text at hf
  obtain ⟨u0, e0, hf⟩ := b_some hf
  exact e0
theorem dX7_told_0 : decode cX7_told 0 = .ok (.aload_n 0, 1) := by decide +kernel
theorem dX7_told_1 : decode cX7_told 1 = .ok (.iload_n 1, 1) := by decide +kernel
theorem dX7_told_2 : decode cX7_told 2 = .ok (.invokevirtual 205, 3) := by decide +kernel
theorem dX7_told_5 : decode cX7_told 5 = .ok (.ifCond .ne 6, 3) := by decide +kernel
theorem dX7_told_8 : decode cX7_told 8 = .ok (.bipush (-2), 2) := by decide +kernel
theorem dX7_told_10 : decode cX7_told 10 = .ok (.ireturn, 1) := by decide +kernel
theorem dX7_told_11 : decode cX7_told 11 = .ok (.aload_n 0, 1) := by decide +kernel
theorem dX7_told_12 : decode cX7_told 12 = .ok (.invokevirtual 61, 3) := by decide +kernel
theorem dX7_told_15 : decode cX7_told 15 = .ok (.iload_n 2, 1) := by decide +kernel
theorem dX7_told_16 : decode cX7_told 16 = .ok (.tableswitch 74 0 4 #[36, 45, 52, 58, 64], 36) := by decide +kernel
theorem dX7_told_52 : decode cX7_told 52 = .ok (.aload_n 0, 1) := by decide +kernel
theorem dX7_told_53 : decode cX7_told 53 = .ok (.getfield 9, 3) := by decide +kernel
theorem dX7_told_56 : decode cX7_told 56 = .ok (.iconst 3, 1) := by decide +kernel
theorem dX7_told_57 : decode cX7_told 57 = .ok (.iload_n 1, 1) := by decide +kernel
theorem dX7_told_58 : decode cX7_told 58 = .ok (.iadd, 1) := by decide +kernel
theorem dX7_told_59 : decode cX7_told 59 = .ok (.iaload, 1) := by decide +kernel
theorem dX7_told_60 : decode cX7_told 60 = .ok (.ireturn, 1) := by decide +kernel
theorem dX7_told_61 : decode cX7_told 61 = .ok (.aload_n 0, 1) := by decide +kernel
theorem dX7_told_62 : decode cX7_told 62 = .ok (.getfield 19, 3) := by decide +kernel
theorem dX7_told_65 : decode cX7_told 65 = .ok (.iload_n 1, 1) := by decide +kernel
theorem dX7_told_66 : decode cX7_told 66 = .ok (.iaload, 1) := by decide +kernel
theorem dX7_told_67 : decode cX7_told 67 = .ok (.ireturn, 1) := by decide +kernel
theorem dX7_told_68 : decode cX7_told 68 = .ok (.aload_n 0, 1) := by decide +kernel
theorem dX7_told_69 : decode cX7_told 69 = .ok (.iload_n 1, 1) := by decide +kernel
theorem dX7_told_70 : decode cX7_told 70 = .ok (.invokevirtual 108, 3) := by decide +kernel
theorem dX7_told_73 : decode cX7_told 73 = .ok (.ireturn, 1) := by decide +kernel
theorem dX7_told_74 : decode cX7_told 74 = .ok (.aload_n 0, 1) := by decide +kernel
theorem dX7_told_75 : decode cX7_told 75 = .ok (.iload_n 1, 1) := by decide +kernel
theorem dX7_told_76 : decode cX7_told 76 = .ok (.invokevirtual 68, 3) := by decide +kernel
theorem dX7_told_79 : decode cX7_told 79 = .ok (.ireturn, 1) := by decide +kernel
theorem dX7_told_80 : decode cX7_told 80 = .ok (.aload_n 0, 1) := by decide +kernel
theorem dX7_told_81 : decode cX7_told 81 = .ok (.getfield 9, 3) := by decide +kernel
theorem dX7_told_84 : decode cX7_told 84 = .ok (.bipush 9, 2) := by decide +kernel
theorem dX7_told_86 : decode cX7_told 86 = .ok (.iload_n 1, 1) := by decide +kernel
theorem dX7_told_87 : decode cX7_told 87 = .ok (.iadd, 1) := by decide +kernel
theorem dX7_told_88 : decode cX7_told 88 = .ok (.iaload, 1) := by decide +kernel
theorem dX7_told_89 : decode cX7_told 89 = .ok (.ireturn, 1) := by decide +kernel
theorem dX7_told_90 : decode cX7_told 90 = .ok (.iload_n 2, 1) := by decide +kernel
theorem dX7_told_91 : decode cX7_told 91 = .ok (.i2l, 1) := by decide +kernel
theorem dX7_told_92 : decode cX7_told 92 = .ok (.ldc2_w 208, 3) := by decide +kernel
theorem dX7_told_95 : decode cX7_told 95 = .ok (.ldc2_w 210, 3) := by decide +kernel
theorem dX7_told_98 : decode cX7_told 98 = .ok (.invokestatic 43, 3) := by decide +kernel
theorem dX7_told_101 : decode cX7_told 101 = .ok (.ifCond .ne 8, 3) := by decide +kernel
theorem dX7_told_104 : decode cX7_told 104 = .ok (.bipush (-2), 2) := by decide +kernel
theorem dX7_told_106 : decode cX7_told 106 = .ok (.goto 40, 3) := by decide +kernel
theorem dX7_told_109 : decode cX7_told 109 = .ok (.iload_n 2, 1) := by decide +kernel
theorem dX7_told_110 : decode cX7_told 110 = .ok (.bipush 10, 2) := by decide +kernel
theorem dX7_told_112 : decode cX7_told 112 = .ok (.isub, 1) := by decide +kernel
theorem dX7_told_113 : decode cX7_told 113 = .ok (.aload_n 0, 1) := by decide +kernel
theorem dX7_told_114 : decode cX7_told 114 = .ok (.getfield 9, 3) := by decide +kernel
theorem dX7_told_117 : decode cX7_told 117 = .ok (.bipush 9, 2) := by decide +kernel
theorem dX7_told_119 : decode cX7_told 119 = .ok (.iload_n 1, 1) := by decide +kernel
theorem dX7_told_120 : decode cX7_told 120 = .ok (.iadd, 1) := by decide +kernel
theorem dX7_told_121 : decode cX7_told 121 = .ok (.iaload, 1) := by decide +kernel
theorem dX7_told_122 : decode cX7_told 122 = .ok (.if_icmp .ge 23, 3) := by decide +kernel
theorem dX7_told_125 : decode cX7_told 125 = .ok (.aload_n 0, 1) := by decide +kernel
theorem dX7_told_126 : decode cX7_told 126 = .ok (.getfield 9, 3) := by decide +kernel
theorem dX7_told_129 : decode cX7_told 129 = .ok (.bipush 15, 2) := by decide +kernel
theorem dX7_told_131 : decode cX7_told 131 = .ok (.bipush 6, 2) := by decide +kernel
theorem dX7_told_133 : decode cX7_told 133 = .ok (.iload_n 1, 1) := by decide +kernel
theorem dX7_told_134 : decode cX7_told 134 = .ok (.imul, 1) := by decide +kernel
theorem dX7_told_135 : decode cX7_told 135 = .ok (.iadd, 1) := by decide +kernel
theorem dX7_told_136 : decode cX7_told 136 = .ok (.iload_n 2, 1) := by decide +kernel
theorem dX7_told_137 : decode cX7_told 137 = .ok (.iadd, 1) := by decide +kernel
theorem dX7_told_138 : decode cX7_told 138 = .ok (.bipush 10, 2) := by decide +kernel
theorem dX7_told_140 : decode cX7_told 140 = .ok (.isub, 1) := by decide +kernel
theorem dX7_told_141 : decode cX7_told 141 = .ok (.iaload, 1) := by decide +kernel
theorem dX7_told_142 : decode cX7_told 142 = .ok (.goto 4, 3) := by decide +kernel
theorem dX7_told_145 : decode cX7_told 145 = .ok (.iconst (-1), 1) := by decide +kernel
theorem dX7_told_146 : decode cX7_told 146 = .ok (.ireturn, 1) := by decide +kernel
def f_X7_told (l0 : Nat) (l1 : Int32) (l2 : Int32) (h0 : Hp) : Option (Int32 × Hp) :=
  (ck h0 l0 7).bind fun _ => (f_X7_isTeam l0 l1 h0).bind fun q1 => if q1.1 = 0 then (some ((-2 : Int32), q1.2)) else ((f_X7_looks l0 q1.2).bind fun q3 => if l2 = 0 then ((gR q3.2 l0 7 0).bind fun r5 => (aL q3.2 r5 ((3 : Int32) + l1)).bind fun x6 => some (x6, q3.2)) else if l2 = 1 then ((gR q3.2 l0 7 4).bind fun r8 => (aL q3.2 r8 l1).bind fun x9 => some (x9, q3.2)) else if l2 = 2 then ((f_X7_reach l0 l1 q3.2).bind fun q11 => some (q11.1, q11.2)) else if l2 = 3 then ((f_X7_ownLeft l0 l1 q3.2).bind fun q13 => some (q13.1, q13.2)) else if l2 = 4 then ((gR q3.2 l0 7 0).bind fun r15 => (aL q3.2 r15 ((9 : Int32) + l1)).bind fun x16 => some (x16, q3.2)) else ((f_X7_in (Int32.toInt64 l2) (10 : Int64) (15 : Int64) q3.2).bind fun q17 => if q17.1 = 0 then (some ((-2 : Int32), q17.2)) else ((gR q17.2 l0 7 0).bind fun r19 => (aL q17.2 r19 ((9 : Int32) + l1)).bind fun x20 => if x20 ≤ (l2 - (10 : Int32)) then (some ((-1 : Int32), q17.2)) else ((gR q17.2 l0 7 0).bind fun r22 => (aL q17.2 r22 ((((15 : Int32) + ((6 : Int32) * l1)) + l2) - (10 : Int32))).bind fun x23 => some (x23, q17.2)))))
set_option maxRecDepth 100000 in
set_option maxHeartbeats 4000000 in
theorem c_X7_told {l0 : Nat} {l1 : Int32} {l2 : Int32} {h0 : Hp} {q : Int32 × Hp} (hf : f_X7_told l0 l1 l2 h0 = some q) : Mt 5 yX7_told cX7_told 3 (some .int) [.ref l0, .int l1, .int l2] h0 (some (.int q.1)) q.2 := by
  refine MtQ.of (by decide) (Nat.le_of_ble_eq_true rfl) (fun X adr hr hn => ?_)
  unfold f_X7_told at hf
  show AW X cX7_told 3 RX7 (rmd 5 0 0) (Qmet X 0 0 (Qe (some (.int q.1)) q.2 adr)) 0 0 adr h0 0 [(0, .ref l0), (1, .int l1), (2, .int l2)] []
  obtain ⟨u0, e0, hf⟩ := b_some hf
  refine aw_aload_n 0 dX7_told_0 rfl rfl ?_
  refine aw_iload_n 1 dX7_told_1 rfl rfl ?_
  obtain ⟨q1, eq1, hf⟩ := b_some hf
  refine aw_cV (as := [.int l1]) dX7_told_2 moX7_isTeam voX7_isTeam mlX7_205 (k_X7_isTeam eq1) rfl (rm_ok (by omega) (by decide)) ⟨Nat.le_refl _, Nat.le_refl _⟩ (Nat.le_of_ble_eq_true rfl) rfl (c_X7_isTeam eq1) ?_
  refine aw_if_ne (tgt := 11) dX7_told_5 (by decide) (fun c2 => ?_) (fun c2 => ?_)
  · have hf := i_neg c2 hf
    refine aw_aload_n 0 dX7_told_11 rfl rfl ?_
    obtain ⟨q3, eq3, hf⟩ := b_some hf
    refine aw_cV0 (as := []) dX7_told_12 moX7_looks voX7_looks mlX7_61 (k_X7_looks eq3) rfl (rm_ok (by omega) (by decide)) ⟨Nat.le_refl _, Nat.le_refl _⟩ (Nat.le_of_ble_eq_true rfl) rfl (c_X7_looks eq3) ?_
    refine aw_iload_n 2 dX7_told_15 rfl rfl ?_
    by_cases c4 : l2 = 0
    · have hf := i_pos c4 hf
      refine aw_tabIn (tgt := 52) dX7_told_16 (by rw [c4]; decide) (by rw [c4]; decide) (by rw [c4]; rfl) (by decide) ?_
      refine aw_aload_n 0 dX7_told_52 rfl rfl ?_
      obtain ⟨r5, er5, hf⟩ := b_some hf
      refine aw_getR dX7_told_53 gfX7_9 er5 ?_
      refine aw_iconst (v := 3) dX7_told_56 (by decide) ?_
      refine aw_iload_n 1 dX7_told_57 rfl rfl ?_
      refine aw_iadd dX7_told_58 ?_
      obtain ⟨x6, ex6, hf⟩ := b_some hf
      refine aw_iald dX7_told_59 ex6 ?_
      have hq := Option.some.inj hf
      subst hq
      exact aw_iret hr dX7_told_60 ⟨rfl, rfl, rfl⟩
    have hf := i_neg c4 hf
    by_cases c7 : l2 = 1
    · have hf := i_pos c7 hf
      refine aw_tabIn (tgt := 61) dX7_told_16 (by rw [c7]; decide) (by rw [c7]; decide) (by rw [c7]; rfl) (by decide) ?_
      refine aw_aload_n 0 dX7_told_61 rfl rfl ?_
      obtain ⟨r8, er8, hf⟩ := b_some hf
      refine aw_getR dX7_told_62 gfX7_19 er8 ?_
      refine aw_iload_n 1 dX7_told_65 rfl rfl ?_
      obtain ⟨x9, ex9, hf⟩ := b_some hf
      refine aw_iald dX7_told_66 ex9 ?_
      have hq := Option.some.inj hf
      subst hq
      exact aw_iret hr dX7_told_67 ⟨rfl, rfl, rfl⟩
    have hf := i_neg c7 hf
    by_cases c10 : l2 = 2
    · have hf := i_pos c10 hf
      refine aw_tabIn (tgt := 68) dX7_told_16 (by rw [c10]; decide) (by rw [c10]; decide) (by rw [c10]; rfl) (by decide) ?_
      refine aw_aload_n 0 dX7_told_68 rfl rfl ?_
      refine aw_iload_n 1 dX7_told_69 rfl rfl ?_
      obtain ⟨q11, eq11, hf⟩ := b_some hf
      refine aw_cV (as := [.int l1]) dX7_told_70 moX7_reach voX7_reach mlX7_108 (k_X7_reach eq11) rfl (rm_ok (by omega) (by decide)) ⟨Nat.le_refl _, Nat.le_refl _⟩ (Nat.le_of_ble_eq_true rfl) rfl (c_X7_reach eq11) ?_
      have hq := Option.some.inj hf
      subst hq
      exact aw_iret hr dX7_told_73 ⟨rfl, rfl, rfl⟩
    have hf := i_neg c10 hf
    by_cases c12 : l2 = 3
    · have hf := i_pos c12 hf
      refine aw_tabIn (tgt := 74) dX7_told_16 (by rw [c12]; decide) (by rw [c12]; decide) (by rw [c12]; rfl) (by decide) ?_
      refine aw_aload_n 0 dX7_told_74 rfl rfl ?_
      refine aw_iload_n 1 dX7_told_75 rfl rfl ?_
      obtain ⟨q13, eq13, hf⟩ := b_some hf
      refine aw_cV (as := [.int l1]) dX7_told_76 moX7_ownLeft voX7_ownLeft mlX7_68 (k_X7_ownLeft eq13) rfl (rm_ok (by omega) (by decide)) ⟨Nat.le_refl _, Nat.le_refl _⟩ (Nat.le_of_ble_eq_true rfl) rfl (c_X7_ownLeft eq13) ?_
      have hq := Option.some.inj hf
      subst hq
      exact aw_iret hr dX7_told_79 ⟨rfl, rfl, rfl⟩
    have hf := i_neg c12 hf
    by_cases c14 : l2 = 4
    · have hf := i_pos c14 hf
      refine aw_tabIn (tgt := 80) dX7_told_16 (by rw [c14]; decide) (by rw [c14]; decide) (by rw [c14]; rfl) (by decide) ?_
      refine aw_aload_n 0 dX7_told_80 rfl rfl ?_
      obtain ⟨r15, er15, hf⟩ := b_some hf
      refine aw_getR dX7_told_81 gfX7_9 er15 ?_
      refine aw_bipush (v := 9) dX7_told_84 (by decide) ?_
      refine aw_iload_n 1 dX7_told_86 rfl rfl ?_
      refine aw_iadd dX7_told_87 ?_
      obtain ⟨x16, ex16, hf⟩ := b_some hf
      refine aw_iald dX7_told_88 ex16 ?_
      have hq := Option.some.inj hf
      subst hq
      exact aw_iret hr dX7_told_89 ⟨rfl, rfl, rfl⟩
    have hf := i_neg c14 hf
    refine aw_tabOut (tgt := 90) dX7_told_16 (tab_out (N := 5) (by decide) (by decide) (fun j hj => ?_)) (by decide) ?_
    · match j, hj with
      | 0, _ => exact c4
      | 1, _ => exact c7
      | 2, _ => exact c10
      | 3, _ => exact c12
      | 4, _ => exact c14
    refine aw_iload_n 2 dX7_told_90 rfl rfl ?_
    refine aw_i2l dX7_told_91 ?_
    refine aw_ldc2 dX7_told_92 klX7_208 ?_
    refine aw_ldc2 dX7_told_95 klX7_210 ?_
    obtain ⟨q17, eq17, hf⟩ := b_some hf
    refine aw_cS (as := [.long (Int32.toInt64 l2), .long (10 : Int64), .long (15 : Int64)]) dX7_told_98 moX7_in soX7_in mlX7_43 (rm_ok (by omega) (by decide)) ⟨Nat.le_refl _, Nat.le_refl _⟩ (Nat.le_of_ble_eq_true rfl) rfl (c_X7_in eq17) ?_
    refine aw_if_ne (tgt := 109) dX7_told_101 (by decide) (fun c18 => ?_) (fun c18 => ?_)
    · have hf := i_neg c18 hf
      refine aw_iload_n 2 dX7_told_109 rfl rfl ?_
      refine aw_bipush (v := 10) dX7_told_110 (by decide) ?_
      refine aw_isub dX7_told_112 ?_
      refine aw_aload_n 0 dX7_told_113 rfl rfl ?_
      obtain ⟨r19, er19, hf⟩ := b_some hf
      refine aw_getR dX7_told_114 gfX7_9 er19 ?_
      refine aw_bipush (v := 9) dX7_told_117 (by decide) ?_
      refine aw_iload_n 1 dX7_told_119 rfl rfl ?_
      refine aw_iadd dX7_told_120 ?_
      obtain ⟨x20, ex20, hf⟩ := b_some hf
      refine aw_iald dX7_told_121 ex20 ?_
      refine aw_icmp_ge (tgt := 145) dX7_told_122 (by decide) (fun c21 => ?_) (fun c21 => ?_)
      · have hf := i_pos c21 hf
        refine aw_iconst (v := -1) dX7_told_145 (by decide) ?_
        have hq := Option.some.inj hf
        subst hq
        exact aw_iret hr dX7_told_146 ⟨rfl, rfl, rfl⟩
      · have hf := i_neg c21 hf
        refine aw_aload_n 0 dX7_told_125 rfl rfl ?_
        obtain ⟨r22, er22, hf⟩ := b_some hf
        refine aw_getR dX7_told_126 gfX7_9 er22 ?_
        refine aw_bipush (v := 15) dX7_told_129 (by decide) ?_
        refine aw_bipush (v := 6) dX7_told_131 (by decide) ?_
        refine aw_iload_n 1 dX7_told_133 rfl rfl ?_
        refine aw_imul dX7_told_134 ?_
        refine aw_iadd dX7_told_135 ?_
        refine aw_iload_n 2 dX7_told_136 rfl rfl ?_
        refine aw_iadd dX7_told_137 ?_
        refine aw_bipush (v := 10) dX7_told_138 (by decide) ?_
        refine aw_isub dX7_told_140 ?_
        obtain ⟨x23, ex23, hf⟩ := b_some hf
        refine aw_iald dX7_told_141 ex23 ?_
        refine aw_goto (tgt := 146) dX7_told_142 (by decide) ?_
        have hq := Option.some.inj hf
        subst hq
        exact aw_iret hr dX7_told_146 ⟨rfl, rfl, rfl⟩
    · have hf := i_pos c18 hf
      refine aw_bipush (v := -2) dX7_told_104 (by decide) ?_
      refine aw_goto (tgt := 146) dX7_told_106 (by decide) ?_
      have hq := Option.some.inj hf
      subst hq
      exact aw_iret hr dX7_told_146 ⟨rfl, rfl, rfl⟩
  · have hf := i_pos c2 hf
    refine aw_bipush (v := -2) dX7_told_8 (by decide) ?_
    have hq := Option.some.inj hf
    subst hq
    exact aw_iret hr dX7_told_10 ⟨rfl, rfl, rfl⟩
theorem k_X7_told {l0 : Nat} {l1 : Int32} {l2 : Int32} {h0 : Hp} {q : Int32 × Hp} (hf : f_X7_told l0 l1 l2 h0 = some q) : ck h0 l0 7 = some () := by
  unfold f_X7_told at hf
  obtain ⟨u0, e0, hf⟩ := b_some hf
  exact e0
theorem dX7_unplay_0 : decode cX7_unplay 0 = .ok (.aload_n 0, 1) := by decide +kernel
theorem dX7_unplay_1 : decode cX7_unplay 1 = .ok (.iload_n 1, 1) := by decide +kernel
theorem dX7_unplay_2 : decode cX7_unplay 2 = .ok (.invokevirtual 202, 3) := by decide +kernel
theorem dX7_unplay_5 : decode cX7_unplay 5 = .ok (.ifCond .ne 6, 3) := by decide +kernel
theorem dX7_unplay_8 : decode cX7_unplay 8 = .ok (.bipush (-2), 2) := by decide +kernel
theorem dX7_unplay_10 : decode cX7_unplay 10 = .ok (.ireturn, 1) := by decide +kernel
theorem dX7_unplay_11 : decode cX7_unplay 11 = .ok (.aload_n 0, 1) := by decide +kernel
theorem dX7_unplay_12 : decode cX7_unplay 12 = .ok (.getfield 9, 3) := by decide +kernel
theorem dX7_unplay_15 : decode cX7_unplay 15 = .ok (.bipush 78, 2) := by decide +kernel
theorem dX7_unplay_17 : decode cX7_unplay 17 = .ok (.iload_n 1, 1) := by decide +kernel
theorem dX7_unplay_18 : decode cX7_unplay 18 = .ok (.iadd, 1) := by decide +kernel
theorem dX7_unplay_19 : decode cX7_unplay 19 = .ok (.iaload, 1) := by decide +kernel
theorem dX7_unplay_20 : decode cX7_unplay 20 = .ok (.istore_n 2, 1) := by decide +kernel
theorem dX7_unplay_21 : decode cX7_unplay 21 = .ok (.iload_n 2, 1) := by decide +kernel
theorem dX7_unplay_22 : decode cX7_unplay 22 = .ok (.iconst (-1), 1) := by decide +kernel
theorem dX7_unplay_23 : decode cX7_unplay 23 = .ok (.if_icmp .ne 6, 3) := by decide +kernel
theorem dX7_unplay_26 : decode cX7_unplay 26 = .ok (.bipush (-3), 2) := by decide +kernel
theorem dX7_unplay_28 : decode cX7_unplay 28 = .ok (.ireturn, 1) := by decide +kernel
theorem dX7_unplay_29 : decode cX7_unplay 29 = .ok (.aload_n 0, 1) := by decide +kernel
theorem dX7_unplay_30 : decode cX7_unplay 30 = .ok (.getfield 9, 3) := by decide +kernel
theorem dX7_unplay_33 : decode cX7_unplay 33 = .ok (.bipush 78, 2) := by decide +kernel
theorem dX7_unplay_35 : decode cX7_unplay 35 = .ok (.iload_n 1, 1) := by decide +kernel
theorem dX7_unplay_36 : decode cX7_unplay 36 = .ok (.iadd, 1) := by decide +kernel
theorem dX7_unplay_37 : decode cX7_unplay 37 = .ok (.iconst (-1), 1) := by decide +kernel
theorem dX7_unplay_38 : decode cX7_unplay 38 = .ok (.iastore, 1) := by decide +kernel
theorem dX7_unplay_39 : decode cX7_unplay 39 = .ok (.iload_n 2, 1) := by decide +kernel
theorem dX7_unplay_40 : decode cX7_unplay 40 = .ok (.ireturn, 1) := by decide +kernel
def f_X7_unplay (l0 : Nat) (l1 : Int32) (h0 : Hp) : Option (Int32 × Hp) :=
  (ck h0 l0 7).bind fun _ => (f_X7_isGame l0 l1 h0).bind fun q1 => if q1.1 = 0 then (some ((-2 : Int32), q1.2)) else ((gR q1.2 l0 7 0).bind fun r3 => (aL q1.2 r3 ((78 : Int32) + l1)).bind fun x4 => if x4 = (-1 : Int32) then (some ((-3 : Int32), q1.2)) else ((gR q1.2 l0 7 0).bind fun r6 => (aS q1.2 r6 ((78 : Int32) + l1) (-1 : Int32)).bind fun h7 => some (x4, h7)))
set_option maxRecDepth 100000 in
set_option maxHeartbeats 4000000 in
theorem c_X7_unplay {l0 : Nat} {l1 : Int32} {h0 : Hp} {q : Int32 × Hp} (hf : f_X7_unplay l0 l1 h0 = some q) : Mt 3 yX7_unplay cX7_unplay 3 (some .int) [.ref l0, .int l1] h0 (some (.int q.1)) q.2 := by
  refine MtQ.of (by decide) (Nat.le_of_ble_eq_true rfl) (fun X adr hr hn => ?_)
  unfold f_X7_unplay at hf
  show AW X cX7_unplay 3 RX7 (rmd 3 0 0) (Qmet X 0 0 (Qe (some (.int q.1)) q.2 adr)) 0 0 adr h0 0 [(0, .ref l0), (1, .int l1)] []
  obtain ⟨u0, e0, hf⟩ := b_some hf
  refine aw_aload_n 0 dX7_unplay_0 rfl rfl ?_
  refine aw_iload_n 1 dX7_unplay_1 rfl rfl ?_
  obtain ⟨q1, eq1, hf⟩ := b_some hf
  refine aw_cV (as := [.int l1]) dX7_unplay_2 moX7_isGame voX7_isGame mlX7_202 (k_X7_isGame eq1) rfl (rm_ok (by omega) (by decide)) ⟨Nat.le_refl _, Nat.le_refl _⟩ (Nat.le_of_ble_eq_true rfl) rfl (c_X7_isGame eq1) ?_
  refine aw_if_ne (tgt := 11) dX7_unplay_5 (by decide) (fun c2 => ?_) (fun c2 => ?_)
  · have hf := i_neg c2 hf
    refine aw_aload_n 0 dX7_unplay_11 rfl rfl ?_
    obtain ⟨r3, er3, hf⟩ := b_some hf
    refine aw_getR dX7_unplay_12 gfX7_9 er3 ?_
    refine aw_bipush (v := 78) dX7_unplay_15 (by decide) ?_
    refine aw_iload_n 1 dX7_unplay_17 rfl rfl ?_
    refine aw_iadd dX7_unplay_18 ?_
    obtain ⟨x4, ex4, hf⟩ := b_some hf
    refine aw_iald dX7_unplay_19 ex4 ?_
    refine aw_istore_n (L' := [(2, .int x4), (0, .ref l0), (1, .int l1)]) dX7_unplay_20 rfl (by decide) rfl ?_
    refine aw_iload_n 0 dX7_unplay_21 rfl rfl ?_
    refine aw_iconst (v := -1) dX7_unplay_22 (by decide) ?_
    refine aw_icmp_ne (tgt := 29) dX7_unplay_23 (by decide) (fun c5 => ?_) (fun c5 => ?_)
    · have hf := i_neg c5 hf
      refine aw_aload_n 1 dX7_unplay_29 rfl rfl ?_
      obtain ⟨r6, er6, hf⟩ := b_some hf
      refine aw_getR dX7_unplay_30 gfX7_9 er6 ?_
      refine aw_bipush (v := 78) dX7_unplay_33 (by decide) ?_
      refine aw_iload_n 2 dX7_unplay_35 rfl rfl ?_
      refine aw_iadd dX7_unplay_36 ?_
      refine aw_iconst (v := -1) dX7_unplay_37 (by decide) ?_
      obtain ⟨h7, eh7, hf⟩ := b_some hf
      refine aw_iast dX7_unplay_38 eh7 ?_
      refine aw_iload_n 0 dX7_unplay_39 rfl rfl ?_
      have hq := Option.some.inj hf
      subst hq
      exact aw_iret hr dX7_unplay_40 ⟨rfl, rfl, rfl⟩
    · have hf := i_pos c5 hf
      refine aw_bipush (v := -3) dX7_unplay_26 (by decide) ?_
      have hq := Option.some.inj hf
      subst hq
      exact aw_iret hr dX7_unplay_28 ⟨rfl, rfl, rfl⟩
  · have hf := i_pos c2 hf
    refine aw_bipush (v := -2) dX7_unplay_8 (by decide) ?_
    have hq := Option.some.inj hf
    subst hq
    exact aw_iret hr dX7_unplay_10 ⟨rfl, rfl, rfl⟩
theorem k_X7_unplay {l0 : Nat} {l1 : Int32} {h0 : Hp} {q : Int32 × Hp} (hf : f_X7_unplay l0 l1 h0 = some q) : ck h0 l0 7 = some () := by
  unfold f_X7_unplay at hf
  obtain ⟨u0, e0, hf⟩ := b_some hf
  exact e0
theorem dX7_without_0 : decode cX7_without 0 = .ok (.aload_n 0, 1) := by decide +kernel
theorem dX7_without_1 : decode cX7_without 1 = .ok (.iload_n 1, 1) := by decide +kernel
theorem dX7_without_2 : decode cX7_without 2 = .ok (.invokevirtual 202, 3) := by decide +kernel
theorem dX7_without_5 : decode cX7_without 5 = .ok (.ifCond .ne 6, 3) := by decide +kernel
theorem dX7_without_8 : decode cX7_without 8 = .ok (.bipush (-2), 2) := by decide +kernel
theorem dX7_without_10 : decode cX7_without 10 = .ok (.ireturn, 1) := by decide +kernel
theorem dX7_without_11 : decode cX7_without 11 = .ok (.aload_n 0, 1) := by decide +kernel
theorem dX7_without_12 : decode cX7_without 12 = .ok (.iload_n 1, 1) := by decide +kernel
theorem dX7_without_13 : decode cX7_without 13 = .ok (.bipush (-2), 2) := by decide +kernel
theorem dX7_without_15 : decode cX7_without 15 = .ok (.invokevirtual 228, 3) := by decide +kernel
theorem dX7_without_18 : decode cX7_without 18 = .ok (.aload_n 0, 1) := by decide +kernel
theorem dX7_without_19 : decode cX7_without 19 = .ok (.invokevirtual 214, 3) := by decide +kernel
theorem dX7_without_22 : decode cX7_without 22 = .ok (.ireturn, 1) := by decide +kernel
def f_X7_without (l0 : Nat) (l1 : Int32) (h0 : Hp) : Option (Int32 × Hp) :=
  (ck h0 l0 7).bind fun _ => (f_X7_isGame l0 l1 h0).bind fun q1 => if q1.1 = 0 then (some ((-2 : Int32), q1.2)) else ((f_X7_looksWith l0 l1 (-2 : Int32) q1.2).bind fun q3 => (f_X7_inSet l0 q3.2).bind fun q4 => some (q4.1, q4.2))
set_option maxRecDepth 100000 in
set_option maxHeartbeats 4000000 in
theorem c_X7_without {l0 : Nat} {l1 : Int32} {h0 : Hp} {q : Int32 × Hp} (hf : f_X7_without l0 l1 h0 = some q) : Mt 17 yX7_without cX7_without 2 (some .int) [.ref l0, .int l1] h0 (some (.int q.1)) q.2 := by
  refine MtQ.of (by decide) (Nat.le_of_ble_eq_true rfl) (fun X adr hr hn => ?_)
  unfold f_X7_without at hf
  show AW X cX7_without 2 RX7 (rmd 17 0 0) (Qmet X 0 0 (Qe (some (.int q.1)) q.2 adr)) 0 0 adr h0 0 [(0, .ref l0), (1, .int l1)] []
  obtain ⟨u0, e0, hf⟩ := b_some hf
  refine aw_aload_n 0 dX7_without_0 rfl rfl ?_
  refine aw_iload_n 1 dX7_without_1 rfl rfl ?_
  obtain ⟨q1, eq1, hf⟩ := b_some hf
  refine aw_cV (as := [.int l1]) dX7_without_2 moX7_isGame voX7_isGame mlX7_202 (k_X7_isGame eq1) rfl (rm_ok (by omega) (by decide)) ⟨Nat.le_refl _, Nat.le_refl _⟩ (Nat.le_of_ble_eq_true rfl) rfl (c_X7_isGame eq1) ?_
  refine aw_if_ne (tgt := 11) dX7_without_5 (by decide) (fun c2 => ?_) (fun c2 => ?_)
  · have hf := i_neg c2 hf
    refine aw_aload_n 0 dX7_without_11 rfl rfl ?_
    refine aw_iload_n 1 dX7_without_12 rfl rfl ?_
    refine aw_bipush (v := -2) dX7_without_13 (by decide) ?_
    obtain ⟨q3, eq3, hf⟩ := b_some hf
    refine aw_cV0 (as := [.int l1, .int (-2 : Int32)]) dX7_without_15 moX7_looksWith voX7_looksWith mlX7_228 (k_X7_looksWith eq3) rfl (rm_ok (by omega) (by decide)) ⟨Nat.le_refl _, Nat.le_refl _⟩ (Nat.le_of_ble_eq_true rfl) rfl (c_X7_looksWith eq3) ?_
    refine aw_aload_n 0 dX7_without_18 rfl rfl ?_
    obtain ⟨q4, eq4, hf⟩ := b_some hf
    refine aw_cV (as := []) dX7_without_19 moX7_inSet voX7_inSet mlX7_214 (k_X7_inSet eq4) rfl (rm_ok (by omega) (by decide)) ⟨Nat.le_refl _, Nat.le_refl _⟩ (Nat.le_of_ble_eq_true rfl) rfl (c_X7_inSet eq4) ?_
    have hq := Option.some.inj hf
    subst hq
    exact aw_iret hr dX7_without_22 ⟨rfl, rfl, rfl⟩
  · have hf := i_pos c2 hf
    refine aw_bipush (v := -2) dX7_without_8 (by decide) ?_
    have hq := Option.some.inj hf
    subst hq
    exact aw_iret hr dX7_without_10 ⟨rfl, rfl, rfl⟩
theorem k_X7_without {l0 : Nat} {l1 : Int32} {h0 : Hp} {q : Int32 × Hp} (hf : f_X7_without l0 l1 h0 = some q) : ck h0 l0 7 = some () := by
  unfold f_X7_without at hf
  obtain ⟨u0, e0, hf⟩ := b_some hf
  exact e0
