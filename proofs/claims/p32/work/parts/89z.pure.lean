/-! the law: every run of calls -/
set_option maxRecDepth 100000 in
set_option maxHeartbeats 4000000 in
theorem law_pure (xs : Nat → Int32) (L : Nat) (hL : L ≤ 3584) : ∃ q, lp (f_L_law_18 xs L) 600 (0, 50, 0) hi_25 = some q ∧ q.1 = 1 := by
  have hmain : zOk (lp (f_L_law_18 xs L) 600 (0, 50, 0) (zM zM0)) (fun v _ => v = 1) := by
    refine z_lp (fun n v m => ∃ t : Nat, v = (0, 50, zI (7 * (t : Int))) ∧ 7 * t ≤ L ∧ n = 513 - t ∧ zInv m) (fun _ _ v _ => v = 1) ?_ 600 513 _ _ (by omega) ⟨0, rfl, by omega, rfl, zInv_0⟩
    rintro n v m k ⟨t, rfl, ht, rfl, h⟩ hk
    have hgo : ∀ m2, zInv m2 → 7 * t + 7 ≤ L → zOk ((some (zI (7 * (t : Int)) + 7)).bind fun x => k (0, 50, x) (zM m2)) (fun v _ => v = 1) := fun m2 hI hl => by
      refine z_nm (x := 7 * (t : Int) + 7) (zv_add rfl (zv_l 7)) ?_
      exact hk _ _ _ (by omega) ⟨t + 1, by rw [show 7 * (t : Int) + 7 = 7 * ((t + 1 : Nat) : Int) by omega], by omega, rfl, hI⟩
    unfold f_L_law_18
    dsimp only
    refine z_lt (x := (L : Int) - 7) (y := 7 * (t : Int)) (zv_sub (zI_ofNat L).symm (zv_l 7)) rfl (by omega) (by omega) (fun _ => ⟨_, _, rfl, rfl⟩) (fun hl => ?_)
    have hl : 7 * t + 7 ≤ L := by omega
    refine z_sL rfl (by omega) hL ?_
    refine z_b rfl ?_
    refine z_ite (fun _ => ?_) (fun _ => ?_)
    · refine z_sL (i := 7 * (t : Int) + 1) (zv_add rfl (zv_l 1)) (by omega) hL ?_
      refine z_sL (i := 7 * (t : Int) + 2) (zv_add rfl (zv_l 2)) (by omega) hL ?_
      refine z_sL (i := 7 * (t : Int) + 3) (zv_add rfl (zv_l 3)) (by omega) hL ?_
      refine z_sL (i := 7 * (t : Int) + 4) (zv_add rfl (zv_l 4)) (by omega) hL ?_
      refine z_sL (i := 7 * (t : Int) + 5) (zv_add rfl (zv_l 5)) (by omega) hL ?_
      refine z_sL (i := 7 * (t : Int) + 6) (zv_add rfl (zv_l 6)) (by omega) hL ?_
      obtain ⟨v, m1, w, m2, hA, hB, hI, hE⟩ := zp_feed h (xs (7 * (t : Int) + 1).toNat) (xs (7 * (t : Int) + 2).toNat) (xs (7 * (t : Int) + 3).toNat) (xs (7 * (t : Int) + 4).toNat) (xs (7 * (t : Int) + 5).toNat) (xs (7 * (t : Int) + 6).toNat)
      refine z_b hA ?_
      refine z_sL (i := 7 * (t : Int) + 1) (zv_add rfl (zv_l 1)) (by omega) hL ?_
      refine z_sL (i := 7 * (t : Int) + 2) (zv_add rfl (zv_l 2)) (by omega) hL ?_
      refine z_sL (i := 7 * (t : Int) + 3) (zv_add rfl (zv_l 3)) (by omega) hL ?_
      refine z_sL (i := 7 * (t : Int) + 4) (zv_add rfl (zv_l 4)) (by omega) hL ?_
      refine z_sL (i := 7 * (t : Int) + 5) (zv_add rfl (zv_l 5)) (by omega) hL ?_
      refine z_sL (i := 7 * (t : Int) + 6) (zv_add rfl (zv_l 6)) (by omega) hL ?_
      refine z_b hB ?_
      exact hgo _ hI hl
    refine z_ite (fun _ => ?_) (fun _ => ?_)
    · obtain ⟨v, m1, w, m2, hA, hB, hI, hE⟩ := zp_text h
      refine z_b hA ?_
      refine z_b hB ?_
      exact hgo _ hI hl
    refine z_ite (fun _ => ?_) (fun _ => ?_)
    · obtain ⟨v, m1, w, m2, hA, hB, hI, hE⟩ := zp_named h
      refine z_b hA ?_
      refine z_b hB ?_
      exact hgo _ hI hl
    refine z_ite (fun _ => ?_) (fun _ => ?_)
    · refine z_sL (i := 7 * (t : Int) + 1) (zv_add rfl (zv_l 1)) (by omega) hL ?_
      obtain ⟨v, m1, w, m2, hA, hB, hI, hE⟩ := zp_system h (xs (7 * (t : Int) + 1).toNat)
      refine z_b hA ?_
      refine z_sL (i := 7 * (t : Int) + 1) (zv_add rfl (zv_l 1)) (by omega) hL ?_
      refine z_b hB ?_
      exact hgo _ hI hl
    refine z_ite (fun _ => ?_) (fun _ => ?_)
    · refine z_sL (i := 7 * (t : Int) + 1) (zv_add rfl (zv_l 1)) (by omega) hL ?_
      refine z_sL (i := 7 * (t : Int) + 2) (zv_add rfl (zv_l 2)) (by omega) hL ?_
      obtain ⟨v, m1, w, m2, hA, hB, hI, hE⟩ := zp_play h (xs (7 * (t : Int) + 1).toNat) (xs (7 * (t : Int) + 2).toNat)
      refine z_b hA ?_
      refine z_sL (i := 7 * (t : Int) + 1) (zv_add rfl (zv_l 1)) (by omega) hL ?_
      refine z_sL (i := 7 * (t : Int) + 2) (zv_add rfl (zv_l 2)) (by omega) hL ?_
      refine z_b hB ?_
      exact hgo _ hI hl
    refine z_ite (fun _ => ?_) (fun _ => ?_)
    · refine z_sL (i := 7 * (t : Int) + 1) (zv_add rfl (zv_l 1)) (by omega) hL ?_
      obtain ⟨v, m1, w, m2, hA, hB, hI, hE⟩ := zp_unplay h (xs (7 * (t : Int) + 1).toNat)
      refine z_b hA ?_
      refine z_sL (i := 7 * (t : Int) + 1) (zv_add rfl (zv_l 1)) (by omega) hL ?_
      refine z_b hB ?_
      exact hgo _ hI hl
    refine z_ite (fun _ => ?_) (fun _ => ?_)
    · refine z_sL (i := 7 * (t : Int) + 1) (zv_add rfl (zv_l 1)) (by omega) hL ?_
      refine z_sL (i := 7 * (t : Int) + 2) (zv_add rfl (zv_l 2)) (by omega) hL ?_
      obtain ⟨v, m1, w, m2, hA, hB, hI, hE⟩ := zp_told h (xs (7 * (t : Int) + 1).toNat) (xs (7 * (t : Int) + 2).toNat)
      refine z_b hA ?_
      refine z_sL (i := 7 * (t : Int) + 1) (zv_add rfl (zv_l 1)) (by omega) hL ?_
      refine z_sL (i := 7 * (t : Int) + 2) (zv_add rfl (zv_l 2)) (by omega) hL ?_
      refine z_b hB ?_
      exact hgo _ hI hl
    refine z_ite (fun _ => ?_) (fun _ => ?_)
    · refine z_sL (i := 7 * (t : Int) + 1) (zv_add rfl (zv_l 1)) (by omega) hL ?_
      refine z_sL (i := 7 * (t : Int) + 2) (zv_add rfl (zv_l 2)) (by omega) hL ?_
      obtain ⟨v, m1, w, m2, hA, hB, hI, hE⟩ := zp_game h (xs (7 * (t : Int) + 1).toNat) (xs (7 * (t : Int) + 2).toNat)
      refine z_b hA ?_
      refine z_sL (i := 7 * (t : Int) + 1) (zv_add rfl (zv_l 1)) (by omega) hL ?_
      refine z_sL (i := 7 * (t : Int) + 2) (zv_add rfl (zv_l 2)) (by omega) hL ?_
      refine z_b hB ?_
      exact hgo _ hI hl
    refine z_ite (fun _ => ?_) (fun _ => ?_)
    · refine z_sL (i := 7 * (t : Int) + 1) (zv_add rfl (zv_l 1)) (by omega) hL ?_
      refine z_sL (i := 7 * (t : Int) + 2) (zv_add rfl (zv_l 2)) (by omega) hL ?_
      obtain ⟨v, m1, w, m2, hA, hB, hI, hE⟩ := zp_between h (xs (7 * (t : Int) + 1).toNat) (xs (7 * (t : Int) + 2).toNat)
      refine z_b hA ?_
      refine z_sL (i := 7 * (t : Int) + 1) (zv_add rfl (zv_l 1)) (by omega) hL ?_
      refine z_sL (i := 7 * (t : Int) + 2) (zv_add rfl (zv_l 2)) (by omega) hL ?_
      refine z_b hB ?_
      exact hgo _ hI hl
    refine z_ite (fun _ => ?_) (fun _ => ?_)
    · refine z_sL (i := 7 * (t : Int) + 1) (zv_add rfl (zv_l 1)) (by omega) hL ?_
      obtain ⟨v, m1, w, m2, hA, hB, hI, hE⟩ := zp_taken h (xs (7 * (t : Int) + 1).toNat)
      refine z_b hA ?_
      refine z_sL (i := 7 * (t : Int) + 1) (zv_add rfl (zv_l 1)) (by omega) hL ?_
      refine z_b hB ?_
      exact hgo _ hI hl
    refine z_ite (fun _ => ?_) (fun _ => ?_)
    · refine z_sL (i := 7 * (t : Int) + 1) (zv_add rfl (zv_l 1)) (by omega) hL ?_
      obtain ⟨v, m1, w, m2, hA, hB, hI, hE⟩ := zp_isIn h (xs (7 * (t : Int) + 1).toNat)
      refine z_b hA ?_
      refine z_sL (i := 7 * (t : Int) + 1) (zv_add rfl (zv_l 1)) (by omega) hL ?_
      refine z_b hB ?_
      exact hgo _ hI hl
    refine z_ite (fun _ => ?_) (fun _ => ?_)
    · obtain ⟨v, m1, w, m2, hA, hB, hI, hE⟩ := zp_all h
      refine z_b hA ?_
      refine z_b hB ?_
      exact hgo _ hI hl
    refine z_ite (fun _ => ?_) (fun _ => ?_)
    · refine z_sL (i := 7 * (t : Int) + 1) (zv_add rfl (zv_l 1)) (by omega) hL ?_
      refine z_sL (i := 7 * (t : Int) + 2) (zv_add rfl (zv_l 2)) (by omega) hL ?_
      obtain ⟨v, m1, w, m2, hA, hB, hI, hE⟩ := zp_set h (xs (7 * (t : Int) + 1).toNat) (xs (7 * (t : Int) + 2).toNat)
      refine z_b hA ?_
      refine z_sL (i := 7 * (t : Int) + 1) (zv_add rfl (zv_l 1)) (by omega) hL ?_
      refine z_sL (i := 7 * (t : Int) + 2) (zv_add rfl (zv_l 2)) (by omega) hL ?_
      refine z_b hB ?_
      exact hgo _ hI hl
    refine z_ite (fun _ => ?_) (fun _ => ?_)
    · refine z_sL (i := 7 * (t : Int) + 1) (zv_add rfl (zv_l 1)) (by omega) hL ?_
      refine z_sL (i := 7 * (t : Int) + 2) (zv_add rfl (zv_l 2)) (by omega) hL ?_
      obtain ⟨v, m1, w, m2, hA, hB, hI, hE⟩ := zp_run h (xs (7 * (t : Int) + 1).toNat) (xs (7 * (t : Int) + 2).toNat)
      refine z_b hA ?_
      refine z_sL (i := 7 * (t : Int) + 1) (zv_add rfl (zv_l 1)) (by omega) hL ?_
      refine z_sL (i := 7 * (t : Int) + 2) (zv_add rfl (zv_l 2)) (by omega) hL ?_
      refine z_b hB ?_
      exact hgo _ hI hl
    refine z_ite (fun _ => ?_) (fun _ => ?_)
    · refine z_sL (i := 7 * (t : Int) + 1) (zv_add rfl (zv_l 1)) (by omega) hL ?_
      obtain ⟨v, m1, w, m2, hA, hB, hI, hE⟩ := zp_pattern h (xs (7 * (t : Int) + 1).toNat)
      refine z_b hA ?_
      refine z_sL (i := 7 * (t : Int) + 1) (zv_add rfl (zv_l 1)) (by omega) hL ?_
      refine z_b hB ?_
      exact hgo _ hI hl
    refine z_ite (fun _ => ?_) (fun _ => ?_)
    · refine z_sL (i := 7 * (t : Int) + 1) (zv_add rfl (zv_l 1)) (by omega) hL ?_
      refine z_sL (i := 7 * (t : Int) + 2) (zv_add rfl (zv_l 2)) (by omega) hL ?_
      obtain ⟨v, m1, w, m2, hA, hB, hI, hE⟩ := zp_needs h (xs (7 * (t : Int) + 1).toNat) (xs (7 * (t : Int) + 2).toNat)
      refine z_b hA ?_
      refine z_sL (i := 7 * (t : Int) + 1) (zv_add rfl (zv_l 1)) (by omega) hL ?_
      refine z_sL (i := 7 * (t : Int) + 2) (zv_add rfl (zv_l 2)) (by omega) hL ?_
      refine z_b hB ?_
      exact hgo _ hI hl
    refine z_ite (fun _ => ?_) (fun _ => ?_)
    · refine z_sL (i := 7 * (t : Int) + 1) (zv_add rfl (zv_l 1)) (by omega) hL ?_
      refine z_sL (i := 7 * (t : Int) + 2) (zv_add rfl (zv_l 2)) (by omega) hL ?_
      obtain ⟨v, m1, w, m2, hA, hB, hI, hE⟩ := zp_since h (xs (7 * (t : Int) + 1).toNat) (xs (7 * (t : Int) + 2).toNat)
      refine z_b hA ?_
      refine z_sL (i := 7 * (t : Int) + 1) (zv_add rfl (zv_l 1)) (by omega) hL ?_
      refine z_sL (i := 7 * (t : Int) + 2) (zv_add rfl (zv_l 2)) (by omega) hL ?_
      refine z_b hB ?_
      exact hgo _ hI hl
    refine z_ite (fun _ => ?_) (fun _ => ?_)
    · refine z_sL (i := 7 * (t : Int) + 1) (zv_add rfl (zv_l 1)) (by omega) hL ?_
      refine z_sL (i := 7 * (t : Int) + 2) (zv_add rfl (zv_l 2)) (by omega) hL ?_
      obtain ⟨v, m1, w, m2, hA, hB, hI, hE⟩ := zp_help h (xs (7 * (t : Int) + 1).toNat) (xs (7 * (t : Int) + 2).toNat)
      refine z_b hA ?_
      refine z_sL (i := 7 * (t : Int) + 1) (zv_add rfl (zv_l 1)) (by omega) hL ?_
      refine z_sL (i := 7 * (t : Int) + 2) (zv_add rfl (zv_l 2)) (by omega) hL ?_
      refine z_b hB ?_
      exact hgo _ hI hl
    refine z_ite (fun _ => ?_) (fun _ => ?_)
    · refine z_sL (i := 7 * (t : Int) + 1) (zv_add rfl (zv_l 1)) (by omega) hL ?_
      obtain ⟨v, m1, w, m2, hA, hB, hI, hE⟩ := zp_without h (xs (7 * (t : Int) + 1).toNat)
      refine z_b hA ?_
      refine z_sL (i := 7 * (t : Int) + 1) (zv_add rfl (zv_l 1)) (by omega) hL ?_
      refine z_b hB ?_
      exact hgo _ hI hl
    refine z_ite (fun _ => ?_) (fun _ => ?_)
    · obtain ⟨v, m1, w, m2, hA, hB, hI, hE⟩ := zp_tables h
      refine z_b hA ?_
      refine z_b hB ?_
      exact hgo _ hI hl
    refine z_ite (fun _ => ?_) (fun _ => ?_)
    · refine z_sL (i := 7 * (t : Int) + 1) (zv_add rfl (zv_l 1)) (by omega) hL ?_
      obtain ⟨v, m1, w, m2, hA, hB, hI, hE⟩ := zp_drawn h (xs (7 * (t : Int) + 1).toNat)
      refine z_b hA ?_
      refine z_sL (i := 7 * (t : Int) + 1) (zv_add rfl (zv_l 1)) (by omega) hL ?_
      refine z_b hB ?_
      exact hgo _ hI hl
    refine z_ite (fun _ => ?_) (fun _ => ?_)
    · refine z_sL (i := 7 * (t : Int) + 1) (zv_add rfl (zv_l 1)) (by omega) hL ?_
      refine z_sL (i := 7 * (t : Int) + 2) (zv_add rfl (zv_l 2)) (by omega) hL ?_
      refine z_sL (i := 7 * (t : Int) + 3) (zv_add rfl (zv_l 3)) (by omega) hL ?_
      refine z_sL (i := 7 * (t : Int) + 4) (zv_add rfl (zv_l 4)) (by omega) hL ?_
      obtain ⟨v, m1, w, m2, hA, hB, hI, hE⟩ := zp_chance h (xs (7 * (t : Int) + 1).toNat) (xs (7 * (t : Int) + 2).toNat) (xs (7 * (t : Int) + 3).toNat) (xs (7 * (t : Int) + 4).toNat)
      refine z_b hA ?_
      refine z_sL (i := 7 * (t : Int) + 1) (zv_add rfl (zv_l 1)) (by omega) hL ?_
      refine z_sL (i := 7 * (t : Int) + 2) (zv_add rfl (zv_l 2)) (by omega) hL ?_
      refine z_sL (i := 7 * (t : Int) + 3) (zv_add rfl (zv_l 3)) (by omega) hL ?_
      refine z_sL (i := 7 * (t : Int) + 4) (zv_add rfl (zv_l 4)) (by omega) hL ?_
      refine z_b hB ?_
      exact hgo _ hI hl
    refine z_ite (fun _ => ?_) (fun _ => ?_)
    · refine z_sL (i := 7 * (t : Int) + 1) (zv_add rfl (zv_l 1)) (by omega) hL ?_
      refine z_sL (i := 7 * (t : Int) + 2) (zv_add rfl (zv_l 2)) (by omega) hL ?_
      obtain ⟨v, m1, w, m2, hA, hB, hI, hE⟩ := zp_tells h (xs (7 * (t : Int) + 1).toNat) (xs (7 * (t : Int) + 2).toNat)
      refine z_b hA ?_
      refine z_sL (i := 7 * (t : Int) + 1) (zv_add rfl (zv_l 1)) (by omega) hL ?_
      refine z_sL (i := 7 * (t : Int) + 2) (zv_add rfl (zv_l 2)) (by omega) hL ?_
      refine z_b hB ?_
      exact hgo _ hI hl
    refine z_ite (fun _ => ?_) (fun _ => ?_)
    · refine z_sL (i := 7 * (t : Int) + 1) (zv_add rfl (zv_l 1)) (by omega) hL ?_
      refine z_sL (i := 7 * (t : Int) + 2) (zv_add rfl (zv_l 2)) (by omega) hL ?_
      obtain ⟨v, m1, w, m2, hA, hB, hI, hE⟩ := zp_film h (xs (7 * (t : Int) + 1).toNat) (xs (7 * (t : Int) + 2).toNat)
      refine z_b hA ?_
      refine z_sL (i := 7 * (t : Int) + 1) (zv_add rfl (zv_l 1)) (by omega) hL ?_
      refine z_sL (i := 7 * (t : Int) + 2) (zv_add rfl (zv_l 2)) (by omega) hL ?_
      refine z_b hB ?_
      exact hgo _ hI hl
    refine z_ite (fun _ => ?_) (fun _ => ?_)
    · obtain ⟨v, m1, w, m2, hA, hB, hI, hE⟩ := zp_image h
      refine z_b hA ?_
      refine z_b hB ?_
      exact hgo _ hI hl
    refine z_ite (fun _ => ?_) (fun _ => ?_)
    · obtain ⟨v, m1, w, m2, hA, hB, hI, hE⟩ := zp_back h
      refine z_b hA ?_
      refine z_b hB ?_
      exact hgo _ hI hl
    refine z_ite (fun _ => ?_) (fun _ => ?_)
    · refine z_sL (i := 7 * (t : Int) + 1) (zv_add rfl (zv_l 1)) (by omega) hL ?_
      obtain ⟨v, m1, w, m2, hA, hB, hI, hE⟩ := zp_count h (xs (7 * (t : Int) + 1).toNat)
      refine z_b hA ?_
      refine z_sL (i := 7 * (t : Int) + 1) (zv_add rfl (zv_l 1)) (by omega) hL ?_
      refine z_b hB ?_
      exact hgo _ hI hl
    refine z_ite (fun _ => ?_) (fun _ => ?_)
    · refine z_sL (i := 7 * (t : Int) + 1) (zv_add rfl (zv_l 1)) (by omega) hL ?_
      refine z_sL (i := 7 * (t : Int) + 2) (zv_add rfl (zv_l 2)) (by omega) hL ?_
      refine z_sL (i := 7 * (t : Int) + 3) (zv_add rfl (zv_l 3)) (by omega) hL ?_
      obtain ⟨v, m1, w, m2, hA, hB, hI, hE⟩ := zp_sheet h (xs (7 * (t : Int) + 1).toNat) (xs (7 * (t : Int) + 2).toNat) (xs (7 * (t : Int) + 3).toNat)
      refine z_b hA ?_
      refine z_sL (i := 7 * (t : Int) + 1) (zv_add rfl (zv_l 1)) (by omega) hL ?_
      refine z_sL (i := 7 * (t : Int) + 2) (zv_add rfl (zv_l 2)) (by omega) hL ?_
      refine z_sL (i := 7 * (t : Int) + 3) (zv_add rfl (zv_l 3)) (by omega) hL ?_
      refine z_b hB ?_
      exact hgo _ hI hl
    refine z_ite (fun _ => ?_) (fun _ => ?_)
    · refine z_sL (i := 7 * (t : Int) + 1) (zv_add rfl (zv_l 1)) (by omega) hL ?_
      refine z_sL (i := 7 * (t : Int) + 2) (zv_add rfl (zv_l 2)) (by omega) hL ?_
      refine z_sL (i := 7 * (t : Int) + 3) (zv_add rfl (zv_l 3)) (by omega) hL ?_
      obtain ⟨v, m1, w, m2, hA, hB, hI, hE⟩ := zp_put h (xs (7 * (t : Int) + 1).toNat) (xs (7 * (t : Int) + 2).toNat) (xs (7 * (t : Int) + 3).toNat)
      refine z_b hA ?_
      refine z_sL (i := 7 * (t : Int) + 1) (zv_add rfl (zv_l 1)) (by omega) hL ?_
      refine z_sL (i := 7 * (t : Int) + 2) (zv_add rfl (zv_l 2)) (by omega) hL ?_
      refine z_sL (i := 7 * (t : Int) + 3) (zv_add rfl (zv_l 3)) (by omega) hL ?_
      refine z_b hB ?_
      exact hgo _ hI hl
    refine z_ite (fun _ => ?_) (fun _ => ?_)
    · refine z_sL (i := 7 * (t : Int) + 1) (zv_add rfl (zv_l 1)) (by omega) hL ?_
      refine z_sL (i := 7 * (t : Int) + 2) (zv_add rfl (zv_l 2)) (by omega) hL ?_
      refine z_sL (i := 7 * (t : Int) + 3) (zv_add rfl (zv_l 3)) (by omega) hL ?_
      refine z_sL (i := 7 * (t : Int) + 4) (zv_add rfl (zv_l 4)) (by omega) hL ?_
      refine z_sL (i := 7 * (t : Int) + 5) (zv_add rfl (zv_l 5)) (by omega) hL ?_
      obtain ⟨v, m1, w, m2, hA, hB, hI, hE⟩ := zp_copy h (xs (7 * (t : Int) + 1).toNat) (xs (7 * (t : Int) + 2).toNat) (xs (7 * (t : Int) + 3).toNat) (xs (7 * (t : Int) + 4).toNat) (xs (7 * (t : Int) + 5).toNat)
      refine z_b hA ?_
      refine z_sL (i := 7 * (t : Int) + 1) (zv_add rfl (zv_l 1)) (by omega) hL ?_
      refine z_sL (i := 7 * (t : Int) + 2) (zv_add rfl (zv_l 2)) (by omega) hL ?_
      refine z_sL (i := 7 * (t : Int) + 3) (zv_add rfl (zv_l 3)) (by omega) hL ?_
      refine z_sL (i := 7 * (t : Int) + 4) (zv_add rfl (zv_l 4)) (by omega) hL ?_
      refine z_sL (i := 7 * (t : Int) + 5) (zv_add rfl (zv_l 5)) (by omega) hL ?_
      refine z_b hB ?_
      exact hgo _ hI hl
    refine z_ite (fun _ => ?_) (fun _ => ?_)
    · refine z_sL (i := 7 * (t : Int) + 1) (zv_add rfl (zv_l 1)) (by omega) hL ?_
      refine z_sL (i := 7 * (t : Int) + 2) (zv_add rfl (zv_l 2)) (by omega) hL ?_
      refine z_sL (i := 7 * (t : Int) + 3) (zv_add rfl (zv_l 3)) (by omega) hL ?_
      refine z_sL (i := 7 * (t : Int) + 4) (zv_add rfl (zv_l 4)) (by omega) hL ?_
      obtain ⟨v, m1, w, m2, hA, hB, hI, hE⟩ := zp_load h (xs (7 * (t : Int) + 1).toNat) (xs (7 * (t : Int) + 2).toNat) (xs (7 * (t : Int) + 3).toNat) (xs (7 * (t : Int) + 4).toNat)
      refine z_b hA ?_
      refine z_sL (i := 7 * (t : Int) + 1) (zv_add rfl (zv_l 1)) (by omega) hL ?_
      refine z_sL (i := 7 * (t : Int) + 2) (zv_add rfl (zv_l 2)) (by omega) hL ?_
      refine z_sL (i := 7 * (t : Int) + 3) (zv_add rfl (zv_l 3)) (by omega) hL ?_
      refine z_sL (i := 7 * (t : Int) + 4) (zv_add rfl (zv_l 4)) (by omega) hL ?_
      refine z_b hB ?_
      exact z_ite (fun _ => hgo _ hI hl) (fun hn => absurd (hE trivial) hn)
    exact hgo _ h hl
  obtain ⟨v, m1, h1, h2⟩ := hmain
  rw [zM_hi] at h1
  exact ⟨_, h1, h2⟩
