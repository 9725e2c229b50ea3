theorem law_pure (xs : Nat → Int32) (L : Nat) (hL : L ≤ 7) : ∃ q, lp (f_L_law_18 xs L) 600 (0, 50, 0) hi_25 = some q ∧ q.1 = 1 := sorry
