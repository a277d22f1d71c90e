/-! the law's function answers 1 on every script -/
theorem law_true (xs : Nat → Int32) (L : Nat) (hL : L ≤ 2560) : ∃ r : Int32 × Me, L_law_L23 xs L 513 0 M0 = some r ∧ r.1 = 1 := law_of sim_plan xs L hL
