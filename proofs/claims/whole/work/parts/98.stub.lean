theorem law_run (xs : Nat → Int32) (L : Nat) (hL : L ≤ 3584) : ∃ f M', e_ev xs L f kL_law_0 (lv_args 0 [.ref 0]) [] e_M0 = some (some (.int 1), M') ∧ M'.1 = 173 := by sorry
