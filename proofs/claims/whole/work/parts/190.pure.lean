/-- WHAT IS LEFT, of numbers and rows alone: the law's loop from the fresh objects ends with true -/
theorem law_pure (L : Nat) (xs : Nat → Int32) (hL : L ≤ 3584) : xG (tb_law L xs) xQL (23, xloc 0 none none none, [], HX (fun _ => 0) (fun _ _ => 0) (fun _ _ => 0), 0) := by
  sorry
