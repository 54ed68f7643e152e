/-- the law's loop from the fresh objects ends with true -/
theorem law_pure (L : Nat) (xs : Nat → Int32) (hL : L ≤ 3584) : xG (tb_law L xs) xQL (23, xloc 0 none none none, [], HX (fun _ => 0) (fun _ _ => 0) (fun _ _ => 0), 0) := by
  refine law_of_cases (V := vInv) hL vInv_0 (fun j hj => ?_)
  have h : j = 0 ∨ j = 1 ∨ j = 2 ∨ j = 3 ∨ j = 4 ∨ j = 5 ∨ j = 6 ∨ j = 7 ∨ j = 8 ∨ j = 9 ∨ j = 10 ∨ j = 11 ∨ j = 12 ∨ j = 13 ∨ j = 14 ∨ j = 15 := by omega
  rcases h with rfl | rfl | rfl | rfl | rfl | rfl | rfl | rfl | rfl | rfl | rfl | rfl | rfl | rfl | rfl | rfl
  · exact case_0
  · exact case_1
  · exact case_2
  · exact case_3
  · exact case_4
  · exact case_5
  · exact case_6
  · exact case_7
  · exact case_8
  · exact case_9
  · exact case_10
  · exact case_11
  · exact case_12
  · exact case_13
  · exact case_14
  · exact case_15
