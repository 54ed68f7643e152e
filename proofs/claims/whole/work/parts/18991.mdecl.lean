theorem p_M_decl_no {I : Nat → Int32} {A : Nat → Nat → Int32} {B : Nat → Nat → Int64} {Q : xQ} {t : Int64} {s b k : Int32} (hk : ¬ k ≤ 0) (hq : Q (.inl (some (.int 0))) (HX (va_up I 9 k) A B) 0) : xG tb_M_declare Q (59, [some (.ref 24), some (.long t), none, some (.int s), some (.int b)], [.int k, .ref 24], (HX I A B), 0) := by
  refine xG.go [3, 20, 31, 48, 76] 40 ?_
  show ((k ≤ 0 → xG tb_M_declare Q (76, [some (.ref 24), some (.long t), none, some (.int s), some (.int b)], [.int b, .int s, .long t, .ref 24], (HX (va_up I 9 k) A B), 0)) ∧ (¬ k ≤ 0 → Q (.inl (some (.int (0 : Int32)))) (HX (va_up I 9 k) A B) 0))
  exact br_n hk hq
theorem p_M_decl_0 {I : Nat → Int32} {A : Nat → Nat → Int32} {B : Nat → Nat → Int64} {Q : xQ} {n : Nat} {t : Int64} {s b : Int32} (hn : n < 8) (e0 : I 10 = nI n) (hb : b = 0 ∨ b = 1) (hq : Q (.inl (some (.int (nI n)))) (HX (va_up (va_up I 9 0) 10 (nI (n + 1))) (puA A n s b) (puB B n t)) 0) : xG tb_M_declare Q (59, [some (.ref 24), some (.long t), none, some (.int s), some (.int b)], [.int 0, .ref 24], (HX I A B), 0) := by
  refine xG.go [3, 20, 31, 48, 76] 40 ?_
  show (((0 : Int32) ≤ 0 → xG tb_M_declare Q (76, [some (.ref 24), some (.long t), none, some (.int s), some (.int b)], [.int b, .int s, .long t, .ref 24], (HX (va_up I 9 (0 : Int32)) A B), 0)) ∧ (¬ (0 : Int32) ≤ 0 → Q (.inl (some (.int (0 : Int32)))) (HX (va_up I 9 (0 : Int32)) A B) 0))
  refine br_y (by decide) ?_
  refine xG.callV (F := xRun tb_M_put 5) (a := 24) rfl rfl rfl rfl (p_M_put (I := va_up I 9 0) hn e0 hb ?_)
  refine xG.go [3, 20, 31, 48, 76] 40 ?_
  show Q (.inl (some (.int (((I 10) + (1 : Int32)) - (1 : Int32))))) (HX (va_up (va_up I 9 0) 10 ((I 10) + (1 : Int32))) (puA A n s b) (puB B n t)) 0
  rw [e0, nI_1, nI_pred]
  exact hq
theorem p_M_decl_2 {I : Nat → Int32} {A : Nat → Nat → Int32} {B : Nat → Nat → Int64} {Q : xQ} {n : Nat} {mc : Nat → Nat} {t : Int64} {s b : Int32} (hM : mtot B mc 0 n < 2 ^ 31) (h8 : n ≤ 8) (e0 : I 10 = nI n) (hm : ∀ c, c < n → mc c ≤ 6 ∧ A 29 c = nI (mc c)) (hb : b = 0 ∨ b = 1) (h3 : (0 < mtot B mc 0 n ∨ n = 8 ∨ ¬ lsN (B 25) t n 0 (-1) < 0) → Q (.inl (some (.int 0))) (HX (va_up I 9 3) A B) 0) (h0 : ¬ (0 < mtot B mc 0 n ∨ n = 8 ∨ ¬ lsN (B 25) t n 0 (-1) < 0) → Q (.inl (some (.int (nI n)))) (HX (va_up (va_up I 9 0) 10 (nI (n + 1))) (puA A n s b) (puB B n t)) 0) : xG tb_M_declare Q (30, [some (.ref 24), some (.long t), none, some (.int s), some (.int b)], [.ref 24], (HX I A B), 0) := by
  refine xG.go [3, 20, 31, 48, 59, 76] 40 ?_
  show xG tb_M_declare Q (31, [some (.ref 24), some (.long t), none, some (.int s), some (.int b)], [.ref 24, .ref 24], (HX I A B), 0)
  refine xG.callV (F := xRun tb_M_moves 4) (a := 24) rfl rfl rfl rfl (p_M_moves h8 e0 hm ?_)
  refine xG.go [3, 20, 31, 48, 59, 76] 40 ?_
  show ((0 < (nI (mtot B mc 0 n)) → xG tb_M_declare Q (59, [some (.ref 24), some (.long t), none, some (.int s), some (.int b)], [.int (3 : Int32), .ref 24], (HX I A B), 0)) ∧ (¬ 0 < (nI (mtot B mc 0 n)) → (((I 10) = (8 : Int32) → xG tb_M_declare Q (59, [some (.ref 24), some (.long t), none, some (.int s), some (.int b)], [.int (3 : Int32), .ref 24], (HX I A B), 0)) ∧ (¬ (I 10) = (8 : Int32) → xG tb_M_declare Q (48, [some (.ref 24), some (.long t), none, some (.int s), some (.int b)], [.long t, .ref 24, .ref 24], (HX I A B), 0)))))
  by_cases w1 : 0 < nI (mtot B mc 0 n)
  · refine br_y w1 (p_M_decl_no (by decide) (h3 (Or.inl ?_)))
    cases hz : mtot B mc 0 n with
    | zero => rw [hz] at w1; exact absurd w1 (by decide)
    | succ m => exact Nat.succ_pos m
  refine br_n w1 ?_
  rw [e0]
  by_cases w2 : n = 8
  · subst w2
    exact br_y rfl (p_M_decl_no (by decide) (h3 (Or.inr (Or.inl rfl))))
  refine br_n (fun z => w2 ((nI_eq (b := 8) (by omega) (by omega)).mp z)) ?_
  refine xG.callV (F := xRun tb_M_named 5) (a := 24) rfl rfl rfl rfl (p_M_named h8 e0 ?_)
  refine xG.go [3, 20, 31, 48, 59, 76] 40 ?_
  show (((lsN (B 25) t n 0 (-1)) < 0 → xG tb_M_declare Q (59, [some (.ref 24), some (.long t), none, some (.int s), some (.int b)], [.int (0 : Int32), .ref 24], (HX I A B), 0)) ∧ (¬ (lsN (B 25) t n 0 (-1)) < 0 → xG tb_M_declare Q (59, [some (.ref 24), some (.long t), none, some (.int s), some (.int b)], [.int (3 : Int32), .ref 24], (HX I A B), 0)))
  by_cases w3 : lsN (B 25) t n 0 (-1) < 0
  · exact br_y w3 (p_M_decl_0 (by omega) e0 hb (h0 (fun z => z.elim (fun z => w1 (nI_lt (a := 0) z hM)) (fun z => z.elim w2 (fun z => z w3)))))
  · exact br_n w3 (p_M_decl_no (by decide) (h3 (Or.inr (Or.inr w3))))
