theorem p_N_declare2 {I : Nat → Int32} {A : Nat → Nat → Int32} {B : Nat → Nat → Int64} {Q : xQ} {n : Nat} {mc : Nat → Nat} {t : Int64} {s b : Int32} (h8 : n ≤ 8) (e0 : I 0 = nI n) (hm : ∀ c, c < n → mc c ≤ 6 ∧ A 6 c = nI (mc c)) (hb : b = 0 ∨ b = 1) (hs : s = -1 ∨ ∃ p, p < 8 ∧ s = nI p)
    (h3 : (0 < chg B mc n ∨ 8 ≤ n ∨ ¬ clN (B 2) t n 0 = -1) → Q (.inr 2) (HX I A B) 1) (h0 : ¬ (0 < chg B mc n ∨ 8 ≤ n ∨ ¬ clN (B 2) t n 0 = -1) → Q (.inl (some (.int (nI n)))) (HX (va_up I 0 (nI (n + 1))) (plA A n s b) (plB B n t)) 0) : xG tb_N_declare Q (43, [some (.ref 0), some (.long t), none, some (.int s), some (.int b)], [], (HX I A B), 0) := by
  refine xG.go [1, 27, 43, 47, 57, 75, 100, 107] 40 ?_
  show xG tb_N_declare Q (47, [some (.ref 0), some (.long t), none, some (.int s), some (.int b)], [.ref 1], (HX I A B), 0)
  refine xG.callV (F := xRun tb_S_isMoving 1) (a := 1) rfl rfl rfl rfl (p_S_isMoving h8 e0 hm ?_)
  refine xG.go [1, 27, 43, 47, 57, 75, 100, 107] 40 ?_
  show (((bI (decide (0 < chg B mc n))) = 0 → xG tb_N_declare Q (57, [some (.ref 0), some (.long t), none, some (.int s), some (.int b)], [.ref 1], (HX I A B), 0)) ∧ (¬ (bI (decide (0 < chg B mc n))) = 0 → Q (.inr 2) (HX I A B) 1))
  by_cases w1 : 0 < chg B mc n
  · rw [decide_eq_true w1]
    exact br_n (by decide) (h3 (Or.inl w1))
  rw [decide_eq_false w1]
  refine br_y rfl ?_
  refine xG.callV (F := xRun tb_S_isFull 1) (a := 1) rfl rfl rfl rfl (p_S_isFull h8 e0 ?_)
  refine xG.go [1, 27, 43, 47, 57, 75, 100, 107] 40 ?_
  show (((bI (decide (8 ≤ n))) = 0 → xG tb_N_declare Q (75, [some (.ref 0), some (.long t), none, some (.int s), some (.int b)], [.int (I 0), .long t, .ref 1], (HX I A B), 0)) ∧ (¬ (bI (decide (8 ≤ n))) = 0 → Q (.inr 2) (HX I A B) 1))
  by_cases w2 : 8 ≤ n
  · rw [decide_eq_true w2]
    exact br_n (by decide) (h3 (Or.inr (Or.inl w2)))
  rw [decide_eq_false w2]
  refine br_y rfl ?_
  rw [e0]
  refine xG.callV (F := xRun tb_S_classNamed 5) (a := 1) rfl rfl rfl rfl (p_S_classNamed h8 ?_)
  refine xG.go [1, 27, 43, 47, 57, 75, 100, 107] 40 ?_
  show (((clN (B 2) t n 0) = (-1 : Int32) → xG tb_N_declare Q (100, [some (.ref 0), some (.long t), none, some (.int s), some (.int b)], [.int b, .int s, .long t, .ref 1], (HX I A B), 0)) ∧ (¬ (clN (B 2) t n 0) = (-1 : Int32) → Q (.inr 2) (HX I A B) 1))
  by_cases w3 : clN (B 2) t n 0 = -1
  · refine br_y w3 ?_
    have h0' := h0 (fun z => z.elim w1 (fun z => z.elim w2 (fun z => z w3)))
    refine xG.callV (F := xRun tb_S_placeClass 5) (a := 1) rfl rfl rfl rfl (p_S_placeClass (by omega) e0 hb hs ?_)
    refine xG.go [1, 27, 43, 47, 57, 75, 100, 107] 40 ?_
    show xG tb_N_declare Q (107, [some (.ref 0), some (.long t), none, some (.int s), some (.int b)], [.ref 1], (HX I (plA A n s b) (plB B n t)), 0)
    refine xG.callV (F := xRun tb_S_countPlacedClass 1) (a := 1) rfl rfl rfl rfl (p_S_countPlacedClass e0 ?_)
    refine xG.go [1, 27, 43, 47, 57, 75, 100, 107] 40 ?_
    exact h0'
  · exact br_n w3 (h3 (Or.inr (Or.inr w3)))
