theorem p_N_declare {I : Nat → Int32} {A : Nat → Nat → Int32} {B : Nat → Nat → Int64} {Q : xQ} {n : Nat} {mc : Nat → Nat} {t : Int64} {s b : Int32} (h8 : n ≤ 8) (e0 : I 0 = nI n) (hm : ∀ c, c < n → mc c ≤ 6 ∧ A 6 c = nI (mc c)) (hb : b = 0 ∨ b = 1)
    (h1 : isCN t = false → Q (.inr 0) (HX I A B) 1) (h2 : isCN t = true → ¬ (s = -1 ∨ isC (nI n) s = true) → Q (.inr 1) (HX I A B) 1) (h3 : isCN t = true → (s = -1 ∨ isC (nI n) s = true) → (0 < chg B mc n ∨ 8 ≤ n ∨ ¬ clN (B 2) t n 0 = -1) → Q (.inr 2) (HX I A B) 1) (h0 : isCN t = true → (s = -1 ∨ isC (nI n) s = true) → ¬ (0 < chg B mc n ∨ 8 ≤ n ∨ ¬ clN (B 2) t n 0 = -1) → Q (.inl (some (.int (nI n)))) (HX (va_up I 0 (nI (n + 1))) (plA A n s b) (plB B n t)) 0) : xRun tb_N_declare 5 [.ref 0, .long t, .int s, .int b] (HX I A B) Q := by
  refine ⟨Nat.le_of_ble_eq_true rfl, ?_⟩
  refine xG.go [1, 27, 43, 47, 57, 75, 100, 107] 40 ?_
  show xG tb_N_declare Q (1, [some (.ref 0), some (.long t), none, some (.int s), some (.int b)], [.long t], (HX I A B), 0)
  refine xG.call (F := xRun tb_T_isClassName 6) rfl rfl (p_T_isClassName ?_)
  refine xG.go [1, 27, 43, 47, 57, 75, 100, 107] 40 ?_
  show (((bI (isCN t)) = 0 → Q (.inr 0) (HX I A B) 1) ∧ (¬ (bI (isCN t)) = 0 → ((s = (-1 : Int32) → xG tb_N_declare Q (43, [some (.ref 0), some (.long t), none, some (.int s), some (.int b)], [], (HX I A B), 0)) ∧ (¬ s = (-1 : Int32) → xG tb_N_declare Q (27, [some (.ref 0), some (.long t), none, some (.int s), some (.int b)], [.int s, .ref 1], (HX I A B), 0)))))
  cases hc : isCN t with
  | false => exact br_y rfl (h1 hc)
  | true =>
    refine br_n (by decide) ⟨fun z => ?_, fun z => ?_⟩
    · exact p_N_declare2 h8 e0 hm hb (Or.inl z) (h3 hc (Or.inl z)) (h0 hc (Or.inl z))
    · refine xG.callV (F := xRun tb_S_isClass 2) (a := 1) rfl rfl rfl rfl (p_S_isClass ?_)
      refine xG.go [1, 27, 43, 47, 57, 75, 100, 107] 40 ?_
      show (((bI (isC (I 0) s)) = 0 → Q (.inr 1) (HX I A B) 1) ∧ (¬ (bI (isC (I 0) s)) = 0 → xG tb_N_declare Q (43, [some (.ref 0), some (.long t), none, some (.int s), some (.int b)], [], (HX I A B), 0)))
      rw [e0]
      cases hd : isC (nI n) s with
      | false => exact br_y rfl (h2 hc (fun w => w.elim z (fun w => by rw [hd] at w; cases w)))
      | true =>
        refine br_n (by decide) (p_N_declare2 h8 e0 hm hb ?_ (h3 hc (Or.inr hd)) (h0 hc (Or.inr hd)))
        obtain ⟨p, hp, e⟩ := isC_ix (by omega) hd
        exact Or.inr ⟨p, by omega, e⟩
theorem p_L_declare {I : Nat → Int32} {A : Nat → Nat → Int32} {B : Nat → Nat → Int64} {Q : xQ} {n : Nat} {mc : Nat → Nat} {t : Int64} {s b : Int32} (h8 : n ≤ 8) (e0 : I 0 = nI n) (hm : ∀ c, c < n → mc c ≤ 6 ∧ A 6 c = nI (mc c)) (hb : b = 0 ∨ b = 1)
    (h1 : isCN t = false → Q (.inl (some (.int 1))) (HX I A B) 1) (h2 : isCN t = true → ¬ (s = -1 ∨ isC (nI n) s = true) → Q (.inl (some (.int 2))) (HX I A B) 1) (h3 : isCN t = true → (s = -1 ∨ isC (nI n) s = true) → (0 < chg B mc n ∨ 8 ≤ n ∨ ¬ clN (B 2) t n 0 = -1) → Q (.inl (some (.int 3))) (HX I A B) 1) (h0 : isCN t = true → (s = -1 ∨ isC (nI n) s = true) → ¬ (0 < chg B mc n ∨ 8 ≤ n ∨ ¬ clN (B 2) t n 0 = -1) → Q (.inl (some (.int 0))) (HX (va_up I 0 (nI (n + 1))) (plA A n s b) (va_up (plB B n t) 41 (vp_updL (B 41) 0 (nI n).toInt64))) 0) : xRun tb_L_declare 7 [.ref 0, .long t, .int s, .int b, .ref 41] (HX I A B) Q := by
  refine ⟨Nat.le_of_ble_eq_true rfl, ?_⟩
  refine xG.go [8] 30 ?_
  show xG tb_L_declare Q (8, [some (.ref 0), some (.long t), none, some (.int s), some (.int b), some (.ref 41), none], [.int b, .int s, .long t, .ref 0, .int (0 : Int32), .ref 41], (HX I A B), 0)
  refine xG.callH (F := xRun tb_N_declare 5) (a := 0) rfl rfl rfl rfl (p_N_declare h8 e0 hm hb (fun a => h1 a) (fun a c => h2 a c) (fun a c d => h3 a c d) (fun a c d => ?_))
  refine xG.go [8] 30 ?_
  exact ⟨vp_in_nI (n := 0) (by omega) (by omega), h0 a c d⟩
