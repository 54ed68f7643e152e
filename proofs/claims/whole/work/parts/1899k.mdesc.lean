theorem p_M_isD_l {A : Nat → Nat → Int32} {B : Nat → Nat → Int64} {Q : xQ} {t : Int64} {l n : Nat} (h8 : n ≤ 8) (hz : ∀ j, n ≤ j → j ≤ 8 → tch t (nI j) = 0) : ∀ (k i : Nat) (I : Nat → Int32), i ≤ 8 → 9 ≤ i + k → I 15 = nI i → (pP t l k i = 0 → ∀ x, Q (.inl (some (.int 0))) (HX (va_up I 15 x) A B) 0) → (¬ pP t l k i = 0 → xG tb_M_isDescriptor Q (107, [some (.ref 24), some (.long t), none, some (.int (nI l)), some (.int (nI n))], [], HX (va_up I 15 (nI (pP t l k i))) A B, 0)) → xG tb_M_isDescriptor Q (64, [some (.ref 24), some (.long t), none, some (.int (nI l)), some (.int (nI n))], [], (HX I A B), 0)
  | 0, i, I, hi, hk, e, h0, h1 => by omega
  | k + 1, i, I, hi, hk, e, h0, h1 => by
    refine xG.go [1, 7, 27, 38, 64, 78, 89, 107, 123, 151] 60 ?_
    show (((nI n) ≤ (I 15) → xG tb_M_isDescriptor Q (107, [some (.ref 24), some (.long t), none, some (.int (nI l)), some (.int (nI n))], [], (HX (va_up I 15 ((I 15) + (1 : Int32))) A B), 0)) ∧ (¬ (nI n) ≤ (I 15) → xG tb_M_isDescriptor Q (78, [some (.ref 24), some (.long t), none, some (.int (nI l)), some (.int (nI n))], [.int (I 15), .long t], (HX I A B), 0)))
    rw [e, nI_1]
    unfold pP at h0 h1
    rcases Nat.lt_or_ge i n with q | q
    · refine br_n (nI_ge q (by omega)) ?_
      refine xG.call (F := xRun tb_M_charAt 3) rfl rfl (p_M_charAt (by omega) ?_)
      refine xG.go [1, 7, 27, 38, 64, 78, 89, 107, 123, 151] 60 ?_
      show (((tch t (nI i)) = (41 : Int32) → xG tb_M_isDescriptor Q (107, [some (.ref 24), some (.long t), none, some (.int (nI l)), some (.int (nI n))], [], (HX (va_up I 15 ((I 15) + (1 : Int32))) A B), 0)) ∧ (¬ (tch t (nI i)) = (41 : Int32) → xG tb_M_isDescriptor Q (89, [some (.ref 24), some (.long t), none, some (.int (nI l)), some (.int (nI n))], [.int (nI l), .long t, .ref 24], (HX I A B), 0)))
      rw [e, nI_1]
      refine ⟨fun z => ?_, fun z => ?_⟩
      · rw [if_pos z] at h1
        exact h1 (by omega)
      · rw [if_neg z] at h0 h1
        refine xG.callV (F := xRun tb_M_type 5) (a := 24) rfl rfl rfl rfl (p_M_type e hi (fun w => ?_) (fun w x => ?_))
        · rw [if_neg w] at h0 h1
          refine xG.go [1, 7, 27, 38, 64, 78, 89, 107, 123, 151] 60 ?_
          show (((1 : Int32) = 0 → (((0 : Int32) = (0 : Int32) ∨ (0 : Int32) = 1) ∧ Q (.inl (some (.int (0 : Int32)))) (HX (va_up I 15 (nI (pT t l i))) A B) 0)) ∧ (¬ (1 : Int32) = 0 → xG tb_M_isDescriptor Q (64, [some (.ref 24), some (.long t), none, some (.int (nI l)), some (.int (nI n))], [], (HX (va_up I 15 (nI (pT t l i))) A B), 0)))
          refine br_n (by decide) (p_M_isD_l h8 hz k (pT t l i) (va_up I 15 (nI (pT t l i))) (pT_le hi) (by have := (pT_spec hi w).1; omega) rfl (fun p x => ?_) (fun p => ?_))
          · rw [up_up]; exact h0 p x
          · rw [up_up]; exact h1 p
        · rw [if_pos w] at h0
          refine xG.go [1, 7, 27, 38, 64, 78, 89, 107, 123, 151] 60 ?_
          show (((0 : Int32) = 0 → (((0 : Int32) = (0 : Int32) ∨ (0 : Int32) = 1) ∧ Q (.inl (some (.int (0 : Int32)))) (HX (va_up I 15 x) A B) 0)) ∧ (¬ (0 : Int32) = 0 → xG tb_M_isDescriptor Q (64, [some (.ref 24), some (.long t), none, some (.int (nI l)), some (.int (nI n))], [], (HX (va_up I 15 x) A B), 0)))
          exact br_y rfl ⟨Or.inl rfl, h0 rfl x⟩
    · have z0 := hz i q hi
      rw [if_neg (by rw [z0]; decide), if_pos (pT_0 z0)] at h0
      refine br_y (nI_le q (by omega)) ?_
      refine xG.go [1, 7, 27, 38, 64, 78, 89, 123, 151] 60 ?_
      show (((nI (i + 1)) < (nI n) → xG tb_M_isDescriptor Q (123, [some (.ref 24), some (.long t), none, some (.int (nI l)), some (.int (nI n))], [.int (nI (i + 1)), .long t], (HX (va_up I 15 (nI (i + 1))) A B), 0)) ∧ (¬ (nI (i + 1)) < (nI n) → (((0 : Int32) = (0 : Int32) ∨ (0 : Int32) = 1) ∧ Q (.inl (some (.int (0 : Int32)))) (HX (va_up I 15 (nI (i + 1))) A B) 0)))
      exact br_n (nI_nlt (by omega) (by omega)) ⟨Or.inl rfl, h0 rfl _⟩
theorem p_M_isD_e {I : Nat → Int32} {A : Nat → Nat → Int32} {B : Nat → Nat → Int64} {Q : xQ} {t : Int64} {l n r : Nat} (h8 : n ≤ 8) (hz : ∀ j, n ≤ j → j ≤ 8 → tch t (nI j) = 0) (hr : r ≤ 8) (e : I 15 = nI r) (hq : ∀ x, Q (.inl (some (.int (bI (if tch t (nI r) = 86 then decide (r + 1 = n) else decide (¬ pT t l r = 0 ∧ pT t l r = n)))))) (HX (va_up I 15 x) A B) 0) : xG tb_M_isDescriptor Q (107, [some (.ref 24), some (.long t), none, some (.int (nI l)), some (.int (nI n))], [], (HX I A B), 0) := by
  refine xG.go [1, 7, 27, 38, 64, 78, 89, 123, 151] 60 ?_
  show (((I 15) < (nI n) → xG tb_M_isDescriptor Q (123, [some (.ref 24), some (.long t), none, some (.int (nI l)), some (.int (nI n))], [.int (I 15), .long t], (HX I A B), 0)) ∧ (¬ (I 15) < (nI n) → (((0 : Int32) = (0 : Int32) ∨ (0 : Int32) = 1) ∧ Q (.inl (some (.int (0 : Int32)))) (HX I A B) 0)))
  rw [e]
  have hI := hq (I 15)
  rw [up_same] at hI
  rcases Nat.lt_or_ge r n with q | q
  · refine br_y (nI_lt q (by omega)) ?_
    refine xG.call (F := xRun tb_M_charAt 3) rfl rfl (p_M_charAt (by omega) ?_)
    refine xG.go [1, 7, 27, 38, 64, 78, 89, 123, 151] 60 ?_
    show (((tch t (nI r)) = (86 : Int32) → ((((I 15) + (1 : Int32)) = (nI n) → (((1 : Int32) = (0 : Int32) ∨ (1 : Int32) = 1) ∧ Q (.inl (some (.int (1 : Int32)))) (HX I A B) 0)) ∧ (¬ ((I 15) + (1 : Int32)) = (nI n) → (((0 : Int32) = (0 : Int32) ∨ (0 : Int32) = 1) ∧ Q (.inl (some (.int (0 : Int32)))) (HX I A B) 0)))) ∧ (¬ (tch t (nI r)) = (86 : Int32) → xG tb_M_isDescriptor Q (151, [some (.ref 24), some (.long t), none, some (.int (nI l)), some (.int (nI n))], [.int (nI l), .long t, .ref 24], (HX I A B), 0)))
    rw [e, nI_1]
    refine ⟨fun z => ?_, fun z => ?_⟩
    · rw [if_pos z] at hI
      refine ⟨fun w => ?_, fun w => ?_⟩
      · rw [decide_eq_true ((nI_eq (by omega) (by omega)).mp w)] at hI
        exact ⟨Or.inr rfl, hI⟩
      · rw [decide_eq_false (fun p => w ((nI_eq (by omega) (by omega)).mpr p))] at hI
        exact ⟨Or.inl rfl, hI⟩
    · rw [if_neg z] at hq
      refine xG.callV (F := xRun tb_M_type 5) (a := 24) rfl rfl rfl rfl (p_M_type e hr (fun w => ?_) (fun w x => ?_))
      · have hp := pT_le (t := t) (l := l) hr
        refine xG.go [1, 7, 27, 38, 64, 78, 89, 123, 151] 60 ?_
        show (((1 : Int32) = 0 → (((0 : Int32) = (0 : Int32) ∨ (0 : Int32) = 1) ∧ Q (.inl (some (.int (0 : Int32)))) (HX (va_up I 15 (nI (pT t l r))) A B) 0)) ∧ (¬ (1 : Int32) = 0 → (((nI (pT t l r)) = (nI n) → (((1 : Int32) = (0 : Int32) ∨ (1 : Int32) = 1) ∧ Q (.inl (some (.int (1 : Int32)))) (HX (va_up I 15 (nI (pT t l r))) A B) 0)) ∧ (¬ (nI (pT t l r)) = (nI n) → (((0 : Int32) = (0 : Int32) ∨ (0 : Int32) = 1) ∧ Q (.inl (some (.int (0 : Int32)))) (HX (va_up I 15 (nI (pT t l r))) A B) 0)))))
        have hx := hq (nI (pT t l r))
        refine br_n (by decide) ⟨fun v => ?_, fun v => ?_⟩
        · rw [decide_eq_true ⟨w, (nI_eq (by omega) (by omega)).mp v⟩] at hx
          exact ⟨Or.inr rfl, hx⟩
        · rw [decide_eq_false (fun p => v ((nI_eq (by omega) (by omega)).mpr p.2))] at hx
          exact ⟨Or.inl rfl, hx⟩
      · refine xG.go [1, 7, 27, 38, 64, 78, 89, 123, 151] 60 ?_
        show (((0 : Int32) = 0 → (((0 : Int32) = (0 : Int32) ∨ (0 : Int32) = 1) ∧ Q (.inl (some (.int (0 : Int32)))) (HX (va_up I 15 x) A B) 0)) ∧ (¬ (0 : Int32) = 0 → ((x = (nI n) → (((1 : Int32) = (0 : Int32) ∨ (1 : Int32) = 1) ∧ Q (.inl (some (.int (1 : Int32)))) (HX (va_up I 15 x) A B) 0)) ∧ (¬ x = (nI n) → (((0 : Int32) = (0 : Int32) ∨ (0 : Int32) = 1) ∧ Q (.inl (some (.int (0 : Int32)))) (HX (va_up I 15 x) A B) 0)))))
        have hx := hq x
        rw [decide_eq_false (fun p => p.1 w)] at hx
        exact br_y rfl ⟨Or.inl rfl, hx⟩
  · have z0 := hz r q hr
    rw [if_neg (by rw [z0]; decide), decide_eq_false (fun p => p.1 (pT_0 z0))] at hI
    exact br_n (nI_nlt q (by omega)) ⟨Or.inl rfl, hI⟩
theorem p_M_isDescriptor {I : Nat → Int32} {A : Nat → Nat → Int32} {B : Nat → Nat → Int64} {Q : xQ} {t : Int64} {l : Nat} (hl : l ≤ 9) (hq : ∀ x, Q (.inl (some (.int (bI (dOne t l))))) (HX (va_up I 15 x) A B) 0) : xRun tb_M_isDescriptor 5 [.ref 24, .long t, .int (nI l)] (HX I A B) Q := by
  have m8 := mlen_le t
  have hI := hq (I 15)
  rw [up_same] at hI
  refine ⟨Nat.le_of_ble_eq_true rfl, ?_⟩
  refine xG.go [1, 7, 27, 38, 64, 78, 89, 107, 123, 151] 60 ?_
  show xG tb_M_isDescriptor Q (1, [some (.ref 24), some (.long t), none, some (.int (nI l)), none], [.long t], (HX I A B), 0)
  refine xG.call (F := xRun tb_M_length 3) rfl rfl (p_M_length ?_)
  refine xG.go [1, 7, 27, 38, 64, 78, 89, 107, 123, 151] 60 ?_
  show xG tb_M_isDescriptor Q (7, [some (.ref 24), some (.long t), none, some (.int (nI l)), some (.int (nI (mlen t)))], [.long t], (HX I A B), 0)
  refine xG.call (F := xRun tb_M_isText 5) rfl rfl (p_M_isText ?_)
  refine xG.go [1, 7, 27, 38, 64, 78, 89, 107, 123, 151] 60 ?_
  show (((bI (isTx t)) = 0 → (((0 : Int32) = (0 : Int32) ∨ (0 : Int32) = 1) ∧ Q (.inl (some (.int (0 : Int32)))) (HX I A B) 0)) ∧ (¬ (bI (isTx t)) = 0 → (((nI (mlen t)) = 0 → (((0 : Int32) = (0 : Int32) ∨ (0 : Int32) = 1) ∧ Q (.inl (some (.int (0 : Int32)))) (HX I A B) 0)) ∧ (¬ (nI (mlen t)) = 0 → xG tb_M_isDescriptor Q (27, [some (.ref 24), some (.long t), none, some (.int (nI l)), some (.int (nI (mlen t)))], [.int (0 : Int32), .long t], (HX (va_up I 15 (0 : Int32)) A B), 0)))))
  cases hx : isTx t with
  | false =>
    have e : dOne t l = false := by
      cases hd : dOne t l with
      | false => rfl
      | true => have := (dOne_tx hl hd).1; rw [hx] at this; cases this
    rw [e] at hI
    exact br_y rfl ⟨Or.inl rfl, hI⟩
  | true =>
    have em := mlen_tlen t hx
    have hz : ∀ j, mlen t ≤ j → j ≤ 8 → tch t (nI j) = 0 := fun j h1 h2 => by
      rcases Nat.lt_or_ge j 8 with q | q
      · exact (isTx_spec t).mp hx j h1 q
      · exact tch_8 q (by omega)
    refine br_n (by decide) ⟨fun z => ?_, fun z => ?_⟩
    · have e : dOne t l = false := by
        cases hd : dOne t l with
        | false => rfl
        | true =>
          have := (dOne_tx hl hd).2.2
          have := (nI_eq (b := 0) (by omega) (by omega)).mp z
          omega
      rw [e] at hI
      exact ⟨Or.inl rfl, hI⟩
    · refine xG.call (F := xRun tb_M_charAt 3) rfl rfl (p_M_charAt (x := 0) (by omega) ?_)
      refine xG.go [1, 7, 27, 38, 64, 78, 89, 107, 123, 151] 60 ?_
      show (((tch t (nI 0)) = (40 : Int32) → xG tb_M_isDescriptor Q (64, [some (.ref 24), some (.long t), none, some (.int (nI l)), some (.int (nI (mlen t)))], [], (HX (va_up I 15 (1 : Int32)) A B), 0)) ∧ (¬ (tch t (nI 0)) = (40 : Int32) → xG tb_M_isDescriptor Q (38, [some (.ref 24), some (.long t), none, some (.int (nI l)), some (.int (nI (mlen t)))], [.int (nI l), .long t, .ref 24], (HX (va_up I 15 (0 : Int32)) A B), 0)))
      unfold dOne at hq
      refine ⟨fun w => ?_, fun w => ?_⟩
      · rw [if_pos w] at hq
        refine p_M_isD_l m8 hz 8 1 (va_up (va_up I 15 0) 15 1) (by omega) (by omega) rfl (fun p x => ?_) (fun p => ?_)
        · rw [if_pos p] at hq
          rw [up_up, up_up]
          exact hq x
        · rw [if_neg p] at hq
          refine p_M_isD_e m8 hz (pP_spec 8 1 (by omega) p).2.1 rfl (fun x => ?_)
          rw [up_up, up_up, up_up, em]
          exact hq x
      · rw [if_neg w] at hq
        refine xG.callV (F := xRun tb_M_type 5) (a := 24) rfl rfl rfl rfl (p_M_type (I := va_up I 15 0) (i := 0) rfl (by omega) (fun w => ?_) (fun w x => ?_))
        · have hp := pT_le (t := t) (l := l) (i := 0) (by omega)
          rw [up_up]
          refine xG.go [1, 7, 27, 38, 64, 78, 89, 123, 151] 60 ?_
          show (((1 : Int32) = 0 → (((0 : Int32) = (0 : Int32) ∨ (0 : Int32) = 1) ∧ Q (.inl (some (.int (0 : Int32)))) (HX (va_up I 15 (nI (pT t l 0))) A B) 0)) ∧ (¬ (1 : Int32) = 0 → (((nI (pT t l 0)) = (nI (mlen t)) → (((1 : Int32) = (0 : Int32) ∨ (1 : Int32) = 1) ∧ Q (.inl (some (.int (1 : Int32)))) (HX (va_up I 15 (nI (pT t l 0))) A B) 0)) ∧ (¬ (nI (pT t l 0)) = (nI (mlen t)) → (((0 : Int32) = (0 : Int32) ∨ (0 : Int32) = 1) ∧ Q (.inl (some (.int (0 : Int32)))) (HX (va_up I 15 (nI (pT t l 0))) A B) 0)))))
          have hx := hq (nI (pT t l 0))
          refine br_n (by decide) ⟨fun v => ?_, fun v => ?_⟩
          · rw [decide_eq_true ⟨w, em ▸ (nI_eq (by omega) (by omega)).mp v⟩] at hx
            exact ⟨Or.inr rfl, hx⟩
          · rw [decide_eq_false (fun p => v ((nI_eq (by omega) (by omega)).mpr (em ▸ p.2)))] at hx
            exact ⟨Or.inl rfl, hx⟩
        · rw [up_up]
          refine xG.go [1, 7, 27, 38, 64, 78, 89, 123, 151] 60 ?_
          show (((0 : Int32) = 0 → (((0 : Int32) = (0 : Int32) ∨ (0 : Int32) = 1) ∧ Q (.inl (some (.int (0 : Int32)))) (HX (va_up I 15 x) A B) 0)) ∧ (¬ (0 : Int32) = 0 → ((x = (nI (mlen t)) → (((1 : Int32) = (0 : Int32) ∨ (1 : Int32) = 1) ∧ Q (.inl (some (.int (1 : Int32)))) (HX (va_up I 15 x) A B) 0)) ∧ (¬ x = (nI (mlen t)) → (((0 : Int32) = (0 : Int32) ∨ (0 : Int32) = 1) ∧ Q (.inl (some (.int (0 : Int32)))) (HX (va_up I 15 x) A B) 0)))))
          have hx := hq x
          rw [decide_eq_false (fun p => p.1 w)] at hx
          exact br_y rfl ⟨Or.inl rfl, hx⟩
