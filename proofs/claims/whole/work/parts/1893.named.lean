theorem p_S_isMoving {I : Nat → Int32} {A : Nat → Nat → Int32} {B : Nat → Nat → Int64} {Q : xQ} {n : Nat} {mc : Nat → Nat} (h8 : n ≤ 8) (e0 : I 0 = nI n) (hm : ∀ c, c < n → mc c ≤ 6 ∧ A 6 c = nI (mc c)) (hq : Q (.inl (some (.int (bI (decide (0 < chg B mc n)))))) (HX I A B) 0) : xRun tb_S_isMoving 1 [.ref 1] (HX I A B) Q := by
  refine ⟨Nat.le_of_ble_eq_true rfl, ?_⟩
  refine xG.go [1] 30 ?_
  show xG tb_S_isMoving Q (1, [some (.ref 1)], [.ref 1], (HX I A B), 0)
  refine xG.callV (F := xRun tb_S_changedNames 3) (a := 1) rfl rfl rfl rfl (p_S_changedNames h8 e0 hm ?_)
  refine xG.go [1] 30 ?_
  show (((nI (chg B mc n)) ≤ 0 → (((0 : Int32) = (0 : Int32) ∨ (0 : Int32) = 1) ∧ Q (.inl (some (.int (0 : Int32)))) (HX I A B) 0)) ∧ (¬ (nI (chg B mc n)) ≤ 0 → (((1 : Int32) = (0 : Int32) ∨ (1 : Int32) = 1) ∧ Q (.inl (some (.int (1 : Int32)))) (HX I A B) 0)))
  have hb : chg B mc n < 2 ^ 31 := by
    have q1 := cntF_le (dif (B 3) (B 2)) n 0
    have q2 := cntF_le (fun m => numB mc n m && dif (B 9) (B 8) m) (8 * n) 0
    unfold chg
    omega
  by_cases w : 0 < chg B mc n
  · rw [decide_eq_true w] at hq
    exact br_n (nI_nle w hb) ⟨Or.inr rfl, hq⟩
  · rw [decide_eq_false w] at hq
    exact br_y (nI_le (b := 0) (by omega) (by omega)) ⟨Or.inl rfl, hq⟩
theorem p_S_isFull {I : Nat → Int32} {A : Nat → Nat → Int32} {B : Nat → Nat → Int64} {Q : xQ} {n : Nat} (h8 : n ≤ 8) (e0 : I 0 = nI n) (hq : Q (.inl (some (.int (bI (decide (8 ≤ n)))))) (HX I A B) 0) : xRun tb_S_isFull 1 [.ref 1] (HX I A B) Q := by
  refine ⟨Nat.le_of_ble_eq_true rfl, ?_⟩
  refine xG.go [] 30 ?_
  show (((I 0) < (8 : Int32) → (((0 : Int32) = (0 : Int32) ∨ (0 : Int32) = 1) ∧ Q (.inl (some (.int (0 : Int32)))) (HX I A B) 0)) ∧ (¬ (I 0) < (8 : Int32) → (((1 : Int32) = (0 : Int32) ∨ (1 : Int32) = 1) ∧ Q (.inl (some (.int (1 : Int32)))) (HX I A B) 0)))
  rw [e0]
  by_cases w : 8 ≤ n
  · rw [decide_eq_true w] at hq
    exact br_n (nI_nlt (b := 8) w (by omega)) ⟨Or.inr rfl, hq⟩
  · rw [decide_eq_false w] at hq
    exact br_y (nI_lt (b := 8) (by omega) (by omega)) ⟨Or.inl rfl, hq⟩
/-- the first of c, .., c + k - 1 with this name, or -1 -/
def clN (f : Nat → Int64) (t : Int64) : Nat → Nat → Int32
  | 0, _ => -1
  | k + 1, c => if f c = t then nI c else clN f t k (c + 1)
/-- the last of them, or r -/
def lsN (f : Nat → Int64) (t : Int64) : Nat → Nat → Int32 → Int32
  | 0, _, r => r
  | k + 1, c, r => lsN f t k (c + 1) (if f c = t then nI c else r)
theorem p_S_classNamed_l {I : Nat → Int32} {A : Nat → Nat → Int32} {B : Nat → Nat → Int64} {Q : xQ} {t : Int64} {m : Nat} (hm : m ≤ 8) : ∀ (k c : Nat), c + k = m → Q (.inl (some (.int (clN (B 2) t k c)))) (HX I A B) 0 → xG tb_S_classNamed Q (3, [some (.ref 1), some (.long t), none, some (.int (nI m)), some (.int (nI c))], [], (HX I A B), 0)
  | 0, c, h, hq => by
    refine xG.go [3] 30 ?_
    show (((nI m) ≤ (nI c) → Q (.inl (some (.int (-1 : Int32)))) (HX I A B) 0) ∧ (¬ (nI m) ≤ (nI c) → (((8 : Int32) ≤ (nI c) → Q (.inl (some (.int (-1 : Int32)))) (HX I A B) 0) ∧ (¬ (8 : Int32) ≤ (nI c) → (vp_in (nI c) 8 ∧ (((lg_cmp ((B 2) (nI c).toNatClampNeg) t) = 0 → Q (.inl (some (.int (nI c)))) (HX I A B) 0) ∧ (¬ (lg_cmp ((B 2) (nI c).toNatClampNeg) t) = 0 → xG tb_S_classNamed Q (3, [some (.ref 1), some (.long t), none, some (.int (nI m)), some (.int ((nI c) + (1 : Int32)))], [], (HX I A B), 0))))))))
    exact br_y (nI_le (by omega) (by omega)) hq
  | k + 1, c, h, hq => by
    refine xG.go [3] 30 ?_
    show (((nI m) ≤ (nI c) → Q (.inl (some (.int (-1 : Int32)))) (HX I A B) 0) ∧ (¬ (nI m) ≤ (nI c) → (((8 : Int32) ≤ (nI c) → Q (.inl (some (.int (-1 : Int32)))) (HX I A B) 0) ∧ (¬ (8 : Int32) ≤ (nI c) → (vp_in (nI c) 8 ∧ (((lg_cmp ((B 2) (nI c).toNatClampNeg) t) = 0 → Q (.inl (some (.int (nI c)))) (HX I A B) 0) ∧ (¬ (lg_cmp ((B 2) (nI c).toNatClampNeg) t) = 0 → xG tb_S_classNamed Q (3, [some (.ref 1), some (.long t), none, some (.int (nI m)), some (.int ((nI c) + (1 : Int32)))], [], (HX I A B), 0))))))))
    refine br_n (nI_ge (by omega) (by omega)) (br_n (nI_ge (b := 8) (by omega) (by omega)) ⟨vp_in_nI (by omega) (by omega), ?_⟩)
    rw [nI_clamp (by omega), nI_1]
    unfold clN at hq
    by_cases w : B 2 c = t
    · rw [if_pos w] at hq
      exact br_y ((lg_cmp_eq _ _).mpr w) hq
    · rw [if_neg w] at hq
      exact br_n (fun z => w ((lg_cmp_eq _ _).mp z)) (p_S_classNamed_l hm k (c + 1) (by omega) hq)
theorem p_S_classNamed {I : Nat → Int32} {A : Nat → Nat → Int32} {B : Nat → Nat → Int64} {Q : xQ} {t : Int64} {m : Nat} (hm : m ≤ 8) (hq : Q (.inl (some (.int (clN (B 2) t m 0)))) (HX I A B) 0) : xRun tb_S_classNamed 5 [.ref 1, .long t, .int (nI m)] (HX I A B) Q := by
  refine ⟨Nat.le_of_ble_eq_true rfl, ?_⟩
  refine xG.go [3] 30 ?_
  show xG tb_S_classNamed Q (3, [some (.ref 1), some (.long t), none, some (.int (nI m)), some (.int (nI 0))], [], (HX I A B), 0)
  exact p_S_classNamed_l hm m 0 (Nat.zero_add m) hq
theorem p_M_named_l {I : Nat → Int32} {A : Nat → Nat → Int32} {B : Nat → Nat → Int64} {Q : xQ} {t : Int64} {n : Nat} (h8 : n ≤ 8) (e0 : I 10 = nI n) : ∀ (k c : Nat) (r : Int32), c + k = n → Q (.inl (some (.int (lsN (B 25) t k c r)))) (HX I A B) 0 → xG tb_M_named Q (5, [some (.ref 24), some (.long t), none, some (.int r), some (.int (nI c))], [], (HX I A B), 0)
  | 0, c, r, h, hq => by
    refine xG.go [5] 30 ?_
    show (((I 10) ≤ (nI c) → Q (.inl (some (.int r))) (HX I A B) 0) ∧ (¬ (I 10) ≤ (nI c) → (vp_in (nI c) 8 ∧ (((lg_cmp ((B 25) (nI c).toNatClampNeg) t) = 0 → xG tb_M_named Q (5, [some (.ref 24), some (.long t), none, some (.int (nI c)), some (.int ((nI c) + (1 : Int32)))], [], (HX I A B), 0)) ∧ (¬ (lg_cmp ((B 25) (nI c).toNatClampNeg) t) = 0 → xG tb_M_named Q (5, [some (.ref 24), some (.long t), none, some (.int r), some (.int ((nI c) + (1 : Int32)))], [], (HX I A B), 0))))))
    exact br_y (by rw [e0]; exact nI_le (by omega) (by omega)) hq
  | k + 1, c, r, h, hq => by
    refine xG.go [5] 30 ?_
    show (((I 10) ≤ (nI c) → Q (.inl (some (.int r))) (HX I A B) 0) ∧ (¬ (I 10) ≤ (nI c) → (vp_in (nI c) 8 ∧ (((lg_cmp ((B 25) (nI c).toNatClampNeg) t) = 0 → xG tb_M_named Q (5, [some (.ref 24), some (.long t), none, some (.int (nI c)), some (.int ((nI c) + (1 : Int32)))], [], (HX I A B), 0)) ∧ (¬ (lg_cmp ((B 25) (nI c).toNatClampNeg) t) = 0 → xG tb_M_named Q (5, [some (.ref 24), some (.long t), none, some (.int r), some (.int ((nI c) + (1 : Int32)))], [], (HX I A B), 0))))))
    refine br_n (by rw [e0]; exact nI_ge (by omega) (by omega)) ⟨vp_in_nI (by omega) (by omega), ?_⟩
    rw [nI_clamp (by omega), nI_1]
    unfold lsN at hq
    by_cases w : B 25 c = t
    · rw [if_pos w] at hq
      exact br_y ((lg_cmp_eq _ _).mpr w) (p_M_named_l h8 e0 k (c + 1) _ (by omega) hq)
    · rw [if_neg w] at hq
      exact br_n (fun z => w ((lg_cmp_eq _ _).mp z)) (p_M_named_l h8 e0 k (c + 1) _ (by omega) hq)
theorem p_M_named {I : Nat → Int32} {A : Nat → Nat → Int32} {B : Nat → Nat → Int64} {Q : xQ} {t : Int64} {n : Nat} (h8 : n ≤ 8) (e0 : I 10 = nI n) (hq : Q (.inl (some (.int (lsN (B 25) t n 0 (-1))))) (HX I A B) 0) : xRun tb_M_named 5 [.ref 24, .long t] (HX I A B) Q := by
  refine ⟨Nat.le_of_ble_eq_true rfl, ?_⟩
  refine xG.go [5] 30 ?_
  show xG tb_M_named Q (5, [some (.ref 24), some (.long t), none, some (.int (-1)), some (.int (nI 0))], [], (HX I A B), 0)
  exact p_M_named_l h8 e0 n 0 _ (Nat.zero_add n) hq
theorem clN_no {f : Nat → Int64} {t : Int64} : ∀ (k c : Nat), (∀ j, c ≤ j → j < c + k → ¬ f j = t) → clN f t k c = -1
  | 0, c, h => rfl
  | k + 1, c, h => by
    unfold clN
    rw [if_neg (h c (by omega) (by omega))]
    exact clN_no k (c + 1) (fun j h1 h2 => h j (by omega) (by omega))
theorem lsN_no {f : Nat → Int64} {t : Int64} : ∀ (k c : Nat) (r : Int32), (∀ j, c ≤ j → j < c + k → ¬ f j = t) → lsN f t k c r = r
  | 0, c, r, h => rfl
  | k + 1, c, r, h => by
    unfold lsN
    rw [if_neg (h c (by omega) (by omega))]
    exact lsN_no k (c + 1) r (fun j h1 h2 => h j (by omega) (by omega))
theorem clN_yes {f : Nat → Int64} {t : Int64} {i : Nat} (hi : f i = t) : ∀ (k c : Nat), c ≤ i → i < c + k → (∀ j, c ≤ j → j < c + k → f j = t → j = i) → clN f t k c = nI i
  | 0, c, h1, h2, h => by omega
  | k + 1, c, h1, h2, h => by
    unfold clN
    by_cases w : f c = t
    · rw [if_pos w, h c (by omega) (by omega) w]
    · rw [if_neg w]
      have : c ≠ i := fun z => w (z ▸ hi)
      exact clN_yes hi k (c + 1) (by omega) (by omega) (fun j h1 h2 => h j (by omega) (by omega))
theorem lsN_yes {f : Nat → Int64} {t : Int64} {i : Nat} (hi : f i = t) : ∀ (k c : Nat) (r : Int32), c ≤ i → i < c + k → (∀ j, c ≤ j → j < c + k → f j = t → j = i) → lsN f t k c r = nI i
  | 0, c, r, h1, h2, h => by omega
  | k + 1, c, r, h1, h2, h => by
    unfold lsN
    by_cases w : f c = t
    · have e := h c (by omega) (by omega) w
      subst e
      rw [if_pos w]
      exact lsN_no k (c + 1) _ (fun j h3 h4 z => by have := h j (by omega) (by omega) z; omega)
    · rw [if_neg w]
      have : c ≠ i := fun z => w (z ▸ hi)
      exact lsN_yes hi k (c + 1) r (by omega) (by omega) (fun j h1 h2 => h j (by omega) (by omega))
