/-- how many of c, .., c + k - 1 are such -/
def cntF (p : Nat → Bool) : Nat → Nat → Nat
  | _, 0 => 0
  | c, k + 1 => (if p c then 1 else 0) + cntF p (c + 1) k
theorem cntF_add (p : Nat → Bool) : ∀ (a c b : Nat), cntF p c (a + b) = cntF p c a + cntF p (c + a) b
  | 0, c, b => by rw [Nat.zero_add]; show _ = 0 + _; rw [Nat.zero_add]; rfl
  | a + 1, c, b => by
    rw [Nat.succ_add]
    show (if p c then 1 else 0) + cntF p (c + 1) (a + b) = (if p c then 1 else 0) + cntF p (c + 1) a + cntF p (c + (a + 1)) b
    have e : c + 1 + a = c + (a + 1) := by omega
    rw [cntF_add p a (c + 1) b, e, Nat.add_assoc]
theorem cntF_no (p : Nat → Bool) : ∀ (k c : Nat), (∀ j, c ≤ j → j < c + k → p j = false) → cntF p c k = 0
  | 0, _, _ => rfl
  | k + 1, c, h => by
    show (if p c then 1 else 0) + cntF p (c + 1) k = 0
    rw [h c (by omega) (by omega), cntF_no p k (c + 1) (fun j h1 h2 => h j (by omega) (by omega))]
    rfl
theorem cntF_eq (p q : Nat → Bool) : ∀ (k c : Nat), (∀ j, c ≤ j → j < c + k → p j = q j) → cntF p c k = cntF q c k
  | 0, _, _ => rfl
  | k + 1, c, h => by
    show (if p c then 1 else 0) + cntF p (c + 1) k = (if q c then 1 else 0) + cntF q (c + 1) k
    rw [h c (by omega) (by omega), cntF_eq p q k (c + 1) (fun j h1 h2 => h j (by omega) (by omega))]
theorem cntF_le (p : Nat → Bool) : ∀ (k c : Nat), cntF p c k ≤ k
  | 0, _ => Nat.le_refl 0
  | k + 1, c => by
    have := cntF_le p k (c + 1)
    show (if p c then 1 else 0) + cntF p (c + 1) k ≤ k + 1
    split <;> omega
def dif (f g : Nat → Int64) (c : Nat) : Bool := decide (¬ f c = g c)
theorem dif_t {f g : Nat → Int64} {c : Nat} (h : ¬ f c = g c) : dif f g c = true := decide_eq_true h
theorem dif_f {f g : Nat → Int64} {c : Nat} (h : f c = g c) : dif f g c = false := decide_eq_false (fun w => w h)
/-- is m the number of a member -/
def numB (mc : Nat → Nat) (n m : Nat) : Bool := decide (m / 8 < n) && decide (m % 8 < mc (m / 8))
theorem isC_nI {n c : Nat} (hn : n < 2 ^ 31) (hc : c < 2 ^ 31) : isC (nI n) (nI c) = decide (c < n) := by
  unfold isC
  rw [if_neg (nI_pos hc)]
  by_cases w : c < n
  · rw [if_neg (nI_ge w hn), decide_eq_true w]
  · rw [if_pos (nI_le (by omega) hc), decide_eq_false w]
theorem p_S_classOf {h : xH} {Q : xQ} {m : Nat} (hm : m < 2 ^ 31) (hq : Q (.inl (some (.int (nI (m / 8))))) h 0) : xRun tb_S_classOf 1 [.int (nI m)] h Q := by
  refine ⟨Nat.le_of_ble_eq_true rfl, xG.go [] 30 ?_⟩
  show (¬ (8 : Int32) = 0 ∧ Q (.inl (some (.int ((nI m) / (8 : Int32))))) h 0)
  refine ⟨by decide, ?_⟩
  have e : nI m / (8 : Int32) = nI (m / 8) := pk_div (d := 8) hm (by omega) (by omega)
  rw [e]
  exact hq
theorem p_S_numbersEnd {I : Nat → Int32} {A : Nat → Nat → Int32} {B : Nat → Nat → Int64} {Q : xQ} {n : Nat} (e0 : I 0 = nI n) (hq : Q (.inl (some (.int (nI (8 * n))))) (HX I A B) 0) : xRun tb_S_numbersEnd 1 [.ref 1] (HX I A B) Q := by
  refine ⟨Nat.le_of_ble_eq_true rfl, xG.go [] 30 ?_⟩
  show Q (.inl (some (.int ((8 : Int32) * (I 0))))) (HX I A B) 0
  have e : (8 : Int32) * I 0 = nI (8 * n) := by rw [e0]; exact (Int32.ofNat_mul 8 n).symm
  rw [e]
  exact hq
theorem p_S_isMemberNumber {I : Nat → Int32} {A : Nat → Nat → Int32} {B : Nat → Nat → Int64} {Q : xQ} {n m : Nat} {mc : Nat → Nat} (h8 : n ≤ 8) (e0 : I 0 = nI n) (hm : ∀ c, c < n → mc c ≤ 6 ∧ A 6 c = nI (mc c)) (hl : m < 2 ^ 31) (hq : Q (.inl (some (.int (bI (numB mc n m))))) (HX I A B) 0) : xRun tb_S_isMemberNumber 2 [.ref 1, .int (nI m)] (HX I A B) Q := by
  refine ⟨Nat.le_of_ble_eq_true rfl, ?_⟩
  refine xG.go [6, 13] 30 ?_
  show (((nI m) < 0 → (((0 : Int32) = (0 : Int32) ∨ (0 : Int32) = 1) ∧ Q (.inl (some (.int (0 : Int32)))) (HX I A B) 0)) ∧ (¬ (nI m) < 0 → xG tb_S_isMemberNumber Q (6, [some (.ref 1), some (.int (nI m))], [.int (nI m), .ref 1], (HX I A B), 0)))
  refine br_n (nI_pos hl) ?_
  refine xG.call (F := xRun tb_S_classOf 1) rfl rfl (p_S_classOf hl ?_)
  refine xG.go [6, 13] 30 ?_
  show (¬ (8 : Int32) = 0 ∧ xG tb_S_isMemberNumber Q (13, [some (.ref 1), some (.int (nI m))], [.int ((nI m) - (nI m) / (8 : Int32) * (8 : Int32)), .int (nI (m / 8)), .ref 1], (HX I A B), 0))
  refine ⟨by decide, ?_⟩
  have e : nI m - nI m / (8 : Int32) * (8 : Int32) = nI (m % 8) := pk_rem (d := 8) hl (by omega) (by omega)
  rw [e]
  refine xG.callV (F := xRun tb_S_isMember 3) (a := 1) rfl rfl rfl rfl (p_S_isMember h8 e0 ?_)
  have e2 : isMb (I 0) (A 6) (nI (m / 8)) (nI (m % 8)) = numB mc n m := by
    unfold isMb numB
    rw [e0, isC_nI (by omega) (by omega), nI_clamp (by omega)]
    by_cases w : m / 8 < n
    · obtain ⟨q1, q2⟩ := hm _ w
      rw [q2, isC_nI (by omega) (by omega)]
    · rw [decide_eq_false w, Bool.false_and, Bool.false_and]
  rw [e2]
  refine xG.go [6, 13] 30 ?_
  show (((bI (numB mc n m)) = 0 → (((0 : Int32) = (0 : Int32) ∨ (0 : Int32) = 1) ∧ Q (.inl (some (.int (0 : Int32)))) (HX I A B) 0)) ∧ (¬ (bI (numB mc n m)) = 0 → (((1 : Int32) = (0 : Int32) ∨ (1 : Int32) = 1) ∧ Q (.inl (some (.int (1 : Int32)))) (HX I A B) 0)))
  cases h : numB mc n m with
  | true => rw [h] at hq; exact br_n (by decide) ⟨Or.inr rfl, hq⟩
  | false => rw [h] at hq; exact br_y rfl ⟨Or.inl rfl, hq⟩
theorem p_S_changed1 {I : Nat → Int32} {A : Nat → Nat → Int32} {B : Nat → Nat → Int64} {Q : xQ} : ∀ (k c x : Nat), I 0 = nI (c + k) → c + k ≤ 8 → xG tb_S_changedNames Q (37, [some (.ref 1), some (.int (nI (x + cntF (dif (B 3) (B 2)) c k))), some (.int (nI (c + k)))], [], (HX I A B), 0) → xG tb_S_changedNames Q (4, [some (.ref 1), some (.int (nI x)), some (.int (nI c))], [], (HX I A B), 0)
  | 0, c, x, e, h, hk => by
    refine xG.go [4, 37, 39, 41, 49] 30 ?_
    show (((I 0) ≤ (nI c) → xG tb_S_changedNames Q (37, [some (.ref 1), some (.int (nI x)), some (.int (nI c))], [], (HX I A B), 0)) ∧ (¬ (I 0) ≤ (nI c) → (vp_in (nI c) 8 ∧ (vp_in (nI c) 8 ∧ (((lg_cmp ((B 3) (nI c).toNatClampNeg) ((B 2) (nI c).toNatClampNeg)) = 0 → xG tb_S_changedNames Q (4, [some (.ref 1), some (.int (nI x)), some (.int ((nI c) + (1 : Int32)))], [], (HX I A B), 0)) ∧ (¬ (lg_cmp ((B 3) (nI c).toNatClampNeg) ((B 2) (nI c).toNatClampNeg)) = 0 → xG tb_S_changedNames Q (4, [some (.ref 1), some (.int ((nI x) + (1 : Int32))), some (.int ((nI c) + (1 : Int32)))], [], (HX I A B), 0)))))))
    exact br_y (by rw [e]; exact nI_le (Nat.le_refl c) (by omega)) hk
  | k + 1, c, x, e, h, hk => by
    refine xG.go [4, 37, 39, 41, 49] 30 ?_
    show (((I 0) ≤ (nI c) → xG tb_S_changedNames Q (37, [some (.ref 1), some (.int (nI x)), some (.int (nI c))], [], (HX I A B), 0)) ∧ (¬ (I 0) ≤ (nI c) → (vp_in (nI c) 8 ∧ (vp_in (nI c) 8 ∧ (((lg_cmp ((B 3) (nI c).toNatClampNeg) ((B 2) (nI c).toNatClampNeg)) = 0 → xG tb_S_changedNames Q (4, [some (.ref 1), some (.int (nI x)), some (.int ((nI c) + (1 : Int32)))], [], (HX I A B), 0)) ∧ (¬ (lg_cmp ((B 3) (nI c).toNatClampNeg) ((B 2) (nI c).toNatClampNeg)) = 0 → xG tb_S_changedNames Q (4, [some (.ref 1), some (.int ((nI x) + (1 : Int32))), some (.int ((nI c) + (1 : Int32)))], [], (HX I A B), 0)))))))
    have hin : vp_in (nI c) 8 := vp_in_nI (by omega) (by omega)
    refine br_n (by rw [e]; exact nI_ge (by omega) (by omega)) ⟨hin, hin, ?_⟩
    rw [nI_clamp (by omega), nI_1, nI_1]
    have ih : ∀ y, y = x + (if dif (B 3) (B 2) c then 1 else 0) → xG tb_S_changedNames Q (4, [some (.ref 1), some (.int (nI y)), some (.int (nI (c + 1)))], [], (HX I A B), 0) := by
      rintro y rfl
      refine p_S_changed1 k (c + 1) _ (by rw [e]; congr 1; omega) (by omega) ?_
      have e1 : x + (if dif (B 3) (B 2) c then 1 else 0) + cntF (dif (B 3) (B 2)) (c + 1) k = x + cntF (dif (B 3) (B 2)) c (k + 1) := by rw [Nat.add_assoc]; rfl
      have e2 : c + 1 + k = c + (k + 1) := by omega
      rw [e1, e2]
      exact hk
    refine ⟨fun z => ih x ?_, fun z => ih (x + 1) ?_⟩
    · rw [dif_f ((lg_cmp_eq _ _).mp z)]; rfl
    · rw [dif_t (fun w => z ((lg_cmp_eq _ _).mpr w))]; rfl
theorem p_S_changed2 {I : Nat → Int32} {A : Nat → Nat → Int32} {B : Nat → Nat → Int64} {Q : xQ} {n : Nat} {mc : Nat → Nat} (h8 : n ≤ 8) (e0 : I 0 = nI n) (hm : ∀ c, c < n → mc c ≤ 6 ∧ A 6 c = nI (mc c)) : ∀ (k c x : Nat), c + k = 8 * n → Q (.inl (some (.int (nI (x + cntF (fun m => numB mc n m && dif (B 9) (B 8) m) c k))))) (HX I A B) 0 → xG tb_S_changedNames Q (39, [some (.ref 1), some (.int (nI x)), some (.int (nI c))], [], (HX I A B), 0)
  | 0, c, x, h, hk => by
    refine xG.go [41, 49] 30 ?_
    show xG tb_S_changedNames Q (41, [some (.ref 1), some (.int (nI x)), some (.int (nI c))], [.ref 1, .int (nI c)], (HX I A B), 0)
    refine xG.callV (F := xRun tb_S_numbersEnd 1) (a := 1) rfl rfl rfl rfl (p_S_numbersEnd e0 ?_)
    refine xG.go [4, 37, 39, 41, 49] 30 ?_
    show (((nI (8 * n)) ≤ (nI c) → Q (.inl (some (.int (nI x)))) (HX I A B) 0) ∧ (¬ (nI (8 * n)) ≤ (nI c) → xG tb_S_changedNames Q (49, [some (.ref 1), some (.int (nI x)), some (.int (nI c))], [.int (nI c), .ref 1], (HX I A B), 0)))
    exact br_y (nI_le (by omega) (by omega)) hk
  | k + 1, c, x, h, hk => by
    refine xG.go [41, 49] 30 ?_
    show xG tb_S_changedNames Q (41, [some (.ref 1), some (.int (nI x)), some (.int (nI c))], [.ref 1, .int (nI c)], (HX I A B), 0)
    refine xG.callV (F := xRun tb_S_numbersEnd 1) (a := 1) rfl rfl rfl rfl (p_S_numbersEnd e0 ?_)
    refine xG.go [4, 37, 39, 41, 49] 30 ?_
    show (((nI (8 * n)) ≤ (nI c) → Q (.inl (some (.int (nI x)))) (HX I A B) 0) ∧ (¬ (nI (8 * n)) ≤ (nI c) → xG tb_S_changedNames Q (49, [some (.ref 1), some (.int (nI x)), some (.int (nI c))], [.int (nI c), .ref 1], (HX I A B), 0)))
    refine br_n (nI_ge (by omega) (by omega)) ?_
    refine xG.callV (F := xRun tb_S_isMemberNumber 2) (a := 1) rfl rfl rfl rfl (p_S_isMemberNumber h8 e0 hm (by omega) ?_)
    refine xG.go [4, 37, 39, 41, 49] 30 ?_
    show (((bI (numB mc n c)) = 0 → xG tb_S_changedNames Q (39, [some (.ref 1), some (.int (nI x)), some (.int ((nI c) + (1 : Int32)))], [], (HX I A B), 0)) ∧ (¬ (bI (numB mc n c)) = 0 → (vp_in (nI c) 64 ∧ (vp_in (nI c) 64 ∧ (((lg_cmp ((B 9) (nI c).toNatClampNeg) ((B 8) (nI c).toNatClampNeg)) = 0 → xG tb_S_changedNames Q (39, [some (.ref 1), some (.int (nI x)), some (.int ((nI c) + (1 : Int32)))], [], (HX I A B), 0)) ∧ (¬ (lg_cmp ((B 9) (nI c).toNatClampNeg) ((B 8) (nI c).toNatClampNeg)) = 0 → xG tb_S_changedNames Q (39, [some (.ref 1), some (.int ((nI x) + (1 : Int32))), some (.int ((nI c) + (1 : Int32)))], [], (HX I A B), 0)))))))
    have hin : vp_in (nI c) 64 := vp_in_nI (by omega) (by omega)
    rw [nI_clamp (by omega), nI_1, nI_1]
    have ih : ∀ y, y = x + (if (numB mc n c && dif (B 9) (B 8) c) then 1 else 0) → xG tb_S_changedNames Q (39, [some (.ref 1), some (.int (nI y)), some (.int (nI (c + 1)))], [], (HX I A B), 0) := by
      rintro y rfl
      refine p_S_changed2 h8 e0 hm k (c + 1) _ (by omega) ?_
      have e1 : x + (if (numB mc n c && dif (B 9) (B 8) c) then 1 else 0) + cntF (fun m => numB mc n m && dif (B 9) (B 8) m) (c + 1) k = x + cntF (fun m => numB mc n m && dif (B 9) (B 8) m) c (k + 1) := by rw [Nat.add_assoc]; rfl
      rw [e1]
      exact hk
    cases hb : numB mc n c with
    | false => exact br_y rfl (ih x (by rw [hb]; rfl))
    | true =>
      refine br_n (by decide) ⟨hin, hin, fun z => ih x ?_, fun z => ih (x + 1) ?_⟩
      · rw [hb, dif_f ((lg_cmp_eq _ _).mp z)]; rfl
      · rw [hb, dif_t (fun w => z ((lg_cmp_eq _ _).mpr w))]; rfl
/-- how many names of the class change -/
def chg (B : Nat → Nat → Int64) (mc : Nat → Nat) (n : Nat) : Nat := cntF (dif (B 3) (B 2)) 0 n + cntF (fun m => numB mc n m && dif (B 9) (B 8) m) 0 (8 * n)
theorem p_S_changedNames {I : Nat → Int32} {A : Nat → Nat → Int32} {B : Nat → Nat → Int64} {Q : xQ} {n : Nat} {mc : Nat → Nat} (h8 : n ≤ 8) (e0 : I 0 = nI n) (hm : ∀ c, c < n → mc c ≤ 6 ∧ A 6 c = nI (mc c)) (hq : Q (.inl (some (.int (nI (chg B mc n))))) (HX I A B) 0) : xRun tb_S_changedNames 3 [.ref 1] (HX I A B) Q := by
  refine ⟨Nat.le_of_ble_eq_true rfl, ?_⟩
  refine xG.go [4, 37, 39, 41, 49] 30 ?_
  show xG tb_S_changedNames Q (4, [some (.ref 1), some (.int (nI 0)), some (.int (nI 0))], [], (HX I A B), 0)
  refine p_S_changed1 n 0 0 (by rw [e0, Nat.zero_add]) (by omega) ?_
  rw [Nat.zero_add, Nat.zero_add]
  refine xG.go [4, 39, 41, 49] 30 ?_
  show xG tb_S_changedNames Q (39, [some (.ref 1), some (.int (nI (cntF (dif (B 3) (B 2)) 0 n))), some (.int (nI 0))], [], (HX I A B), 0)
  exact p_S_changed2 h8 e0 hm (8 * n) 0 _ (Nat.zero_add _) hq
-- the reference's
theorem p_M_moves2 {I : Nat → Int32} {A : Nat → Nat → Int32} {B : Nat → Nat → Int64} {Q : xQ} {c M : Nat} (hc : c < 8) (hM : M ≤ 6) (em : A 29 c = nI M) : ∀ (k j x : Nat), j + k = M → (∀ w, xG tb_M_moves Q (4, [some (.ref 24), some (.int (nI (x + cntF (dif (B 30) (B 31)) (8 * c + j) k))), some (.int (nI (c + 1))), w], [], (HX I A B), 0)) → xG tb_M_moves Q (41, [some (.ref 24), some (.int (nI x)), some (.int (nI c)), some (.int (nI (8 * c + j)))], [], (HX I A B), 0)
  | 0, j, x, h, hk => by
    refine xG.go [4, 41] 30 ?_
    show (vp_in (nI c) 8 ∧ (((((8 : Int32) * (nI c)) + ((A 29) (nI c).toNatClampNeg)) ≤ (nI (8 * c + j)) → xG tb_M_moves Q (4, [some (.ref 24), some (.int (nI x)), some (.int ((nI c) + (1 : Int32))), some (.int (nI (8 * c + j)))], [], (HX I A B), 0)) ∧ (¬ (((8 : Int32) * (nI c)) + ((A 29) (nI c).toNatClampNeg)) ≤ (nI (8 * c + j)) → (vp_in (nI (8 * c + j)) 64 ∧ (vp_in (nI (8 * c + j)) 64 ∧ (((lg_cmp ((B 30) (nI (8 * c + j)).toNatClampNeg) ((B 31) (nI (8 * c + j)).toNatClampNeg)) = 0 → xG tb_M_moves Q (41, [some (.ref 24), some (.int ((nI x) + (0 : Int32))), some (.int (nI c)), some (.int ((nI (8 * c + j)) + (1 : Int32)))], [], (HX I A B), 0)) ∧ (¬ (lg_cmp ((B 30) (nI (8 * c + j)).toNatClampNeg) ((B 31) (nI (8 * c + j)).toNatClampNeg)) = 0 → xG tb_M_moves Q (41, [some (.ref 24), some (.int ((nI x) + (1 : Int32))), some (.int (nI c)), some (.int ((nI (8 * c + j)) + (1 : Int32)))], [], (HX I A B), 0))))))))
    refine ⟨vp_in_nI (by omega) (by omega), ?_⟩
    rw [nI_clamp (n := c) (by omega), em, nI_num, nI_1]
    exact br_y (nI_le (by omega) (by omega)) (hk _)
  | k + 1, j, x, h, hk => by
    refine xG.go [4, 41] 30 ?_
    show (vp_in (nI c) 8 ∧ (((((8 : Int32) * (nI c)) + ((A 29) (nI c).toNatClampNeg)) ≤ (nI (8 * c + j)) → xG tb_M_moves Q (4, [some (.ref 24), some (.int (nI x)), some (.int ((nI c) + (1 : Int32))), some (.int (nI (8 * c + j)))], [], (HX I A B), 0)) ∧ (¬ (((8 : Int32) * (nI c)) + ((A 29) (nI c).toNatClampNeg)) ≤ (nI (8 * c + j)) → (vp_in (nI (8 * c + j)) 64 ∧ (vp_in (nI (8 * c + j)) 64 ∧ (((lg_cmp ((B 30) (nI (8 * c + j)).toNatClampNeg) ((B 31) (nI (8 * c + j)).toNatClampNeg)) = 0 → xG tb_M_moves Q (41, [some (.ref 24), some (.int ((nI x) + (0 : Int32))), some (.int (nI c)), some (.int ((nI (8 * c + j)) + (1 : Int32)))], [], (HX I A B), 0)) ∧ (¬ (lg_cmp ((B 30) (nI (8 * c + j)).toNatClampNeg) ((B 31) (nI (8 * c + j)).toNatClampNeg)) = 0 → xG tb_M_moves Q (41, [some (.ref 24), some (.int ((nI x) + (1 : Int32))), some (.int (nI c)), some (.int ((nI (8 * c + j)) + (1 : Int32)))], [], (HX I A B), 0))))))))
    refine ⟨vp_in_nI (by omega) (by omega), ?_⟩
    rw [nI_clamp (n := c) (by omega), em, nI_num, nI_clamp (n := 8 * c + j) (by omega), nI_1 (8 * c + j), nI_1 x]
    have hin : vp_in (nI (8 * c + j)) 64 := vp_in_nI (by omega) (by omega)
    have ih : ∀ y, y = x + (if dif (B 30) (B 31) (8 * c + j) then 1 else 0) → xG tb_M_moves Q (41, [some (.ref 24), some (.int (nI y)), some (.int (nI c)), some (.int (nI (8 * c + j + 1)))], [], (HX I A B), 0) := by
      rintro y rfl
      refine p_M_moves2 hc hM em k (j + 1) _ (by omega) (fun w => ?_)
      have e1 : x + (if dif (B 30) (B 31) (8 * c + j) then 1 else 0) + cntF (dif (B 30) (B 31)) (8 * c + (j + 1)) k = x + cntF (dif (B 30) (B 31)) (8 * c + j) (k + 1) := by rw [Nat.add_assoc]; rfl
      rw [e1]
      exact hk w
    have z0 : nI x + (0 : Int32) = nI x := nI_add x 0
    rw [z0]
    refine br_n (nI_ge (by omega) (by omega)) ⟨hin, hin, fun z => ih x ?_, fun z => ih (x + 1) ?_⟩
    · rw [dif_f ((lg_cmp_eq _ _).mp z)]; rfl
    · rw [dif_t (fun w => z ((lg_cmp_eq _ _).mpr w))]; rfl
def mtot (B : Nat → Nat → Int64) (mc : Nat → Nat) : Nat → Nat → Nat
  | _, 0 => 0
  | c, k + 1 => (if dif (B 25) (B 26) c then 1 else 0) + cntF (dif (B 30) (B 31)) (8 * c) (mc c) + mtot B mc (c + 1) k
theorem p_M_moves1 {I : Nat → Int32} {A : Nat → Nat → Int32} {B : Nat → Nat → Int64} {Q : xQ} {n : Nat} {mc : Nat → Nat} (h8 : n ≤ 8) (e0 : I 10 = nI n) (hm : ∀ c, c < n → mc c ≤ 6 ∧ A 29 c = nI (mc c)) : ∀ (k c x : Nat) (w : Option Value), c + k = n → Q (.inl (some (.int (nI (x + mtot B mc c k))))) (HX I A B) 0 → xG tb_M_moves Q (4, [some (.ref 24), some (.int (nI x)), some (.int (nI c)), w], [], (HX I A B), 0)
  | 0, c, x, w, h, hk => by
    refine xG.go [4, 41] 30 ?_
    show (((I 10) ≤ (nI c) → Q (.inl (some (.int (nI x)))) (HX I A B) 0) ∧ (¬ (I 10) ≤ (nI c) → (vp_in (nI c) 8 ∧ (vp_in (nI c) 8 ∧ (((lg_cmp ((B 25) (nI c).toNatClampNeg) ((B 26) (nI c).toNatClampNeg)) = 0 → xG tb_M_moves Q (41, [some (.ref 24), some (.int ((nI x) + (0 : Int32))), some (.int (nI c)), some (.int ((8 : Int32) * (nI c)))], [], (HX I A B), 0)) ∧ (¬ (lg_cmp ((B 25) (nI c).toNatClampNeg) ((B 26) (nI c).toNatClampNeg)) = 0 → xG tb_M_moves Q (41, [some (.ref 24), some (.int ((nI x) + (1 : Int32))), some (.int (nI c)), some (.int ((8 : Int32) * (nI c)))], [], (HX I A B), 0)))))))
    exact br_y (by rw [e0]; exact nI_le (by omega) (by omega)) hk
  | k + 1, c, x, w, h, hk => by
    refine xG.go [4, 41] 30 ?_
    show (((I 10) ≤ (nI c) → Q (.inl (some (.int (nI x)))) (HX I A B) 0) ∧ (¬ (I 10) ≤ (nI c) → (vp_in (nI c) 8 ∧ (vp_in (nI c) 8 ∧ (((lg_cmp ((B 25) (nI c).toNatClampNeg) ((B 26) (nI c).toNatClampNeg)) = 0 → xG tb_M_moves Q (41, [some (.ref 24), some (.int ((nI x) + (0 : Int32))), some (.int (nI c)), some (.int ((8 : Int32) * (nI c)))], [], (HX I A B), 0)) ∧ (¬ (lg_cmp ((B 25) (nI c).toNatClampNeg) ((B 26) (nI c).toNatClampNeg)) = 0 → xG tb_M_moves Q (41, [some (.ref 24), some (.int ((nI x) + (1 : Int32))), some (.int (nI c)), some (.int ((8 : Int32) * (nI c)))], [], (HX I A B), 0)))))))
    have hin : vp_in (nI c) 8 := vp_in_nI (by omega) (by omega)
    refine br_n (by rw [e0]; exact nI_ge (by omega) (by omega)) ⟨hin, hin, ?_⟩
    have z0 : nI x + (0 : Int32) = nI x := nI_add x 0
    have e8 : (8 : Int32) * nI c = nI (8 * c + 0) := (Int32.ofNat_mul 8 c).symm
    rw [nI_clamp (by omega), z0, nI_1, e8]
    have ih : ∀ y, y = x + (if dif (B 25) (B 26) c then 1 else 0) → xG tb_M_moves Q (41, [some (.ref 24), some (.int (nI y)), some (.int (nI c)), some (.int (nI (8 * c + 0)))], [], (HX I A B), 0) := by
      rintro y rfl
      obtain ⟨m1, m2⟩ := hm c (by omega)
      refine p_M_moves2 (by omega) m1 m2 (mc c) 0 _ (Nat.zero_add _) (fun w => ?_)
      refine p_M_moves1 h8 e0 hm k (c + 1) _ w (by omega) ?_
      have e1 : x + (if dif (B 25) (B 26) c then 1 else 0) + cntF (dif (B 30) (B 31)) (8 * c + 0) (mc c) + mtot B mc (c + 1) k = x + mtot B mc c (k + 1) := by
        show _ = x + ((if dif (B 25) (B 26) c then 1 else 0) + cntF (dif (B 30) (B 31)) (8 * c) (mc c) + mtot B mc (c + 1) k)
        rw [Nat.add_zero]
        omega
      rw [e1]
      exact hk
    refine ⟨fun z => ih x ?_, fun z => ih (x + 1) ?_⟩
    · rw [dif_f ((lg_cmp_eq _ _).mp z)]; rfl
    · rw [dif_t (fun w => z ((lg_cmp_eq _ _).mpr w))]; rfl
theorem p_M_moves {I : Nat → Int32} {A : Nat → Nat → Int32} {B : Nat → Nat → Int64} {Q : xQ} {n : Nat} {mc : Nat → Nat} (h8 : n ≤ 8) (e0 : I 10 = nI n) (hm : ∀ c, c < n → mc c ≤ 6 ∧ A 29 c = nI (mc c)) (hq : Q (.inl (some (.int (nI (mtot B mc 0 n))))) (HX I A B) 0) : xRun tb_M_moves 4 [.ref 24] (HX I A B) Q := by
  refine ⟨Nat.le_of_ble_eq_true rfl, ?_⟩
  refine xG.go [4, 41] 30 ?_
  show xG tb_M_moves Q (4, [some (.ref 24), some (.int (nI 0)), some (.int (nI 0)), none], [], (HX I A B), 0)
  refine p_M_moves1 h8 e0 hm n 0 0 none (Nat.zero_add _) ?_
  rw [Nat.zero_add]
  exact hq
