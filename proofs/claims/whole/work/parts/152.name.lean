theorem p_M_charAt {t : Int64} {x : Nat} (hx : x < 8) {h : xH} {Q : xQ} (hq : Q (.inl (some (.int (tch t (nI x))))) h 0) : xRun tb_M_charAt 3 [.long t, .int (nI x)] h Q := by
  refine ⟨Nat.le_of_ble_eq_true rfl, xG.go [] 30 ?_⟩
  show Q (.inl (some (.int ((xushr t ((8 : Int32) * (nI x))) &&& (255 : Int64)).toInt32))) h 0
  have e : ((xushr t ((8 : Int32) * (nI x))) &&& (255 : Int64)).toInt32 = tch t (nI x) := by
    unfold tch
    rw [if_neg (nI_pos (by omega)), if_pos (show nI x < 8 from nI_lt (b := 8) hx (by omega)), Int64.toInt32_and]
    rfl
  rw [e]
  exact hq
/-- the length up to the first zero -/
def mlenF (t : Int64) : Nat → Nat → Nat
  | 0, n => n
  | k + 1, n => if tch t (nI n) = 0 then n else mlenF t k (n + 1)
theorem p_M_length_l {t : Int64} {h : xH} {Q : xQ} : ∀ (k x : Nat), x + k = 8 → Q (.inl (some (.int (nI (mlenF t k x))))) h 0 → xG tb_M_length Q (2, [some (.long t), none, some (.int (nI x))], [], h, 0)
  | 0, x, hx, hq => by
    refine xG.go [2, 10] 60 ?_
    show (((8 : Int32) ≤ (nI x) → Q (.inl (some (.int (nI x)))) h 0) ∧ (¬ (8 : Int32) ≤ (nI x) → xG tb_M_length Q (10, [some (.long t), none, some (.int (nI x))], [.int (nI x), .long t], h, 0)))
    have e : x = 8 := by omega
    subst e
    exact ⟨fun _ => hq, fun h1 => absurd (by decide) h1⟩
  | k + 1, x, hx, hq => by
    refine xG.go [2, 10] 60 ?_
    show (((8 : Int32) ≤ (nI x) → Q (.inl (some (.int (nI x)))) h 0) ∧ (¬ (8 : Int32) ≤ (nI x) → xG tb_M_length Q (10, [some (.long t), none, some (.int (nI x))], [.int (nI x), .long t], h, 0)))
    refine ⟨fun h1 => absurd h1 (nI_ge (b := 8) (by omega) (by omega)), fun _ => ?_⟩
    refine xG.call (F := xRun tb_M_charAt 3) rfl rfl (p_M_charAt (t := t) (x := x) (by omega) ?_)
    refine xG.go [2, 10] 60 ?_
    show (((tch t (nI x)) = 0 → Q (.inl (some (.int (nI x)))) h 0) ∧ (¬ (tch t (nI x)) = 0 → xG tb_M_length Q (2, [some (.long t), none, some (.int ((nI x) + (1 : Int32)))], [], h, 0)))
    unfold mlenF at hq
    refine ⟨fun h1 => ?_, fun h1 => ?_⟩
    · rw [if_pos h1] at hq; exact hq
    · rw [if_neg h1] at hq
      rw [nI_1]
      exact p_M_length_l k (x + 1) (by omega) hq
def mlen (t : Int64) : Nat := mlenF t 8 0
theorem p_M_length {t : Int64} {h : xH} {Q : xQ} (hq : Q (.inl (some (.int (nI (mlen t))))) h 0) : xRun tb_M_length 3 [.long t] h Q := by
  refine ⟨Nat.le_of_ble_eq_true rfl, ?_⟩
  refine xG.go [2, 10] 30 ?_
  show xG tb_M_length Q (2, [some (.long t), none, some (.int 0)], [], h, 0)
  exact p_M_length_l 8 0 rfl hq
theorem mlenF_le (t : Int64) : ∀ k n, mlenF t k n ≤ n + k
  | 0, n => Nat.le_refl n
  | k + 1, n => by
    unfold mlenF
    split
    · omega
    · have := mlenF_le t k (n + 1); omega
theorem mlen_le (t : Int64) : mlen t ≤ 8 := by have := mlenF_le t 8 0; unfold mlen; omega
theorem p_M_isLetter {c : Int32} {h : xH} {Q : xQ} (hq : Q (.inl (some (.int (bI (isLet c))))) h 0) : xRun tb_M_isLetter 1 [.int c] h Q := by
  refine ⟨Nat.le_of_ble_eq_true rfl, xG.go [] 30 ?_⟩
  show ((c < (97 : Int32) → ((c < (65 : Int32) → (((0 : Int32) = (0 : Int32) ∨ (0 : Int32) = 1) ∧ Q (.inl (some (.int (0 : Int32)))) h 0)) ∧ (¬ c < (65 : Int32) → (((90 : Int32) < c → (((0 : Int32) = (0 : Int32) ∨ (0 : Int32) = 1) ∧ Q (.inl (some (.int (0 : Int32)))) h 0)) ∧ (¬ (90 : Int32) < c → (((1 : Int32) = (0 : Int32) ∨ (1 : Int32) = 1) ∧ Q (.inl (some (.int (1 : Int32)))) h 0)))))) ∧ (¬ c < (97 : Int32) → ((c ≤ (122 : Int32) → (((1 : Int32) = (0 : Int32) ∨ (1 : Int32) = 1) ∧ Q (.inl (some (.int (1 : Int32)))) h 0)) ∧ (¬ c ≤ (122 : Int32) → ((c < (65 : Int32) → (((0 : Int32) = (0 : Int32) ∨ (0 : Int32) = 1) ∧ Q (.inl (some (.int (0 : Int32)))) h 0)) ∧ (¬ c < (65 : Int32) → (((90 : Int32) < c → (((0 : Int32) = (0 : Int32) ∨ (0 : Int32) = 1) ∧ Q (.inl (some (.int (0 : Int32)))) h 0)) ∧ (¬ (90 : Int32) < c → (((1 : Int32) = (0 : Int32) ∨ (1 : Int32) = 1) ∧ Q (.inl (some (.int (1 : Int32)))) h 0)))))))))
  unfold isLet at hq
  refine ⟨fun h1 => ⟨fun h2 => ?_, fun h2 => ⟨fun h3 => ?_, fun h3 => ?_⟩⟩, fun h1 => ⟨fun h2 => ?_, fun h2 => ⟨fun h3 => ?_, fun h3 => ⟨fun h4 => ?_, fun h4 => ?_⟩⟩⟩⟩
  · rw [if_pos h1, if_pos h2] at hq; exact ⟨Or.inl rfl, hq⟩
  · rw [if_pos h1, if_neg h2, if_pos h3] at hq; exact ⟨Or.inl rfl, hq⟩
  · rw [if_pos h1, if_neg h2, if_neg h3] at hq; exact ⟨Or.inr rfl, hq⟩
  · rw [if_neg h1, if_pos h2] at hq; exact ⟨Or.inr rfl, hq⟩
  · rw [if_neg h1, if_neg h2, if_pos h3] at hq; exact ⟨Or.inl rfl, hq⟩
  · rw [if_neg h1, if_neg h2, if_neg h3, if_pos h4] at hq; exact ⟨Or.inl rfl, hq⟩
  · rw [if_neg h1, if_neg h2, if_neg h3, if_neg h4] at hq; exact ⟨Or.inr rfl, hq⟩
theorem p_M_isDigit {c : Int32} {h : xH} {Q : xQ} (hq : Q (.inl (some (.int (bI (isDig c))))) h 0) : xRun tb_M_isDigit 1 [.int c] h Q := by
  refine ⟨Nat.le_of_ble_eq_true rfl, xG.go [] 30 ?_⟩
  show ((c < (48 : Int32) → (((0 : Int32) = (0 : Int32) ∨ (0 : Int32) = 1) ∧ Q (.inl (some (.int (0 : Int32)))) h 0)) ∧ (¬ c < (48 : Int32) → (((57 : Int32) < c → (((0 : Int32) = (0 : Int32) ∨ (0 : Int32) = 1) ∧ Q (.inl (some (.int (0 : Int32)))) h 0)) ∧ (¬ (57 : Int32) < c → (((1 : Int32) = (0 : Int32) ∨ (1 : Int32) = 1) ∧ Q (.inl (some (.int (1 : Int32)))) h 0)))))
  unfold isDig at hq
  refine ⟨fun h1 => ?_, fun h1 => ⟨fun h2 => ?_, fun h2 => ?_⟩⟩
  · rw [if_pos h1] at hq; exact ⟨Or.inl rfl, hq⟩
  · rw [if_neg h1, if_pos h2] at hq; exact ⟨Or.inl rfl, hq⟩
  · rw [if_neg h1, if_neg h2] at hq; exact ⟨Or.inr rfl, hq⟩
def itF (t : Int64) : Nat → Nat → Bool → Bool
  | 0, _, g => g
  | k + 1, i, g => itF t k (i + 1) (g && decide (tch t (nI i) = 0))
theorem p_M_isText_l {t : Int64} {n : Int32} {h : xH} {Q : xQ} : ∀ (k i : Nat) (g : Bool), i + k = 8 → Q (.inl (some (.int (bI (itF t k i g))))) h 0 → xG tb_M_isText Q (10, [some (.long t), none, some (.int n), some (.int (bI g)), some (.int (nI i))], [], h, 0)
  | 0, i, g, hi, hq => by
    refine xG.go [1, 10, 24] 60 ?_
    show (((8 : Int32) ≤ (nI i) → (((bI g) = (0 : Int32) ∨ (bI g) = 1) ∧ Q (.inl (some (.int (bI g)))) h 0)) ∧ (¬ (8 : Int32) ≤ (nI i) → (((bI g) = 0 → xG tb_M_isText Q (10, [some (.long t), none, some (.int n), some (.int (0 : Int32)), some (.int ((nI i) + (1 : Int32)))], [], h, 0)) ∧ (¬ (bI g) = 0 → xG tb_M_isText Q (24, [some (.long t), none, some (.int n), some (.int (bI g)), some (.int (nI i))], [.int (nI i), .long t], h, 0)))))
    have e : i = 8 := by omega
    subst e
    exact ⟨fun _ => ⟨bI01 g, hq⟩, fun h1 => absurd (by decide) h1⟩
  | k + 1, i, g, hi, hq => by
    refine xG.go [1, 10, 24] 60 ?_
    show (((8 : Int32) ≤ (nI i) → (((bI g) = (0 : Int32) ∨ (bI g) = 1) ∧ Q (.inl (some (.int (bI g)))) h 0)) ∧ (¬ (8 : Int32) ≤ (nI i) → (((bI g) = 0 → xG tb_M_isText Q (10, [some (.long t), none, some (.int n), some (.int (0 : Int32)), some (.int ((nI i) + (1 : Int32)))], [], h, 0)) ∧ (¬ (bI g) = 0 → xG tb_M_isText Q (24, [some (.long t), none, some (.int n), some (.int (bI g)), some (.int (nI i))], [.int (nI i), .long t], h, 0)))))
    refine ⟨fun h1 => absurd h1 (nI_ge (b := 8) (by omega) (by omega)), fun _ => ?_⟩
    unfold itF at hq
    cases g with
    | false =>
      refine ⟨fun _ => ?_, fun h1 => absurd rfl h1⟩
      rw [nI_1]
      exact p_M_isText_l k (i + 1) false (by omega) hq
    | true =>
      refine ⟨fun h1 => absurd h1 (by decide), fun _ => ?_⟩
      refine xG.call (F := xRun tb_M_charAt 3) rfl rfl (p_M_charAt (t := t) (x := i) (by omega) ?_)
      refine xG.go [1, 10, 24] 60 ?_
      show (((tch t (nI i)) = 0 → xG tb_M_isText Q (10, [some (.long t), none, some (.int n), some (.int (1 : Int32)), some (.int ((nI i) + (1 : Int32)))], [], h, 0)) ∧ (¬ (tch t (nI i)) = 0 → xG tb_M_isText Q (10, [some (.long t), none, some (.int n), some (.int (0 : Int32)), some (.int ((nI i) + (1 : Int32)))], [], h, 0)))
      rw [Bool.true_and] at hq
      rw [nI_1]
      refine ⟨fun h1 => ?_, fun h1 => ?_⟩
      · rw [decide_eq_true h1] at hq
        exact p_M_isText_l k (i + 1) true (by omega) hq
      · rw [decide_eq_false h1] at hq
        exact p_M_isText_l k (i + 1) false (by omega) hq
def isTx (t : Int64) : Bool := itF t (8 - mlen t) (mlen t) true
theorem p_M_isText {t : Int64} {h : xH} {Q : xQ} (hq : Q (.inl (some (.int (bI (isTx t))))) h 0) : xRun tb_M_isText 5 [.long t] h Q := by
  refine ⟨Nat.le_of_ble_eq_true rfl, ?_⟩
  refine xG.go [1, 10, 24] 30 ?_
  show xG tb_M_isText Q (1, [some (.long t), none, none, none, none], [.long t], h, 0)
  refine xG.call (F := xRun tb_M_length 3) rfl rfl (p_M_length (t := t) ?_)
  refine xG.go [1, 10, 24] 60 ?_
  show xG tb_M_isText Q (10, [some (.long t), none, some (.int (nI (mlen t))), some (.int (1 : Int32)), some (.int (nI (mlen t)))], [], h, 0)
  exact p_M_isText_l (8 - mlen t) (mlen t) true (by have := mlen_le t; omega) hq
def mnR (t : Int64) (al : Bool) : Nat → Nat → Bool → Bool → Bool
  | 0, _, g, b => g && !b
  | k + 1, i, g, b => if tch t (nI i) = 47 then mnR t al k (i + 1) (g && !b && !al) true else mnR t al k (i + 1) (g && (isLet (tch t (nI i)) || (isDig (tch t (nI i)) && !b))) false
set_option maxHeartbeats 1000000 in
theorem p_M_isName_l {t : Int64} {al : Bool} {h : xH} {Q : xQ} : ∀ (k i n : Nat) (g b : Bool) (w : Option Value), n = i + k → n ≤ 8 → Q (.inl (some (.int (bI (mnR t al k i g b))))) h 0 → xG tb_M_isName Q (29, [some (.long t), none, some (.int (bI al)), some (.int (nI n)), some (.int (bI g)), some (.int (bI b)), some (.int (nI i)), w], [], h, 0)
  | 0, i, n, g, b, w, hn, h8, hq => by
    refine xG.go [1, 6, 29, 38, 84, 92] 60 ?_
    show (((nI n) ≤ (nI i) → (((bI g) = 0 → (((0 : Int32) = (0 : Int32) ∨ (0 : Int32) = 1) ∧ Q (.inl (some (.int (0 : Int32)))) h 0)) ∧ (¬ (bI g) = 0 → (((bI b) = 0 → (((1 : Int32) = (0 : Int32) ∨ (1 : Int32) = 1) ∧ Q (.inl (some (.int (1 : Int32)))) h 0)) ∧ (¬ (bI b) = 0 → (((0 : Int32) = (0 : Int32) ∨ (0 : Int32) = 1) ∧ Q (.inl (some (.int (0 : Int32)))) h 0)))))) ∧ (¬ (nI n) ≤ (nI i) → xG tb_M_isName Q (38, [some (.long t), none, some (.int (bI al)), some (.int (nI n)), some (.int (bI g)), some (.int (bI b)), some (.int (nI i)), w], [.int (nI i), .long t], h, 0)))
    refine ⟨fun _ => ⟨fun h2 => ?_, fun h2 => ⟨fun h3 => ?_, fun h3 => ?_⟩⟩, fun h1 => absurd (nI_le (by omega) (by omega)) h1⟩
    · cases g with
      | false => exact ⟨Or.inl rfl, hq⟩
      | true => exact absurd h2 (by decide)
    · cases g with
      | false => exact absurd rfl h2
      | true => cases b with
        | false => exact ⟨Or.inr rfl, hq⟩
        | true => exact absurd h3 (by decide)
    · cases g with
      | false => exact absurd rfl h2
      | true => cases b with
        | false => exact absurd rfl h3
        | true => exact ⟨Or.inl rfl, hq⟩
  | k + 1, i, n, g, b, w, hn, h8, hq => by
    refine xG.go [1, 6, 29, 38, 84, 92] 60 ?_
    show (((nI n) ≤ (nI i) → (((bI g) = 0 → (((0 : Int32) = (0 : Int32) ∨ (0 : Int32) = 1) ∧ Q (.inl (some (.int (0 : Int32)))) h 0)) ∧ (¬ (bI g) = 0 → (((bI b) = 0 → (((1 : Int32) = (0 : Int32) ∨ (1 : Int32) = 1) ∧ Q (.inl (some (.int (1 : Int32)))) h 0)) ∧ (¬ (bI b) = 0 → (((0 : Int32) = (0 : Int32) ∨ (0 : Int32) = 1) ∧ Q (.inl (some (.int (0 : Int32)))) h 0)))))) ∧ (¬ (nI n) ≤ (nI i) → xG tb_M_isName Q (38, [some (.long t), none, some (.int (bI al)), some (.int (nI n)), some (.int (bI g)), some (.int (bI b)), some (.int (nI i)), w], [.int (nI i), .long t], h, 0)))
    refine ⟨fun h1 => absurd h1 (nI_ge (by omega) (by omega)), fun _ => ?_⟩
    refine xG.call (F := xRun tb_M_charAt 3) rfl rfl (p_M_charAt (t := t) (x := i) (by omega) ?_)
    refine xG.go [1, 6, 29, 38, 84, 92] 60 ?_
    show (((tch t (nI i)) = (47 : Int32) → (((bI g) = 0 → xG tb_M_isName Q (29, [some (.long t), none, some (.int (bI al)), some (.int (nI n)), some (.int (0 : Int32)), some (.int (1 : Int32)), some (.int ((nI i) + (1 : Int32))), some (.int (tch t (nI i)))], [], h, 0)) ∧ (¬ (bI g) = 0 → (((bI b) = 0 → (((bI al) = 0 → xG tb_M_isName Q (29, [some (.long t), none, some (.int (bI al)), some (.int (nI n)), some (.int (1 : Int32)), some (.int (1 : Int32)), some (.int ((nI i) + (1 : Int32))), some (.int (tch t (nI i)))], [], h, 0)) ∧ (¬ (bI al) = 0 → xG tb_M_isName Q (29, [some (.long t), none, some (.int (bI al)), some (.int (nI n)), some (.int (0 : Int32)), some (.int (1 : Int32)), some (.int ((nI i) + (1 : Int32))), some (.int (tch t (nI i)))], [], h, 0)))) ∧ (¬ (bI b) = 0 → xG tb_M_isName Q (29, [some (.long t), none, some (.int (bI al)), some (.int (nI n)), some (.int (0 : Int32)), some (.int (1 : Int32)), some (.int ((nI i) + (1 : Int32))), some (.int (tch t (nI i)))], [], h, 0)))))) ∧ (¬ (tch t (nI i)) = (47 : Int32) → (((bI g) = 0 → xG tb_M_isName Q (29, [some (.long t), none, some (.int (bI al)), some (.int (nI n)), some (.int (0 : Int32)), some (.int (0 : Int32)), some (.int ((nI i) + (1 : Int32))), some (.int (tch t (nI i)))], [], h, 0)) ∧ (¬ (bI g) = 0 → xG tb_M_isName Q (84, [some (.long t), none, some (.int (bI al)), some (.int (nI n)), some (.int (bI g)), some (.int (bI b)), some (.int (nI i)), some (.int (tch t (nI i)))], [.int (tch t (nI i))], h, 0)))))
    unfold mnR at hq
    generalize tch t (nI i) = c at hq ⊢
    rw [nI_1]
    refine ⟨fun h1 => ?_, fun h1 => ?_⟩
    · rw [if_pos h1] at hq
      cases g with
      | false => exact ⟨fun _ => p_M_isName_l k (i + 1) n false true _ (by omega) h8 hq, fun z => absurd rfl z⟩
      | true =>
        refine ⟨fun z => absurd z (by decide), fun _ => ?_⟩
        cases b with
        | true => exact ⟨fun z => absurd z (by decide), fun _ => p_M_isName_l k (i + 1) n false true _ (by omega) h8 hq⟩
        | false =>
          refine ⟨fun _ => ?_, fun z => absurd rfl z⟩
          cases al with
          | true => exact ⟨fun z => absurd z (by decide), fun _ => p_M_isName_l k (i + 1) n false true _ (by omega) h8 hq⟩
          | false => exact ⟨fun _ => p_M_isName_l k (i + 1) n true true _ (by omega) h8 hq, fun z => absurd rfl z⟩
    · rw [if_neg h1] at hq
      cases g with
      | false => exact ⟨fun _ => p_M_isName_l k (i + 1) n false false _ (by omega) h8 hq, fun z => absurd rfl z⟩
      | true =>
        refine ⟨fun z => absurd z (by decide), fun _ => ?_⟩
        refine xG.call (F := xRun tb_M_isLetter 1) rfl rfl (p_M_isLetter (c := c) ?_)
        refine xG.go [1, 6, 29, 38, 84, 92] 60 ?_
        show (((bI (isLet c)) = 0 → xG tb_M_isName Q (92, [some (.long t), none, some (.int (bI al)), some (.int (nI n)), some (.int (bI true)), some (.int (bI b)), some (.int (nI i)), some (.int c)], [.int c], h, 0)) ∧ (¬ (bI (isLet c)) = 0 → xG tb_M_isName Q (29, [some (.long t), none, some (.int (bI al)), some (.int (nI n)), some (.int (1 : Int32)), some (.int (0 : Int32)), some (.int ((nI i) + (1 : Int32))), some (.int c)], [], h, 0)))
        rw [nI_1]
        cases hl : isLet c with
        | true =>
          rw [hl] at hq
          exact ⟨fun z => absurd z (by decide), fun _ => p_M_isName_l k (i + 1) n true false _ (by omega) h8 hq⟩
        | false =>
          rw [hl] at hq
          refine ⟨fun _ => ?_, fun z => absurd rfl z⟩
          refine xG.call (F := xRun tb_M_isDigit 1) rfl rfl (p_M_isDigit (c := c) ?_)
          refine xG.go [1, 6, 29, 38, 84, 92] 60 ?_
          show (((bI (isDig c)) = 0 → xG tb_M_isName Q (29, [some (.long t), none, some (.int (bI al)), some (.int (nI n)), some (.int (0 : Int32)), some (.int (0 : Int32)), some (.int ((nI i) + (1 : Int32))), some (.int c)], [], h, 0)) ∧ (¬ (bI (isDig c)) = 0 → (((bI b) = 0 → xG tb_M_isName Q (29, [some (.long t), none, some (.int (bI al)), some (.int (nI n)), some (.int (1 : Int32)), some (.int (0 : Int32)), some (.int ((nI i) + (1 : Int32))), some (.int c)], [], h, 0)) ∧ (¬ (bI b) = 0 → xG tb_M_isName Q (29, [some (.long t), none, some (.int (bI al)), some (.int (nI n)), some (.int (0 : Int32)), some (.int (0 : Int32)), some (.int ((nI i) + (1 : Int32))), some (.int c)], [], h, 0)))))
          rw [nI_1]
          cases hd : isDig c with
          | false =>
            rw [hd] at hq
            exact ⟨fun _ => p_M_isName_l k (i + 1) n false false _ (by omega) h8 hq, fun z => absurd rfl z⟩
          | true =>
            rw [hd] at hq
            refine ⟨fun z => absurd z (by decide), fun _ => ?_⟩
            cases b with
            | false => exact ⟨fun _ => p_M_isName_l k (i + 1) n true false _ (by omega) h8 hq, fun z => absurd rfl z⟩
            | true => exact ⟨fun z => absurd z (by decide), fun _ => p_M_isName_l k (i + 1) n false false _ (by omega) h8 hq⟩
/-- the reference's names -/
def mName (t : Int64) (al : Bool) : Bool := mnR t al (mlen t) 0 (isTx t && decide (0 < mlen t)) true
theorem p_M_isName {t : Int64} {al : Bool} {h : xH} {Q : xQ} (hq : Q (.inl (some (.int (bI (mName t al))))) h 0) : xRun tb_M_isName 8 [.long t, .int (bI al)] h Q := by
  refine ⟨Nat.le_of_ble_eq_true rfl, ?_⟩
  refine xG.go [1, 6, 29, 38, 84, 92] 30 ?_
  show xG tb_M_isName Q (1, [some (.long t), none, some (.int (bI al)), none, none, none, none, none], [.long t], h, 0)
  refine xG.call (F := xRun tb_M_length 3) rfl rfl (p_M_length (t := t) ?_)
  refine xG.go [1, 6, 29, 38, 84, 92] 60 ?_
  show xG tb_M_isName Q (6, [some (.long t), none, some (.int (bI al)), some (.int (nI (mlen t))), none, none, none, none], [.long t], h, 0)
  refine xG.call (F := xRun tb_M_isText 5) rfl rfl (p_M_isText (t := t) ?_)
  refine xG.go [1, 6, 29, 38, 84, 92] 60 ?_
  show (((bI (isTx t)) = 0 → xG tb_M_isName Q (29, [some (.long t), none, some (.int (bI al)), some (.int (nI (mlen t))), some (.int (0 : Int32)), some (.int (1 : Int32)), some (.int (0 : Int32)), none], [], h, 0)) ∧ (¬ (bI (isTx t)) = 0 → (((nI (mlen t)) ≤ 0 → xG tb_M_isName Q (29, [some (.long t), none, some (.int (bI al)), some (.int (nI (mlen t))), some (.int (0 : Int32)), some (.int (1 : Int32)), some (.int (0 : Int32)), none], [], h, 0)) ∧ (¬ (nI (mlen t)) ≤ 0 → xG tb_M_isName Q (29, [some (.long t), none, some (.int (bI al)), some (.int (nI (mlen t))), some (.int (1 : Int32)), some (.int (1 : Int32)), some (.int (0 : Int32)), none], [], h, 0)))))
  have h8 := mlen_le t
  unfold mName at hq
  cases hx : isTx t with
  | false =>
    rw [hx] at hq
    exact ⟨fun _ => p_M_isName_l (mlen t) 0 (mlen t) false true none (by omega) h8 hq, fun z => absurd rfl z⟩
  | true =>
    rw [hx, Bool.true_and] at hq
    refine ⟨fun z => absurd z (by decide), fun _ => ⟨fun z => ?_, fun z => ?_⟩⟩
    · have : ¬ 0 < mlen t := fun q => absurd z (nI_nle q (by omega))
      rw [decide_eq_false this] at hq
      exact p_M_isName_l (mlen t) 0 (mlen t) false true none (by omega) h8 hq
    · have : 0 < mlen t := by
        rcases Nat.eq_zero_or_pos (mlen t) with q | q
        · exact absurd (by rw [q]; decide) z
        · exact q
      rw [decide_eq_true this] at hq
      exact p_M_isName_l (mlen t) 0 (mlen t) true true none (by omega) h8 hq
