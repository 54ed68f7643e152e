/-- a name, told from the character i on: st says that a part begins -/
def nmR (t : Int64) : Nat → Nat → Bool → Bool
  | 0, _, st => !st
  | k + 1, i, st => if st then (if isLet (tch t (nI i)) then nmR t k (i + 1) false else false) else if tch t (nI i) = 47 then nmR t k (i + 1) true else if isLet (tch t (nI i)) then nmR t k (i + 1) false else if isDig (tch t (nI i)) then nmR t k (i + 1) false else false
theorem p_T_cn_l {t : Int64} {h : xH} {Q : xQ} : ∀ (k i n : Nat) (st : Bool) (w : Option Value), n = i + k → n ≤ 8 → Q (.inl (some (.int (bI (nmR t k i st))))) h 0 → xG tb_T_isClassName Q (10, [some (.long t), none, some (.int (nI n)), some (.int (bI st)), some (.int (nI i)), w], [], h, 0)
  | 0, i, n, st, w, hn, h8, hq => by
    refine xG.go [1, 10, 19, 30, 57, 65] 60 ?_
    show (((nI n) ≤ (nI i) → (((bI st) = 0 → (((1 : Int32) = (0 : Int32) ∨ (1 : Int32) = 1) ∧ Q (.inl (some (.int (1 : Int32)))) h 0)) ∧ (¬ (bI st) = 0 → (((0 : Int32) = (0 : Int32) ∨ (0 : Int32) = 1) ∧ Q (.inl (some (.int (0 : Int32)))) h 0)))) ∧ (¬ (nI n) ≤ (nI i) → xG tb_T_isClassName Q (19, [some (.long t), none, some (.int (nI n)), some (.int (bI st)), some (.int (nI i)), w], [.int (nI i), .long t], h, 0)))
    refine ⟨fun _ => ⟨fun h2 => ?_, fun h2 => ?_⟩, fun h1 => absurd (nI_le (by omega) (by omega)) h1⟩
    · cases st with
      | false => exact ⟨Or.inr rfl, hq⟩
      | true => exact absurd h2 (by decide)
    · cases st with
      | false => exact absurd rfl h2
      | true => exact ⟨Or.inl rfl, hq⟩
  | k + 1, i, n, st, w, hn, h8, hq => by
    refine xG.go [1, 10, 19, 30, 57, 65] 60 ?_
    show (((nI n) ≤ (nI i) → (((bI st) = 0 → (((1 : Int32) = (0 : Int32) ∨ (1 : Int32) = 1) ∧ Q (.inl (some (.int (1 : Int32)))) h 0)) ∧ (¬ (bI st) = 0 → (((0 : Int32) = (0 : Int32) ∨ (0 : Int32) = 1) ∧ Q (.inl (some (.int (0 : Int32)))) h 0)))) ∧ (¬ (nI n) ≤ (nI i) → xG tb_T_isClassName Q (19, [some (.long t), none, some (.int (nI n)), some (.int (bI st)), some (.int (nI i)), w], [.int (nI i), .long t], h, 0)))
    refine ⟨fun h1 => absurd h1 (nI_ge (by omega) (by omega)), fun _ => ?_⟩
    refine xG.call (F := xRun tb_T_charAt 3) rfl rfl (p_T_charAt (t := t) (i := nI i) ?_)
    refine xG.go [1, 10, 19, 30, 57, 65] 60 ?_
    show (((bI st) = 0 → (((tch t (nI i)) = (47 : Int32) → xG tb_T_isClassName Q (10, [some (.long t), none, some (.int (nI n)), some (.int (1 : Int32)), some (.int ((nI i) + (1 : Int32))), some (.int (tch t (nI i)))], [], h, 0)) ∧ (¬ (tch t (nI i)) = (47 : Int32) → xG tb_T_isClassName Q (57, [some (.long t), none, some (.int (nI n)), some (.int (bI st)), some (.int (nI i)), some (.int (tch t (nI i)))], [.int (tch t (nI i))], h, 0)))) ∧ (¬ (bI st) = 0 → xG tb_T_isClassName Q (30, [some (.long t), none, some (.int (nI n)), some (.int (bI st)), some (.int (nI i)), some (.int (tch t (nI i)))], [.int (tch t (nI i))], h, 0)))
    unfold nmR at hq
    generalize tch t (nI i) = c at hq ⊢
    cases st with
    | true =>
      refine ⟨fun h1 => absurd h1 (by decide), fun _ => ?_⟩
      refine xG.call (F := xRun tb_T_isLetter 1) rfl rfl (p_T_isLetter (c := c) ?_)
      refine xG.go [1, 10, 19, 30, 57, 65] 60 ?_
      show (((bI (isLet c)) = 0 → (((0 : Int32) = (0 : Int32) ∨ (0 : Int32) = 1) ∧ Q (.inl (some (.int (0 : Int32)))) h 0)) ∧ (¬ (bI (isLet c)) = 0 → xG tb_T_isClassName Q (10, [some (.long t), none, some (.int (nI n)), some (.int (0 : Int32)), some (.int ((nI i) + (1 : Int32))), some (.int c)], [], h, 0)))
      rw [if_pos rfl] at hq
      cases hl : isLet c with
      | true =>
        rw [hl, if_pos rfl] at hq
        refine ⟨fun h2 => absurd h2 (by decide), fun _ => ?_⟩
        rw [nI_1]
        exact p_T_cn_l k (i + 1) n false _ (by omega) h8 hq
      | false =>
        rw [hl, if_neg (by decide)] at hq
        exact ⟨fun _ => ⟨Or.inl rfl, hq⟩, fun h2 => absurd rfl h2⟩
    | false =>
      refine ⟨fun _ => ⟨fun h1 => ?_, fun h1 => ?_⟩, fun h1 => absurd rfl h1⟩
      · rw [if_neg (by decide), if_pos h1] at hq
        rw [nI_1]
        exact p_T_cn_l k (i + 1) n true _ (by omega) h8 hq
      · rw [if_neg (by decide), if_neg h1] at hq
        refine xG.call (F := xRun tb_T_isLetter 1) rfl rfl (p_T_isLetter (c := c) ?_)
        refine xG.go [1, 10, 19, 30, 57, 65] 60 ?_
        show (((bI (isLet c)) = 0 → xG tb_T_isClassName Q (65, [some (.long t), none, some (.int (nI n)), some (.int (bI false)), some (.int (nI i)), some (.int c)], [.int c], h, 0)) ∧ (¬ (bI (isLet c)) = 0 → xG tb_T_isClassName Q (10, [some (.long t), none, some (.int (nI n)), some (.int (bI false)), some (.int ((nI i) + (1 : Int32))), some (.int c)], [], h, 0)))
        cases hl : isLet c with
        | true =>
          rw [hl, if_pos rfl] at hq
          refine ⟨fun h2 => absurd h2 (by decide), fun _ => ?_⟩
          rw [nI_1]
          exact p_T_cn_l k (i + 1) n false _ (by omega) h8 hq
        | false =>
          rw [hl, if_neg (by decide)] at hq
          refine ⟨fun _ => ?_, fun h2 => absurd rfl h2⟩
          refine xG.call (F := xRun tb_T_isDigit 1) rfl rfl (p_T_isDigit (c := c) ?_)
          refine xG.go [1, 10, 19, 30, 57, 65] 60 ?_
          show (((bI (isDig c)) = 0 → (((0 : Int32) = (0 : Int32) ∨ (0 : Int32) = 1) ∧ Q (.inl (some (.int (0 : Int32)))) h 0)) ∧ (¬ (bI (isDig c)) = 0 → xG tb_T_isClassName Q (10, [some (.long t), none, some (.int (nI n)), some (.int (bI false)), some (.int ((nI i) + (1 : Int32))), some (.int c)], [], h, 0)))
          cases hd : isDig c with
          | true =>
            rw [hd, if_pos rfl] at hq
            refine ⟨fun h2 => absurd h2 (by decide), fun _ => ?_⟩
            rw [nI_1]
            exact p_T_cn_l k (i + 1) n false _ (by omega) h8 hq
          | false =>
            rw [hd, if_neg (by decide)] at hq
            exact ⟨fun _ => ⟨Or.inl rfl, hq⟩, fun h2 => absurd rfl h2⟩
theorem tlenF_le (t : Int64) : ∀ k, tlenF t k ≤ k
  | 0 => Nat.le_refl 0
  | k + 1 => by
    unfold tlenF
    split
    · exact Nat.le_succ_of_le (tlenF_le t k)
    · exact Nat.le_refl _
theorem tlen_le (t : Int64) : tlen t ≤ 8 := tlenF_le t 8
/-- a class's name -/
def isCN (t : Int64) : Bool := nmR t (tlen t) 0 true
theorem p_T_isClassName {t : Int64} {h : xH} {Q : xQ} (hq : Q (.inl (some (.int (bI (isCN t))))) h 0) : xRun tb_T_isClassName 6 [.long t] h Q := by
  refine ⟨Nat.le_of_ble_eq_true rfl, ?_⟩
  refine xG.go [1, 10, 19, 30, 57, 65] 60 ?_
  show xG tb_T_isClassName Q (1, [some (.long t), none, none, none, none, none], [.long t], h, 0)
  refine xG.call (F := xRun tb_T_length 3) rfl rfl (p_T_length (t := t) ?_)
  refine xG.go [1, 10, 19, 30, 57, 65] 60 ?_
  show xG tb_T_isClassName Q (10, [some (.long t), none, some (.int (nI (tlen t))), some (.int (1 : Int32)), some (.int (0 : Int32)), none], [], h, 0)
  exact p_T_cn_l (tlen t) 0 (tlen t) true none (by omega) (tlen_le t) hq
