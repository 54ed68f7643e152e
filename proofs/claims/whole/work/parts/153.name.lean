/-- where the last stroke stands, and one more; 0 where there is none -/
def lsF (t : Int64) : Nat → Nat
  | 0 => 0
  | k + 1 => if tch t (nI k) = 47 then k + 1 else lsF t k
theorem m1_lt : (nI 0 - 1) < (0 : Int32) := by decide
theorem p_T_ls_l {t : Int64} {h : xH} {Q : xQ} : ∀ (k : Nat), k ≤ 8 → Q (.inl (some (.int (nI (lsF t k) - 1)))) h 0 → xG tb_T_lastSlash Q (3, [some (.long t), none, some (.int (nI k - 1))], [], h, 0)
  | 0, _, hq => by
    refine xG.go [3, 9] 60 ?_
    show (((nI 0 - 1) < 0 → Q (.inl (some (.int (nI 0 - 1)))) h 0) ∧ (¬ (nI 0 - 1) < 0 → xG tb_T_lastSlash Q (9, [some (.long t), none, some (.int (nI 0 - 1))], [.int (nI 0 - 1), .long t], h, 0)))
    exact ⟨fun _ => hq, fun h1 => absurd m1_lt h1⟩
  | k + 1, hk, hq => by
    rw [nI_pred]
    refine xG.go [3, 9] 60 ?_
    show (((nI k) < 0 → Q (.inl (some (.int (nI k)))) h 0) ∧ (¬ (nI k) < 0 → xG tb_T_lastSlash Q (9, [some (.long t), none, some (.int (nI k))], [.int (nI k), .long t], h, 0)))
    refine ⟨fun h1 => absurd h1 (nI_pos (by omega)), fun _ => ?_⟩
    refine xG.call (F := xRun tb_T_charAt 3) rfl rfl (p_T_charAt (t := t) (i := nI k) ?_)
    refine xG.go [3, 9] 60 ?_
    show (((tch t (nI k)) = (47 : Int32) → Q (.inl (some (.int (nI k)))) h 0) ∧ (¬ (tch t (nI k)) = (47 : Int32) → xG tb_T_lastSlash Q (3, [some (.long t), none, some (.int ((nI k) + (-1 : Int32)))], [], h, 0)))
    unfold lsF at hq
    refine ⟨fun h1 => ?_, fun h1 => ?_⟩
    · rw [if_pos h1, nI_pred] at hq; exact hq
    · rw [if_neg h1] at hq
      have e : nI k + (-1) = nI k - 1 := by
        rw [Int32.sub_eq_add_neg]
      rw [e]
      exact p_T_ls_l k (by omega) hq
def lsl (t : Int64) : Nat := lsF t 8
theorem p_T_lastSlash {t : Int64} {h : xH} {Q : xQ} (hq : Q (.inl (some (.int (nI (lsl t) - 1)))) h 0) : xRun tb_T_lastSlash 3 [.long t] h Q := by
  refine ⟨Nat.le_of_ble_eq_true rfl, ?_⟩
  refine xG.go [3, 9] 30 ?_
  show xG tb_T_lastSlash Q (3, [some (.long t), none, some (.int 7)], [], h, 0)
  exact p_T_ls_l 8 (Nat.le_refl 8) hq
theorem lsF_le (t : Int64) : ∀ k, lsF t k ≤ k
  | 0 => Nat.le_refl 0
  | k + 1 => by
    unfold lsF
    split
    · exact Nat.le_refl _
    · exact Nat.le_succ_of_le (lsF_le t k)
theorem lsl_le (t : Int64) : lsl t ≤ 8 := lsF_le t 8
/-- an identifier -/
def isId (t : Int64) : Bool := isCN t && decide (lsl t = 0)
theorem p_T_isIdentifier {t : Int64} {h : xH} {Q : xQ} (hq : Q (.inl (some (.int (bI (isId t))))) h 0) : xRun tb_T_isIdentifier 2 [.long t] h Q := by
  refine ⟨Nat.le_of_ble_eq_true rfl, ?_⟩
  refine xG.go [1, 8] 30 ?_
  show xG tb_T_isIdentifier Q (1, [some (.long t), none], [.long t], h, 0)
  refine xG.call (F := xRun tb_T_isClassName 6) rfl rfl (p_T_isClassName (t := t) ?_)
  refine xG.go [1, 8] 30 ?_
  show (((bI (isCN t)) = 0 → (((0 : Int32) = (0 : Int32) ∨ (0 : Int32) = 1) ∧ Q (.inl (some (.int (0 : Int32)))) h 0)) ∧ (¬ (bI (isCN t)) = 0 → xG tb_T_isIdentifier Q (8, [some (.long t), none], [.long t], h, 0)))
  unfold isId at hq
  cases hc : isCN t with
  | false => rw [hc] at hq; exact ⟨fun _ => ⟨Or.inl rfl, hq⟩, fun z => absurd rfl z⟩
  | true =>
    rw [hc, Bool.true_and] at hq
    refine ⟨fun z => absurd z (by decide), fun _ => ?_⟩
    refine xG.call (F := xRun tb_T_lastSlash 3) rfl rfl (p_T_lastSlash (t := t) ?_)
    refine xG.go [1, 8] 30 ?_
    show ((0 ≤ (nI (lsl t) - 1) → (((0 : Int32) = (0 : Int32) ∨ (0 : Int32) = 1) ∧ Q (.inl (some (.int (0 : Int32)))) h 0)) ∧ (¬ 0 ≤ (nI (lsl t) - 1) → (((1 : Int32) = (0 : Int32) ∨ (1 : Int32) = 1) ∧ Q (.inl (some (.int (1 : Int32)))) h 0)))
    have h8 := lsl_le t
    cases hl : lsl t with
    | zero =>
      rw [hl] at hq
      exact ⟨fun z => absurd z (by decide), fun _ => ⟨Or.inr rfl, hq⟩⟩
    | succ k =>
      rw [hl] at hq
      rw [nI_pred]
      exact ⟨fun _ => ⟨Or.inl rfl, hq⟩, fun z => absurd (nI_pos' (by omega)) z⟩
def isPk (t : Int64) : Bool := decide (t = 0) || isCN t
theorem p_T_isPackage {t : Int64} {h : xH} {Q : xQ} (hq : Q (.inl (some (.int (bI (isPk t))))) h 0) : xRun tb_T_isPackage 2 [.long t] h Q := by
  refine ⟨Nat.le_of_ble_eq_true rfl, ?_⟩
  refine xG.go [7] 30 ?_
  show (((lg_cmp t (0 : Int64)) = 0 → (((1 : Int32) = (0 : Int32) ∨ (1 : Int32) = 1) ∧ Q (.inl (some (.int (1 : Int32)))) h 0)) ∧ (¬ (lg_cmp t (0 : Int64)) = 0 → xG tb_T_isPackage Q (7, [some (.long t), none], [.long t], h, 0)))
  unfold isPk at hq
  refine ⟨fun z => ?_, fun z => ?_⟩
  · rw [decide_eq_true ((lg_cmp_eq t 0).mp z)] at hq
    exact ⟨Or.inr rfl, hq⟩
  · rw [decide_eq_false (fun q => z ((lg_cmp_eq t 0).mpr q)), Bool.false_or] at hq
    refine xG.call (F := xRun tb_T_isClassName 6) rfl rfl (p_T_isClassName (t := t) ?_)
    refine xG.go [7] 30 ?_
    show (((bI (isCN t)) = 0 → (((0 : Int32) = (0 : Int32) ∨ (0 : Int32) = 1) ∧ Q (.inl (some (.int (0 : Int32)))) h 0)) ∧ (¬ (bI (isCN t)) = 0 → (((1 : Int32) = (0 : Int32) ∨ (1 : Int32) = 1) ∧ Q (.inl (some (.int (1 : Int32)))) h 0)))
    cases hc : isCN t with
    | false => rw [hc] at hq; exact ⟨fun _ => ⟨Or.inl rfl, hq⟩, fun z => absurd rfl z⟩
    | true => rw [hc] at hq; exact ⟨fun z => absurd z (by decide), fun _ => ⟨Or.inr rfl, hq⟩⟩
-- both sides' names are the same
theorem mnR_nmR (t : Int64) : ∀ (k i : Nat) (g b : Bool), mnR t false k i g b = (g && nmR t k i b)
  | 0, i, g, b => rfl
  | k + 1, i, g, b => by
    unfold mnR nmR
    by_cases hc : tch t (nI i) = 47
    · rw [if_pos hc, mnR_nmR t k (i + 1)]
      have hl : isLet (tch t (nI i)) = false := by rw [hc]; decide
      cases b <;> simp [hc, hl] <;> (try (rw [hc] at hl; simp [hl]))
    · rw [if_neg hc, mnR_nmR t k (i + 1)]
      cases g <;> cases b <;> cases hl : isLet (tch t (nI i)) <;> cases hd : isDig (tch t (nI i)) <;> simp [hc]
theorem nmR_zero (t : Int64) : ∀ (k i : Nat) (st : Bool) (p : Nat), i ≤ p → p < i + k → tch t (nI p) = 0 → nmR t k i st = false
  | 0, i, st, p, h1, h2, _ => by omega
  | k + 1, i, st, p, h1, h2, h3 => by
    unfold nmR
    by_cases e : i = p
    · subst e
      have hl : isLet (tch t (nI i)) = false := by rw [h3]; decide
      have hd : isDig (tch t (nI i)) = false := by rw [h3]; decide
      have h4 : ¬ tch t (nI i) = 47 := by rw [h3]; decide
      simp [hl, hd, h4]
    · have ih := fun st' => nmR_zero t k (i + 1) st' p (by omega) (by omega) h3
      simp [ih]
theorem mlenF_spec (t : Int64) : ∀ (k n : Nat), (∀ j, n ≤ j → j < mlenF t k n → ¬ tch t (nI j) = 0) ∧ (mlenF t k n < n + k → tch t (nI (mlenF t k n)) = 0) ∧ n ≤ mlenF t k n
  | 0, n => ⟨fun j h1 h2 => by unfold mlenF at h2; omega, fun h => by unfold mlenF at h; omega, Nat.le_refl n⟩
  | k + 1, n => by
    unfold mlenF
    split
    · rename_i hz
      exact ⟨fun j h1 h2 => by omega, fun _ => hz, Nat.le_refl n⟩
    · rename_i hz
      obtain ⟨a, b, c⟩ := mlenF_spec t k (n + 1)
      refine ⟨fun j h1 h2 => ?_, fun h => b (by omega), by omega⟩
      by_cases e : j = n
      · subst e; exact hz
      · exact a j (by omega) h2
theorem tlenF_spec (t : Int64) : ∀ k, (∀ j, tlenF t k ≤ j → j < k → tch t (nI j) = 0) ∧ (0 < tlenF t k → ¬ tch t (nI (tlenF t k - 1)) = 0)
  | 0 => ⟨fun j _ h => by omega, fun h => by unfold tlenF at h; omega⟩
  | k + 1 => by
    unfold tlenF
    split
    · rename_i hz
      obtain ⟨a, b⟩ := tlenF_spec t k
      refine ⟨fun j h1 h2 => ?_, b⟩
      by_cases e : j = k
      · subst e; exact hz
      · exact a j h1 (by omega)
    · rename_i hz
      exact ⟨fun j h1 h2 => by omega, fun _ => hz⟩
theorem itF_spec (t : Int64) : ∀ (k i : Nat) (g : Bool), itF t k i g = true ↔ g = true ∧ ∀ j, i ≤ j → j < i + k → tch t (nI j) = 0
  | 0, i, g => ⟨fun h => ⟨h, fun j h1 h2 => by omega⟩, fun h => h.1⟩
  | k + 1, i, g => by
    unfold itF
    rw [itF_spec t k (i + 1)]
    constructor
    · rintro ⟨h1, h2⟩
      rw [Bool.and_eq_true, decide_eq_true_eq] at h1
      refine ⟨h1.1, fun j h3 h4 => ?_⟩
      by_cases e : j = i
      · subst e; exact h1.2
      · exact h2 j (by omega) (by omega)
    · rintro ⟨h1, h2⟩
      exact ⟨by rw [Bool.and_eq_true, decide_eq_true_eq]; exact ⟨h1, h2 i (by omega) (by omega)⟩, fun j h3 h4 => h2 j (by omega) (by omega)⟩
theorem isTx_spec (t : Int64) : isTx t = true ↔ ∀ j, mlen t ≤ j → j < 8 → tch t (nI j) = 0 := by
  unfold isTx
  rw [itF_spec]
  have := mlen_le t
  exact ⟨fun h j h1 h2 => h.2 j h1 (by omega), fun h => ⟨rfl, fun j h1 h2 => h j h1 (by omega)⟩⟩
theorem mlen_tlen (t : Int64) (h : isTx t = true) : mlen t = tlen t := by
  obtain ⟨a, b, -⟩ := mlenF_spec t 8 0
  obtain ⟨c, d⟩ := tlenF_spec t 8
  have h1 := (isTx_spec t).mp h
  have h2 := mlen_le t
  have h3 := tlen_le t
  have e1 : mlen t = mlenF t 8 0 := rfl
  have e2 : tlen t = tlenF t 8 := rfl
  rw [← e1] at a b
  rw [← e2] at c d
  rcases Nat.lt_trichotomy (mlen t) (tlen t) with q | q | q
  · exact absurd (h1 (tlen t - 1) (by omega) (by omega)) (d (by omega))
  · exact q
  · exact absurd (c (tlen t) (Nat.le_refl _) (by omega)) (a (tlen t) (by omega) q)
theorem mName_cn (t : Int64) : mName t false = isCN t := by
  unfold mName isCN
  rw [mnR_nmR]
  cases hx : isTx t with
  | true =>
    rw [mlen_tlen t hx, Bool.true_and]
    cases ht : tlen t with
    | zero => rfl
    | succ k => rw [decide_eq_true (by omega), Bool.true_and]
  | false =>
    rw [Bool.false_and, Bool.false_and]
    obtain ⟨a, b, -⟩ := mlenF_spec t 8 0
    obtain ⟨c, d⟩ := tlenF_spec t 8
    have e1 : mlen t = mlenF t 8 0 := rfl
    have e2 : tlen t = tlenF t 8 := rfl
    rw [← e1] at a b
    rw [← e2] at c d
    have hm := mlen_le t
    have hn : ¬ ∀ j, mlen t ≤ j → j < 8 → tch t (nI j) = 0 := fun q => by
      rw [(isTx_spec t).mpr q] at hx; cases hx
    have hlt : mlen t < tlen t := by
      rcases Nat.lt_or_ge (mlen t) (tlen t) with q | q
      · exact q
      · exact absurd (fun j h1 h2 => c j (by omega) h2) hn
    exact (nmR_zero t (tlen t) 0 true (mlen t) (by omega) (by omega) (b (by have := tlen_le t; omega))).symm
