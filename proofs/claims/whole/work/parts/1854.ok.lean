/-- a text without zeros and semicolons in it, not empty, and not ending in a stroke -/
def okT (t : Int64) : Prop := ∃ l, 1 ≤ l ∧ l ≤ 8 ∧ (∀ i, i < l → ¬ tch t (nI i) = 0 ∧ ¬ tch t (nI i) = 59) ∧ ¬ tch t (nI (l - 1)) = 47 ∧ ∀ i, l ≤ i → i < 8 → tch t (nI i) = 0
theorem isLet_ok {c : Int32} (h : isLet c = true) : ¬ c = 0 ∧ ¬ c = 59 ∧ ¬ c = 47 := by
  refine ⟨?_, ?_, ?_⟩ <;> (rintro rfl; revert h; decide)
theorem isDig_ok {c : Int32} (h : isDig c = true) : ¬ c = 0 ∧ ¬ c = 59 ∧ ¬ c = 47 := by
  refine ⟨?_, ?_, ?_⟩ <;> (rintro rfl; revert h; decide)
theorem nmR_ok (t : Int64) : ∀ (k i : Nat) (st : Bool), nmR t k i st = true → (∀ j, i ≤ j → j < i + k → ¬ tch t (nI j) = 0 ∧ ¬ tch t (nI j) = 59) ∧ (0 < k → ¬ tch t (nI (i + k - 1)) = 47)
  | 0, i, st, _ => ⟨fun j h1 h2 => by omega, fun h => by omega⟩
  | k + 1, i, st, h => by
    have key : ∃ st', nmR t k (i + 1) st' = true ∧ ¬ tch t (nI i) = 0 ∧ ¬ tch t (nI i) = 59 ∧ (tch t (nI i) = 47 → st' = true) := by
      unfold nmR at h
      cases st with
      | true =>
        rw [if_pos rfl] at h
        cases hl : isLet (tch t (nI i)) with
        | true =>
          rw [hl, if_pos rfl] at h
          exact ⟨false, h, (isLet_ok hl).1, (isLet_ok hl).2.1, fun z => absurd z (isLet_ok hl).2.2⟩
        | false => rw [hl, if_neg (by decide)] at h; cases h
      | false =>
        rw [if_neg (by decide)] at h
        by_cases h4 : tch t (nI i) = 47
        · rw [if_pos h4] at h
          exact ⟨true, h, by rw [h4]; decide, by rw [h4]; decide, fun _ => rfl⟩
        · rw [if_neg h4] at h
          cases hl : isLet (tch t (nI i)) with
          | true =>
            rw [hl, if_pos rfl] at h
            exact ⟨false, h, (isLet_ok hl).1, (isLet_ok hl).2.1, fun z => absurd z h4⟩
          | false =>
            rw [hl, if_neg (by decide)] at h
            cases hd : isDig (tch t (nI i)) with
            | true =>
              rw [hd, if_pos rfl] at h
              exact ⟨false, h, (isDig_ok hd).1, (isDig_ok hd).2.1, fun z => absurd z h4⟩
            | false => rw [hd, if_neg (by decide)] at h; cases h
    obtain ⟨st', h1, h2, h3, h4⟩ := key
    obtain ⟨a, b⟩ := nmR_ok t k (i + 1) st' h1
    refine ⟨fun j j1 j2 => ?_, fun _ => ?_⟩
    · by_cases e : j = i
      · subst e; exact ⟨h2, h3⟩
      · exact a j (by omega) (by omega)
    · cases k with
      | zero =>
        intro z
        rw [h4 z] at h1
        exact absurd h1 (by unfold nmR; decide)
      | succ k =>
        have := b (by omega)
        rw [show i + (k + 1 + 1) - 1 = i + 1 + (k + 1) - 1 by omega]
        exact this
theorem okT_cn {t : Int64} (h : isCN t = true) : okT t := by
  unfold isCN at h
  obtain ⟨a, b⟩ := nmR_ok t _ _ _ h
  have h8 := tlen_le t
  have h1 : 1 ≤ tlen t := by
    rcases Nat.eq_zero_or_pos (tlen t) with e | e
    · rw [e] at h; unfold nmR at h; cases h
    · exact e
  refine ⟨tlen t, h1, h8, fun i hi => a i (by omega) (by omega), ?_, fun i h2 h3 => (tlenF_spec t 8).1 i h2 h3⟩
  have := b (by omega)
  rw [Nat.zero_add] at this
  exact this
theorem okT_id {t : Int64} (h : isId t = true) : okT t := okT_cn (by unfold isId at h; exact (Bool.and_eq_true _ _ ▸ h).1)
/-- a descriptor's characters: the digits are classes below n, and two of the eight are none -/
def okD (n : Nat) (d : Int64) : Prop := ∃ l, 1 ≤ l ∧ l ≤ 8 ∧ (∀ i, i < l → ¬ tch d (nI i) = 0 ∧ ¬ tch d (nI i) = 76 ∧ (isDig (tch d (nI i)) = true → ∃ j, j < n ∧ tch d (nI i) = nI (48 + j))) ∧ (∀ i, l ≤ i → i < 8 → tch d (nI i) = 0) ∧ ∃ i j, i < j ∧ j < 8 ∧ isDig (tch d (nI i)) = false ∧ isDig (tch d (nI j)) = false
theorem okD_mono {n m : Nat} {d : Int64} (hnm : n ≤ m) (h : okD n d) : okD m d := by
  obtain ⟨l, h1, h2, h3, h4⟩ := h
  refine ⟨l, h1, h2, fun i hi => ⟨(h3 i hi).1, (h3 i hi).2.1, fun z => ?_⟩, h4⟩
  obtain ⟨j, hj, e⟩ := (h3 i hi).2.2 z
  exact ⟨j, by omega, e⟩
/-- the ancestors' bits of class c -/
def vAnc (A : Nat → Nat → Int32) (c : Nat) : Prop := (A 4 c = -1 ∧ A 7 c = 0) ∨ ∃ p, p < c ∧ A 4 c = nI p ∧ A 7 c = A 7 p ||| ((1 : Int32) <<< (nI p &&& 31))
/-- texts, descriptors and ancestors of the classes below n -/
def vOk (n : Nat) (mc : Nat → Nat) (A : Nat → Nat → Int32) (B : Nat → Nat → Int64) : Prop :=
  (∀ c, c < n → okT (B 2 c) ∧ okT (B 3 c) ∧ vAnc A c) ∧ (∀ c k, c < n → k < mc c → okT (B 8 (8 * c + k)) ∧ okT (B 9 (8 * c + k)) ∧ okD n (B 10 (8 * c + k)))
