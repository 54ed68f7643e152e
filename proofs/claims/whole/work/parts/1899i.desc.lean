-- descriptors, in numbers
def cdg (c : Int32) (l : Nat) : Bool := if c < 48 then false else if 48 + nI l ≤ c then false else true
def tyc (c : Int32) (l : Nat) : Bool := if c = 73 then true else if c = 74 then true else if c = 90 then true else cdg c l
theorem tyc_0 (l : Nat) : tyc 0 l = false := rfl
theorem cdg_ix {c : Int32} {l : Nat} (hl : l ≤ 9) (h : cdg c l = true) : ∃ j, j < l ∧ c = nI (48 + j) := by
  unfold cdg at h
  have e48 : (48 : Int32) + nI l = nI (48 + l) := nI_add 48 l
  rw [e48] at h
  by_cases w : c < 48
  · rw [if_pos w] at h; cases h
  rw [if_neg w] at h
  by_cases z : nI (48 + l) ≤ c
  · rw [if_pos z] at h; cases h
  have h0 : ¬ c < 0 := fun q => w (Int32.lt_trans q (by decide))
  have hc : isC (nI (48 + l)) c = true := by unfold isC; rw [if_neg h0, if_neg z]
  obtain ⟨k, hk, rfl⟩ := isC_ix (by omega) hc
  have : ¬ k < 48 := fun q => w (nI_lt (b := 48) q (by omega))
  exact ⟨k - 48, by omega, by rw [show 48 + (k - 48) = k by omega]⟩
/-- the characters of descriptors -/
def dch (c : Int32) (l : Nat) : Prop := c = 40 ∨ c = 41 ∨ c = 91 ∨ c = 86 ∨ tyc c l = true
theorem tyc_ok {c : Int32} {l : Nat} (h : tyc c l = true) : c = 73 ∨ c = 74 ∨ c = 90 ∨ cdg c l = true := by
  unfold tyc at h
  by_cases h1 : c = 73
  · exact Or.inl h1
  rw [if_neg h1] at h
  by_cases h2 : c = 74
  · exact Or.inr (Or.inl h2)
  rw [if_neg h2] at h
  by_cases h3 : c = 90
  · exact Or.inr (Or.inr (Or.inl h3))
  rw [if_neg h3] at h
  exact Or.inr (Or.inr (Or.inr h))
theorem dch_ok {c : Int32} {l : Nat} (hl : l ≤ 9) (h : dch c l) : ¬ c = 0 ∧ ¬ c = 76 ∧ (isDig c = true → ∃ j, j < l ∧ c = nI (48 + j)) := by
  rcases h with h | h | h | h | h
  · subst h; exact ⟨by decide, by decide, fun z => absurd z (by decide)⟩
  · subst h; exact ⟨by decide, by decide, fun z => absurd z (by decide)⟩
  · subst h; exact ⟨by decide, by decide, fun z => absurd z (by decide)⟩
  · subst h; exact ⟨by decide, by decide, fun z => absurd z (by decide)⟩
  · rcases tyc_ok h with h | h | h | h
    · subst h; exact ⟨by decide, by decide, fun z => absurd z (by decide)⟩
    · subst h; exact ⟨by decide, by decide, fun z => absurd z (by decide)⟩
    · subst h; exact ⟨by decide, by decide, fun z => absurd z (by decide)⟩
    · obtain ⟨j, hj, rfl⟩ := cdg_ix hl h
      refine ⟨fun z => ?_, fun z => ?_, fun _ => ⟨j, hj, rfl⟩⟩
      · have := (nI_eq (b := 0) (by omega) (by omega)).mp z
        omega
      · have := (nI_eq (b := 76) (by omega) (by omega)).mp z
        omega
def bkF (t : Int64) : Nat → Nat → Nat
  | 0, i => i
  | k + 1, i => if tch t (nI i) = 91 then bkF t k (i + 1) else i
theorem bkF_spec (t : Int64) : ∀ (k i : Nat), i ≤ bkF t k i ∧ bkF t k i ≤ i + k ∧ (∀ j, i ≤ j → j < bkF t k i → tch t (nI j) = 91)
  | 0, i => ⟨Nat.le_refl i, Nat.le_refl i, fun j h1 h2 => by unfold bkF at h2; omega⟩
  | k + 1, i => by
    unfold bkF
    by_cases w : tch t (nI i) = 91
    · rw [if_pos w]
      obtain ⟨a, b, c⟩ := bkF_spec t k (i + 1)
      refine ⟨by omega, by omega, fun j h1 h2 => ?_⟩
      by_cases e : j = i
      · rw [e]; exact w
      · exact c j (by omega) h2
    · rw [if_neg w]
      exact ⟨Nat.le_refl i, by omega, fun j h1 h2 => by omega⟩
def pT (t : Int64) (l at_ : Nat) : Nat := if tyc (tch t (nI (bkF t (8 - at_) at_))) l = true then bkF t (8 - at_) at_ + 1 else 0
theorem tch_8 {t : Int64} {i : Nat} (h : 8 ≤ i) (h' : i < 2 ^ 31) : tch t (nI i) = 0 := by
  unfold tch
  rw [if_neg (nI_pos h'), if_neg (show ¬ nI i < 8 from nI_nlt (b := 8) h h')]
theorem pT_spec {t : Int64} {l i : Nat} (hi : i ≤ 8) (h : ¬ pT t l i = 0) : i < pT t l i ∧ pT t l i ≤ 8 ∧ (∀ j, i ≤ j → j < pT t l i - 1 → tch t (nI j) = 91) ∧ tyc (tch t (nI (pT t l i - 1))) l = true := by
  obtain ⟨a, b, c⟩ := bkF_spec t (8 - i) i
  have e : tyc (tch t (nI (bkF t (8 - i) i))) l = true := by
    cases q : tyc (tch t (nI (bkF t (8 - i) i))) l with
    | true => rfl
    | false => exact absurd (if_neg (by rw [q]; decide)) h
  have e2 : pT t l i = bkF t (8 - i) i + 1 := if_pos e
  rw [e2]
  refine ⟨by omega, ?_, fun j h1 h2 => c j h1 (by omega), e⟩
  rcases Nat.lt_or_ge (bkF t (8 - i) i) 8 with q | q
  · omega
  · rw [tch_8 q (by omega), tyc_0] at e
    cases e
theorem pT_0 {t : Int64} {l i : Nat} (h : tch t (nI i) = 0) : pT t l i = 0 := by
  have e : bkF t (8 - i) i = i := by
    cases 8 - i with
    | zero => rfl
    | succ k =>
      unfold bkF
      rw [h]
      rfl
  unfold pT
  rw [e, h, tyc_0]
  rfl
def pP (t : Int64) (l : Nat) : Nat → Nat → Nat
  | 0, _ => 0
  | k + 1, i => if tch t (nI i) = 41 then i + 1 else if pT t l i = 0 then 0 else pP t l k (pT t l i)
theorem pP_spec {t : Int64} {l : Nat} : ∀ (k i : Nat), i ≤ 8 → ¬ pP t l k i = 0 → i < pP t l k i ∧ pP t l k i ≤ 8 ∧ (∀ j, i ≤ j → j < pP t l k i → dch (tch t (nI j)) l) ∧ tch t (nI (pP t l k i - 1)) = 41
  | 0, i, hi, h => absurd rfl h
  | k + 1, i, hi, h => by
    unfold pP at h ⊢
    by_cases w : tch t (nI i) = 41
    · rw [if_pos w]
      have i8 : i < 8 := by
        rcases Nat.lt_or_ge i 8 with q | q
        · exact q
        · rw [tch_8 q (by omega)] at w; exact absurd w (by decide)
      refine ⟨by omega, by omega, fun j h1 h2 => ?_, by rw [Nat.add_sub_cancel]; exact w⟩
      obtain rfl : j = i := by omega
      exact Or.inr (Or.inl w)
    · rw [if_neg w] at h ⊢
      by_cases z : pT t l i = 0
      · rw [if_pos z] at h; exact absurd rfl h
      · rw [if_neg z] at h ⊢
        obtain ⟨a1, a2, a3, a4⟩ := pT_spec hi z
        obtain ⟨b1, b2, b3, b4⟩ := pP_spec k (pT t l i) a2 h
        refine ⟨by omega, b2, fun j h1 h2 => ?_, b4⟩
        rcases Nat.lt_or_ge j (pT t l i) with q | q
        · by_cases e : j = pT t l i - 1
          · rw [e]; exact Or.inr (Or.inr (Or.inr (Or.inr a4)))
          · exact Or.inr (Or.inr (Or.inl (a3 j h1 (by omega))))
        · exact b3 j q h2
/-- a descriptor -/
def dOne (t : Int64) (l : Nat) : Bool := if tch t (nI 0) = 40 then (if pP t l 8 1 = 0 then false else if tch t (nI (pP t l 8 1)) = 86 then decide (pP t l 8 1 + 1 = tlen t) else decide (¬ pT t l (pP t l 8 1) = 0 ∧ pT t l (pP t l 8 1) = tlen t)) else decide (¬ pT t l 0 = 0 ∧ pT t l 0 = tlen t)
theorem dOne_chars {t : Int64} {l : Nat} (h : dOne t l = true) : 1 ≤ tlen t ∧ (∀ i, i < tlen t → dch (tch t (nI i)) l) ∧ ∃ i j, i < j ∧ j < 8 ∧ isDig (tch t (nI i)) = false ∧ isDig (tch t (nI j)) = false := by
  have h8 := tlen_le t
  unfold dOne at h
  by_cases w : tch t (nI 0) = 40
  · rw [if_pos w] at h
    by_cases z : pP t l 8 1 = 0
    · rw [if_pos z] at h; cases h
    rw [if_neg z] at h
    obtain ⟨b1, b2, b3, b4⟩ := pP_spec 8 1 (by omega) z
    have hd : ∃ i j, i < j ∧ j < 8 ∧ isDig (tch t (nI i)) = false ∧ isDig (tch t (nI j)) = false := ⟨0, pP t l 8 1 - 1, by omega, by omega, by rw [w]; decide, by rw [b4]; decide⟩
    have hc : ∀ i, i < pP t l 8 1 → dch (tch t (nI i)) l := fun i hi => by
      cases i with
      | zero => exact Or.inl w
      | succ i => exact b3 (i + 1) (by omega) hi
    by_cases v : tch t (nI (pP t l 8 1)) = 86
    · rw [if_pos v, decide_eq_true_eq] at h
      refine ⟨by omega, fun i hi => ?_, hd⟩
      by_cases e : i = pP t l 8 1
      · rw [e]; exact Or.inr (Or.inr (Or.inr (Or.inl v)))
      · exact hc i (by omega)
    · rw [if_neg v, decide_eq_true_eq] at h
      obtain ⟨a1, a2, a3, a4⟩ := pT_spec b2 h.1
      refine ⟨by omega, fun i hi => ?_, hd⟩
      rcases Nat.lt_or_ge i (pP t l 8 1) with q | q
      · exact hc i q
      · by_cases e : i = pT t l (pP t l 8 1) - 1
        · rw [e]; exact Or.inr (Or.inr (Or.inr (Or.inr a4)))
        · exact Or.inr (Or.inr (Or.inl (a3 i q (by omega))))
  · rw [if_neg w, decide_eq_true_eq] at h
    obtain ⟨a1, a2, a3, a4⟩ := pT_spec (by omega) h.1
    refine ⟨by omega, fun i hi => ?_, ?_⟩
    · by_cases e : i = pT t l 0 - 1
      · rw [e]; exact Or.inr (Or.inr (Or.inr (Or.inr a4)))
      · exact Or.inr (Or.inr (Or.inl (a3 i (by omega) (by omega))))
    · rcases Nat.lt_or_ge 2 (pT t l 0) with q | q
      · exact ⟨0, 1, by omega, by omega, by rw [a3 0 (by omega) (by omega)]; decide, by rw [a3 1 (by omega) (by omega)]; decide⟩
      · have z6 : tch t (nI 6) = 0 := (tlenF_spec t 8).1 6 (by have : tlenF t 8 = tlen t := rfl; omega) (by omega)
        have z7 : tch t (nI 7) = 0 := (tlenF_spec t 8).1 7 (by have : tlenF t 8 = tlen t := rfl; omega) (by omega)
        exact ⟨6, 7, by omega, by omega, by rw [z6]; decide, by rw [z7]; decide⟩
theorem dOne_ok {t : Int64} {l : Nat} (hl : l ≤ 9) (h : dOne t l = true) : okD l t := by
  obtain ⟨h1, h2, h3⟩ := dOne_chars h
  exact ⟨tlen t, h1, tlen_le t, fun i hi => dch_ok hl (h2 i hi), fun i h4 h5 => (tlenF_spec t 8).1 i h4 h5, h3⟩
theorem nz_tx {t : Int64} (h : ∀ i, i < tlen t → ¬ tch t (nI i) = 0) : isTx t = true ∧ mlen t = tlen t := by
  obtain ⟨a, b, -⟩ := mlenF_spec t 8 0
  have e1 : mlen t = mlenF t 8 0 := rfl
  rw [← e1] at a b
  have e2 : tlen t = tlenF t 8 := rfl
  have hm := mlen_le t
  have ht := tlen_le t
  have c := (tlenF_spec t 8).1
  rw [← e2] at c
  have hx : isTx t = true := by
    rw [isTx_spec]
    intro j h1 h2
    refine c j ?_ h2
    rcases Nat.lt_or_ge (mlen t) (tlen t) with q | q
    · exact absurd (b (by omega)) (h _ q)
    · omega
  exact ⟨hx, mlen_tlen t hx⟩
theorem dOne_tx {t : Int64} {l : Nat} (hl : l ≤ 9) (h : dOne t l = true) : isTx t = true ∧ mlen t = tlen t ∧ 1 ≤ tlen t := by
  obtain ⟨h1, h2, -⟩ := dOne_chars h
  obtain ⟨a, b⟩ := nz_tx (t := t) (fun i hi => (dch_ok hl (h2 i hi)).1)
  exact ⟨a, b, h1⟩
-- identifiers: both sides' are the same
def nsl (t : Int64) : Nat → Nat → Bool
  | 0, _ => true
  | k + 1, i => !decide (tch t (nI i) = 47) && nsl t k (i + 1)
theorem mnR_id (t : Int64) : ∀ (k i : Nat) (g b : Bool), mnR t true k i g b = (g && (nmR t k i b && nsl t k i))
  | 0, i, g, b => by unfold mnR nmR nsl; rw [Bool.and_true]
  | k + 1, i, g, b => by
    unfold mnR nmR nsl
    by_cases hc : tch t (nI i) = 47
    · rw [if_pos hc, mnR_id t k (i + 1), decide_eq_true hc]
      simp
    · rw [if_neg hc, mnR_id t k (i + 1), decide_eq_false hc]
      cases g <;> cases b <;> cases hl : isLet (tch t (nI i)) <;> cases hd : isDig (tch t (nI i)) <;> simp [hc]
theorem nsl_iff (t : Int64) : ∀ (k i : Nat), nsl t k i = true ↔ ∀ j, i ≤ j → j < i + k → ¬ tch t (nI j) = 47
  | 0, i => ⟨fun _ j h1 h2 => by omega, fun _ => rfl⟩
  | k + 1, i => by
    unfold nsl
    rw [Bool.and_eq_true, nsl_iff t k (i + 1), Bool.not_eq_true', decide_eq_false_iff_not]
    constructor
    · rintro ⟨h1, h2⟩ j h3 h4
      by_cases e : j = i
      · rw [e]; exact h1
      · exact h2 j (by omega) (by omega)
    · intro h
      exact ⟨h i (by omega) (by omega), fun j h1 h2 => h j (by omega) (by omega)⟩
theorem lsF_iff (t : Int64) : ∀ (k : Nat), lsF t k = 0 ↔ ∀ j, j < k → ¬ tch t (nI j) = 47
  | 0 => ⟨fun _ j h => by omega, fun _ => rfl⟩
  | k + 1 => by
    unfold lsF
    by_cases w : tch t (nI k) = 47
    · rw [if_pos w]
      exact ⟨fun h => by omega, fun h => absurd w (h k (by omega))⟩
    · rw [if_neg w, lsF_iff t k]
      constructor
      · intro h j hj
        by_cases e : j = k
        · rw [e]; exact w
        · exact h j (by omega)
      · exact fun h j hj => h j (by omega)
theorem mName_id (t : Int64) : mName t true = isId t := by
  have hc := mName_cn t
  unfold mName at hc ⊢
  rw [mnR_id]
  rw [mnR_nmR] at hc
  rw [← Bool.and_assoc, hc]
  unfold isId
  cases h : isCN t with
  | false => rfl
  | true =>
    rw [h] at hc
    rw [Bool.and_eq_true, Bool.and_eq_true] at hc
    rw [mlen_tlen t hc.1.1, Bool.true_and, Bool.true_and, Bool.eq_iff_iff, nsl_iff, decide_eq_true_eq]
    unfold lsl
    rw [lsF_iff]
    have h8 := tlen_le t
    constructor
    · intro q j hj
      rcases Nat.lt_or_ge j (tlen t) with w | w
      · exact q j (by omega) (by omega)
      · rw [(tlenF_spec t 8).1 j w hj]; decide
    · exact fun q j h1 h2 => q j (by omega)
