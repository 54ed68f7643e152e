-- texts by their bits
abbrev tb (t : Int64) (b : Nat) : Bool := t.toBitVec.getLsbD b
theorem c8 {i : Nat} (h : i < 8) : i = 0 ∨ i = 1 ∨ i = 2 ∨ i = 3 ∨ i = 4 ∨ i = 5 ∨ i = 6 ∨ i = 7 := by omega
theorem ushr_bv (t : Int64) {i : Nat} (h : i < 8) : (xushr t ((8 : Int32) * nI i)).toBitVec = t.toBitVec >>> (8 * i) := by
  rcases c8 h with rfl | rfl | rfl | rfl | rfl | rfl | rfl | rfl <;> rfl
theorem shl_bv (t : Int64) {i : Nat} (h : i < 8) : (xshl t ((8 : Int32) * nI i)).toBitVec = t.toBitVec <<< (8 * i) := by
  unfold xshl
  rw [Int64.toBitVec_shiftLeft]
  rcases c8 h with rfl | rfl | rfl | rfl | rfl | rfl | rfl | rfl <;> rfl
theorem tb_ushr (t : Int64) {i : Nat} (h : i < 8) (b : Nat) : tb (xushr t ((8 : Int32) * nI i)) b = tb t (8 * i + b) := by
  unfold tb
  rw [ushr_bv t h, BitVec.getLsbD_ushiftRight]
theorem tb_shl (t : Int64) {i : Nat} (h : i < 8) {b : Nat} (hb : b < 64) : tb (xshl t ((8 : Int32) * nI i)) b = (decide (8 * i ≤ b) && tb t (b - 8 * i)) := by
  unfold tb
  rw [shl_bv t h, BitVec.getLsbD_shiftLeft, decide_eq_true hb, Bool.true_and]
  congr 1
  by_cases w : b < 8 * i
  · rw [decide_eq_true w, decide_eq_false (by omega)]; rfl
  · rw [decide_eq_false w, decide_eq_true (by omega)]; rfl
theorem tb_out {t : Int64} {b : Nat} (hb : 64 ≤ b) : tb t b = false := BitVec.getLsbD_of_ge _ _ hb
theorem tch_bit (t : Int64) {i : Nat} (h : i < 8) (j : Nat) : (tch t (nI i)).toBitVec.getLsbD j = (decide (j < 8) && tb t (8 * i + j)) := by
  unfold tch
  rw [if_neg (nI_pos (by omega)), if_pos (show nI i < 8 from nI_lt (b := 8) h (by omega)), Int32.toBitVec_and, BitVec.getLsbD_and]
  have e : ((xushr t ((8 : Int32) * nI i)).toInt32).toBitVec = ((xushr t ((8 : Int32) * nI i)).toBitVec).signExtend 32 := rfl
  rw [e, BitVec.getLsbD_signExtend]
  have e2 := tb_ushr t h j
  unfold tb at e2 ⊢
  rw [e2]
  by_cases w : j < 8
  · rw [decide_eq_true w, decide_eq_true (by omega : j < 32), if_pos (by omega)]
    have : ∀ j, j < 8 → (255 : Int32).toBitVec.getLsbD j = true := by decide
    rw [this j w]
    simp
  · rw [decide_eq_false w, Bool.false_and]
    by_cases z : j < 32
    · have : ∀ j, j < 32 → ¬ j < 8 → (255 : Int32).toBitVec.getLsbD j = false := by decide
      rw [this j z w, Bool.and_false]
    · rw [decide_eq_false z, Bool.false_and, Bool.false_and]
theorem i32_ext {x y : Int32} (h : ∀ b, b < 32 → x.toBitVec.getLsbD b = y.toBitVec.getLsbD b) : x = y := by
  apply Int32.toBitVec_inj.mp
  apply BitVec.eq_of_getLsbD_eq
  exact fun i hi => h i hi
theorem tch_ext {t u : Int64} {i k : Nat} (hi : i < 8) (hk : k < 8) (h : ∀ j, j < 8 → tb t (8 * i + j) = tb u (8 * k + j)) : tch t (nI i) = tch u (nI k) := by
  refine i32_ext fun b hb => ?_
  rw [tch_bit t hi, tch_bit u hk]
  by_cases w : b < 8
  · rw [h b w]
  · rw [decide_eq_false w, Bool.false_and, Bool.false_and]
theorem tch_eq_bits {t u : Int64} {i k : Nat} (hi : i < 8) (hk : k < 8) (h : tch t (nI i) = tch u (nI k)) : ∀ j, j < 8 → tb t (8 * i + j) = tb u (8 * k + j) := fun j hj => by
  have e1 := tch_bit t hi j
  have e2 := tch_bit u hk j
  rw [h, e2, decide_eq_true hj, Bool.true_and, Bool.true_and] at e1
  exact e1.symm
theorem tch_z {t : Int64} {i : Nat} (hi : i < 8) (h : tch t (nI i) = 0) : ∀ j, j < 8 → tb t (8 * i + j) = false := fun j hj => by
  have e1 := tch_bit t hi j
  rw [h, decide_eq_true hj, Bool.true_and] at e1
  rw [← e1]
  simp
theorem tch_z' {t : Int64} {i : Nat} (hi : i < 8) (h : ∀ j, j < 8 → tb t (8 * i + j) = false) : tch t (nI i) = 0 := by
  refine i32_ext fun b hb => ?_
  rw [tch_bit t hi]
  by_cases w : b < 8
  · rw [h b w, Bool.and_false]; simp
  · rw [decide_eq_false w, Bool.false_and]; simp
theorem tb_tch (t : Int64) {i : Nat} (h : i < 8) (j : Nat) : tb (tch t (nI i)).toInt64 j = (decide (j < 8) && tb t (8 * i + j)) := by
  by_cases hj : j < 64
  · have e : ((tch t (nI i)).toInt64).toBitVec = (tch t (nI i)).toBitVec.signExtend 64 := rfl
    unfold tb
    rw [e, BitVec.getLsbD_signExtend, decide_eq_true hj, Bool.true_and]
    have hm : (tch t (nI i)).toBitVec.msb = false := by
      rw [BitVec.msb_eq_getLsbD_last, tch_bit t h]
      rfl
    split
    · rw [tch_bit t h]
    · rw [hm, decide_eq_false (by omega), Bool.false_and]
  · rw [tb_out (by omega), decide_eq_false (by omega), Bool.false_and]
theorem tb_or (x y : Int64) (b : Nat) : tb (x ||| y) b = (tb x b || tb y b) := by
  unfold tb
  rw [Int64.toBitVec_or, BitVec.getLsbD_or]
theorem tb_0 (b : Nat) : tb 0 b = false := by
  show (0 : Int64).toBitVec.getLsbD b = false
  simp
theorem tb_hi {t : Int64} {l b : Nat} (hz : ∀ i, l ≤ i → i < 8 → tch t (nI i) = 0) (hb : 8 * l ≤ b) : tb t b = false := by
  rcases Nat.lt_or_ge b 64 with q | q
  · have := tch_z (i := b / 8) (by omega) (hz (b / 8) (by omega) (by omega)) (b % 8) (by omega)
    rw [show 8 * (b / 8) + b % 8 = b by omega] at this
    exact this
  · exact tb_out q
/-- what the length is -/
theorem tlen_is {t : Int64} {l : Nat} (h8 : l ≤ 8) (hn : l = 0 ∨ ¬ tch t (nI (l - 1)) = 0) (hz : ∀ i, l ≤ i → i < 8 → tch t (nI i) = 0) : tlen t = l := by
  obtain ⟨c, d⟩ := tlenF_spec t 8
  have e : tlen t = tlenF t 8 := rfl
  have ht := tlen_le t
  rw [← e] at c d
  rcases Nat.lt_trichotomy (tlen t) l with q | q | q
  · rcases hn with hn | hn
    · omega
    · exact absurd (c (l - 1) (by omega) (by omega)) hn
  · exact q
  · exact absurd (hz (tlen t - 1) (by omega) (by omega)) (d (by omega))
theorem mlen_is {t : Int64} {l : Nat} (h8 : l ≤ 8) (hn : ∀ i, i < l → ¬ tch t (nI i) = 0) (hz : ∀ i, l ≤ i → i < 8 → tch t (nI i) = 0) : mlen t = l := by
  have e := tlen_is h8 (by rcases Nat.eq_zero_or_pos l with q | q; exact Or.inl q; exact Or.inr (hn _ (by omega))) hz
  rw [(nz_tx (t := t) (fun i hi => hn i (by omega))).2, e]
theorem okT_len {t : Int64} (h : okT t) : 1 ≤ tlen t ∧ tlen t ≤ 8 ∧ mlen t = tlen t ∧ isTx t = true ∧ (∀ i, i < tlen t → ¬ tch t (nI i) = 0 ∧ ¬ tch t (nI i) = 59) ∧ ¬ tch t (nI (tlen t - 1)) = 47 ∧ ∀ i, tlen t ≤ i → i < 8 → tch t (nI i) = 0 := by
  obtain ⟨l, h1, h2, h3, h4, h5⟩ := h
  have e := tlen_is h2 (Or.inr (h3 (l - 1) (by omega)).1) h5
  rw [e]
  have q := nz_tx (t := t) (fun i hi => (h3 i (by omega)).1)
  exact ⟨h1, h2, q.2.trans e, q.1, h3, h4, h5⟩
theorem lsF_spec (t : Int64) : ∀ k, (∀ j, lsF t k ≤ j → j < k → ¬ tch t (nI j) = 47) ∧ (0 < lsF t k → tch t (nI (lsF t k - 1)) = 47)
  | 0 => ⟨fun j _ h => by omega, fun h => by unfold lsF at h; omega⟩
  | k + 1 => by
    unfold lsF
    split
    · rename_i hz
      exact ⟨fun j h1 h2 => by omega, fun _ => hz⟩
    · rename_i hz
      obtain ⟨a, b⟩ := lsF_spec t k
      refine ⟨fun j h1 h2 => ?_, b⟩
      by_cases e : j = k
      · subst e; exact hz
      · exact a j h1 (by omega)
theorem okT_ls {t : Int64} (h : okT t) : lsl t < tlen t := by
  obtain ⟨h1, h2, -, -, h3, h4, h5⟩ := okT_len h
  have := lsl_le t
  rcases Nat.lt_or_ge (lsl t) (tlen t) with q | q
  · exact q
  · have e := (lsF_spec t 8).2 (show 0 < lsl t by omega)
    have e' : tch t (nI (lsl t - 1)) = 47 := e
    by_cases w : lsl t = tlen t
    · rw [w] at e'
      exact absurd e' h4
    · rw [h5 (lsl t - 1) (by omega) (by omega)] at e'
      exact absurd e' (by decide)
