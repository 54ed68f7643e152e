-- packages: both sides' are the same
theorem mk_1 : ∀ s, s < 8 → ∀ b, b < 64 → ((xshl 1 ((8 : Int32) * nI s)) - 1).toBitVec.getLsbD b = decide (b < 8 * s) := by decide +kernel
theorem mk_255 : ∀ s, s < 8 → ∀ b, b < 64 → (xshl 255 ((8 : Int32) * nI s)).toBitVec.getLsbD b = (decide (8 * s ≤ b) && decide (b < 8 * s + 8)) := by decide +kernel
theorem i64_ext {x y : Int64} (h : ∀ b, b < 64 → x.toBitVec.getLsbD b = y.toBitVec.getLsbD b) : x = y := by
  apply Int64.toBitVec_inj.mp
  apply BitVec.eq_of_getLsbD_eq
  exact fun i hi => h i hi
def frF (t : Int64) : Nat → Nat → Int64 → Int64
  | 0, _, r => r
  | k + 1, i, r => frF t k (i + 1) (r ||| (t &&& xshl 255 ((8 : Int32) * nI i)))
theorem frF_bit (t : Int64) : ∀ (k i : Nat) (r : Int64), i + k ≤ 8 → ∀ b, b < 64 → (frF t k i r).toBitVec.getLsbD b = (r.toBitVec.getLsbD b || (decide (8 * i ≤ b) && decide (b < 8 * (i + k)) && t.toBitVec.getLsbD b))
  | 0, i, r, _, b, hb => by
    unfold frF
    by_cases h1 : 8 * i ≤ b
    · rw [decide_eq_false (by omega : ¬ b < 8 * (i + 0))]; simp
    · rw [decide_eq_false h1]; simp
  | k + 1, i, r, h, b, hb => by
    unfold frF
    rw [frF_bit t k (i + 1) _ (by omega) b hb, Int64.toBitVec_or, BitVec.getLsbD_or, Int64.toBitVec_and, BitVec.getLsbD_and, mk_255 i (by omega) b hb]
    cases r.toBitVec.getLsbD b <;> cases t.toBitVec.getLsbD b <;> simp only [Bool.false_or, Bool.true_or, Bool.and_true, Bool.and_false, Bool.or_false, Bool.true_and, Bool.false_and]
    rw [Bool.eq_iff_iff]
    simp only [Bool.or_eq_true, Bool.and_eq_true, decide_eq_true_eq]
    omega
theorem frF_mask (t : Int64) (s : Nat) (hs : s < 8) : frF t s 0 0 = t &&& (xshl 1 ((8 : Int32) * nI s) - 1) := by
  refine i64_ext fun b hb => ?_
  rw [frF_bit t s 0 0 (by omega) b hb, Int64.toBitVec_and, BitVec.getLsbD_and, mk_1 s hs b hb]
  have : (0 : Int64).toBitVec.getLsbD b = false := by simp
  rw [this]
  cases t.toBitVec.getLsbD b <;> simp
def pkg (t : Int64) : Int64 := if lsl t = 0 then 0 else t &&& (xshl 1 ((8 : Int32) * nI (lsl t - 1)) - 1)
theorem p_T_packageOf {h : xH} {Q : xQ} {t : Int64} (hq : Q (.inl (some (.long (pkg t)))) h 0) : xRun tb_T_packageOf 3 [.long t] h Q := by
  refine ⟨Nat.le_of_ble_eq_true rfl, ?_⟩
  refine xG.go [1] 60 ?_
  show xG tb_T_packageOf Q (1, [some (.long t), none, none], [.long t], h, 0)
  refine xG.call (F := xRun tb_T_lastSlash 3) rfl rfl (p_T_lastSlash ?_)
  have h8 := lsl_le t
  unfold pkg at hq
  cases hl : lsl t with
  | zero =>
    rw [hl, if_pos rfl] at hq
    refine xG.go [1] 60 ?_
    show ((0 ≤ (nI 0 - 1) → Q (.inl (some (.long (t &&& ((xshl (1 : Int64) ((8 : Int32) * (nI 0 - 1))) - (1 : Int64)))))) h 0) ∧ (¬ 0 ≤ (nI 0 - 1) → Q (.inl (some (.long (0 : Int64)))) h 0))
    exact br_n (by decide) hq
  | succ s =>
    rw [hl, if_neg (by omega)] at hq
    rw [nI_pred]
    refine xG.go [1] 60 ?_
    show ((0 ≤ (nI s) → Q (.inl (some (.long (t &&& ((xshl (1 : Int64) ((8 : Int32) * (nI s))) - (1 : Int64)))))) h 0) ∧ (¬ 0 ≤ (nI s) → Q (.inl (some (.long (0 : Int64)))) h 0))
    exact br_y (nI_pos' (by omega)) hq
def lpF (t : Int64) : Nat → Nat → Nat → Nat
  | 0, _, a => a
  | k + 1, i, a => lpF t k (i + 1) (if tch t (nI i) = 47 then i + 1 else a)
theorem lpF_ls (t : Int64) : ∀ (k i : Nat), lpF t k i (lsF t i) = lsF t (i + k)
  | 0, i => rfl
  | k + 1, i => by
    unfold lpF
    have e : (if tch t (nI i) = 47 then i + 1 else lsF t i) = lsF t (i + 1) := rfl
    rw [e, lpF_ls t k (i + 1), show i + 1 + k = i + (k + 1) by omega]
theorem p_M_lastPart_l {h : xH} {Q : xQ} {t : Int64} : ∀ (k i a : Nat), i + k = 8 → Q (.inl (some (.int (nI (lpF t k i a))))) h 0 → xG tb_M_lastPart Q (4, [some (.long t), none, some (.int (nI a)), some (.int (nI i))], [], h, 0)
  | 0, i, a, e, hq => by
    refine xG.go [4, 12] 60 ?_
    show (((8 : Int32) ≤ (nI i) → Q (.inl (some (.int (nI a)))) h 0) ∧ (¬ (8 : Int32) ≤ (nI i) → xG tb_M_lastPart Q (12, [some (.long t), none, some (.int (nI a)), some (.int (nI i))], [.int (nI i), .long t], h, 0)))
    exact br_y (nI_le (a := 8) (by omega) (by omega)) hq
  | k + 1, i, a, e, hq => by
    refine xG.go [4, 12] 60 ?_
    show (((8 : Int32) ≤ (nI i) → Q (.inl (some (.int (nI a)))) h 0) ∧ (¬ (8 : Int32) ≤ (nI i) → xG tb_M_lastPart Q (12, [some (.long t), none, some (.int (nI a)), some (.int (nI i))], [.int (nI i), .long t], h, 0)))
    refine br_n (nI_ge (b := 8) (by omega) (by omega)) ?_
    refine xG.call (F := xRun tb_M_charAt 3) rfl rfl (p_M_charAt (by omega) ?_)
    refine xG.go [4, 12] 60 ?_
    show (((tch t (nI i)) = (47 : Int32) → xG tb_M_lastPart Q (4, [some (.long t), none, some (.int ((nI i) + (1 : Int32))), some (.int ((nI i) + (1 : Int32)))], [], h, 0)) ∧ (¬ (tch t (nI i)) = (47 : Int32) → xG tb_M_lastPart Q (4, [some (.long t), none, some (.int (nI a)), some (.int ((nI i) + (1 : Int32)))], [], h, 0)))
    rw [nI_1]
    unfold lpF at hq
    refine ⟨fun z => ?_, fun z => ?_⟩
    · rw [if_pos z] at hq
      exact p_M_lastPart_l k (i + 1) (i + 1) (by omega) hq
    · rw [if_neg z] at hq
      exact p_M_lastPart_l k (i + 1) a (by omega) hq
theorem p_M_lastPart {h : xH} {Q : xQ} {t : Int64} (hq : Q (.inl (some (.int (nI (lsl t))))) h 0) : xRun tb_M_lastPart 4 [.long t] h Q := by
  refine ⟨Nat.le_of_ble_eq_true rfl, ?_⟩
  refine xG.go [4, 12] 20 ?_
  show xG tb_M_lastPart Q (4, [some (.long t), none, some (.int (nI 0)), some (.int (nI 0))], [], h, 0)
  refine p_M_lastPart_l 8 0 0 rfl ?_
  rw [show lpF t 8 0 0 = lsl t from lpF_ls t 8 0]
  exact hq
theorem p_M_front_l {h : xH} {Q : xQ} {t : Int64} {n : Nat} (hn : n ≤ 8) : ∀ (k i : Nat) (r : Int64), i + k = n → Q (.inl (some (.long (frF t k i r)))) h 0 → xG tb_M_front Q (5, [some (.long t), none, some (.int (nI n)), some (.long r), none, some (.int (nI i))], [], h, 0)
  | 0, i, r, e, hq => by
    refine xG.go [5] 60 ?_
    show (((nI n) ≤ (nI i) → Q (.inl (some (.long r))) h 0) ∧ (¬ (nI n) ≤ (nI i) → xG tb_M_front Q (5, [some (.long t), none, some (.int (nI n)), some (.long (r ||| (t &&& (xshl (255 : Int64) ((8 : Int32) * (nI i)))))), none, some (.int ((nI i) + (1 : Int32)))], [], h, 0)))
    exact br_y (nI_le (by omega) (by omega)) hq
  | k + 1, i, r, e, hq => by
    refine xG.go [5] 60 ?_
    show (((nI n) ≤ (nI i) → Q (.inl (some (.long r))) h 0) ∧ (¬ (nI n) ≤ (nI i) → xG tb_M_front Q (5, [some (.long t), none, some (.int (nI n)), some (.long (r ||| (t &&& (xshl (255 : Int64) ((8 : Int32) * (nI i)))))), none, some (.int ((nI i) + (1 : Int32)))], [], h, 0)))
    rw [nI_1]
    exact br_n (nI_ge (by omega) (by omega)) (p_M_front_l hn k (i + 1) _ (by omega) hq)
theorem p_M_front {h : xH} {Q : xQ} {t : Int64} {n : Nat} (hn : n < 8) (hq : Q (.inl (some (.long (t &&& (xshl 1 ((8 : Int32) * nI n) - 1))))) h 0) : xRun tb_M_front 6 [.long t, .int (nI n)] h Q := by
  refine ⟨Nat.le_of_ble_eq_true rfl, ?_⟩
  refine xG.go [5] 20 ?_
  show xG tb_M_front Q (5, [some (.long t), none, some (.int (nI n)), some (.long 0), none, some (.int (nI 0))], [], h, 0)
  refine p_M_front_l (by omega) n 0 0 (Nat.zero_add n) ?_
  rw [frF_mask t n hn]
  exact hq
theorem pkg_00 (t : Int64) : t &&& (xshl 1 ((8 : Int32) * nI 0) - 1) = 0 := by
  have e : xshl 1 ((8 : Int32) * nI 0) - 1 = 0 := by decide
  rw [e]
  exact Int64.and_zero
theorem p_M_packageOf {h : xH} {Q : xQ} {t : Int64} (hq : Q (.inl (some (.long (pkg t)))) h 0) : xRun tb_M_packageOf 3 [.long t] h Q := by
  refine ⟨Nat.le_of_ble_eq_true rfl, ?_⟩
  refine xG.go [1, 18] 60 ?_
  show xG tb_M_packageOf Q (1, [some (.long t), none, none], [.long t], h, 0)
  refine xG.call (F := xRun tb_M_lastPart 4) rfl rfl (p_M_lastPart ?_)
  have h8 := lsl_le t
  unfold pkg at hq
  cases hl : lsl t with
  | zero =>
    rw [hl, if_pos rfl] at hq
    refine xG.go [1, 18] 60 ?_
    show (((1 : Int32) ≤ (nI 0) → xG tb_M_packageOf Q (18, [some (.long t), none, some (.int (nI 0))], [.int ((nI 0) - (1 : Int32)), .long t], h, 0)) ∧ (¬ (1 : Int32) ≤ (nI 0) → xG tb_M_packageOf Q (18, [some (.long t), none, some (.int (nI 0))], [.int (0 : Int32), .long t], h, 0)))
    refine br_n (by decide) ?_
    refine xG.call (F := xRun tb_M_front 6) rfl rfl (p_M_front (n := 0) (by omega) ?_)
    rw [pkg_00]
    refine xG.go [1, 18] 60 ?_
    show Q (.inl (some (.long (0 : Int64)))) h 0
    exact hq
  | succ s =>
    rw [hl, if_neg (by omega)] at hq
    refine xG.go [1, 18] 60 ?_
    show (((1 : Int32) ≤ (nI (s + 1)) → xG tb_M_packageOf Q (18, [some (.long t), none, some (.int (nI (s + 1)))], [.int ((nI (s + 1)) - (1 : Int32)), .long t], h, 0)) ∧ (¬ (1 : Int32) ≤ (nI (s + 1)) → xG tb_M_packageOf Q (18, [some (.long t), none, some (.int (nI (s + 1)))], [.int (0 : Int32), .long t], h, 0)))
    rw [nI_pred]
    refine br_y (nI_le (a := 1) (by omega) (by omega)) ?_
    refine xG.call (F := xRun tb_M_front 6) rfl rfl (p_M_front (n := s) (by omega) ?_)
    refine xG.go [1, 18] 60 ?_
    show Q (.inl (some (.long (t &&& (xshl 1 ((8 : Int32) * nI s) - 1))))) h 0
    exact hq
