theorem br_y {p X Y : Prop} (z : p) (h : X) : (p → X) ∧ (¬ p → Y) := ⟨fun _ => h, fun w => absurd z w⟩
theorem br_n {p X Y : Prop} (z : ¬ p) (h : Y) : (p → X) ∧ (¬ p → Y) := ⟨fun w => absurd w z, fun _ => h⟩
theorem isC_t {m c : Int32} (h : isC m c = true) : ¬ c < 0 ∧ ¬ m ≤ c := by
  unfold isC at h
  split at h
  · cases h
  · split at h
    · cases h
    · rename_i h1 h2
      exact ⟨h1, h2⟩
theorem isC_f {m c : Int32} (h : isC m c = false) : c < 0 ∨ m ≤ c := by
  unfold isC at h
  split at h
  · rename_i h1
    exact Or.inl h1
  · split at h
    · rename_i h1 h2
      exact Or.inr h2
    · cases h
theorem isC_ix {n : Nat} {c : Int32} (hn : n < 2 ^ 31) (h : isC (nI n) c = true) : ∃ k, k < n ∧ c = nI k := by
  obtain ⟨h1, h2⟩ := isC_t h
  rcases pk_ix c hn with q | q | q
  · exact absurd q h1
  · exact absurd q h2
  · exact q
theorem p_B_has_b {I : Nat → Int32} {A : Nat → Nat → Int32} {B : Nat → Nat → Int64} {Q : xQ} {i : Int32} (hq : Q (.inl (some (.int (bI (isC (I 1) i))))) (HX I A B) 0) : xRun tb_B_has 2 [.ref 12, .int i] (HX I A B) Q := by
  refine ⟨Nat.le_of_ble_eq_true rfl, xG.go [] 30 ?_⟩
  show ((i < 0 → (((0 : Int32) = (0 : Int32) ∨ (0 : Int32) = 1) ∧ Q (.inl (some (.int (0 : Int32)))) (HX I A B) 0)) ∧ (¬ i < 0 → (((I 1) ≤ i → (((0 : Int32) = (0 : Int32) ∨ (0 : Int32) = 1) ∧ Q (.inl (some (.int (0 : Int32)))) (HX I A B) 0)) ∧ (¬ (I 1) ≤ i → (((1 : Int32) = (0 : Int32) ∨ (1 : Int32) = 1) ∧ Q (.inl (some (.int (1 : Int32)))) (HX I A B) 0)))))
  unfold isC at hq
  refine ⟨fun h1 => ?_, fun h1 => ⟨fun h2 => ?_, fun h2 => ?_⟩⟩
  · rw [if_pos h1] at hq; exact ⟨Or.inl rfl, hq⟩
  · rw [if_neg h1, if_pos h2] at hq; exact ⟨Or.inl rfl, hq⟩
  · rw [if_neg h1, if_neg h2] at hq; exact ⟨Or.inr rfl, hq⟩
theorem p_B_get_b {I : Nat → Int32} {A : Nat → Nat → Int32} {B : Nat → Nat → Int64} {Q : xQ} {i : Int32} {n : Nat} (h8 : n ≤ 512) (e1 : I 1 = nI n) (hq : Q (.inl (some (.int (if isC (I 1) i = true then A 13 i.toNatClampNeg else 0)))) (HX I A B) 0) : xRun tb_B_get 2 [.ref 12, .int i] (HX I A B) Q := by
  refine ⟨Nat.le_of_ble_eq_true rfl, xG.go [] 30 ?_⟩
  show ((i < 0 → Q (.inl (some (.int (0 : Int32)))) (HX I A B) 0) ∧ (¬ i < 0 → (((I 1) ≤ i → Q (.inl (some (.int (0 : Int32)))) (HX I A B) 0) ∧ (¬ (I 1) ≤ i → (vp_in i 512 ∧ Q (.inl (some (.int ((A 13) i.toNatClampNeg)))) (HX I A B) 0)))))
  cases h : isC (I 1) i with
  | true =>
    rw [h, if_pos rfl] at hq
    obtain ⟨h1, h2⟩ := isC_t h
    rw [e1] at h
    obtain ⟨j, hj, rfl⟩ := isC_ix (by omega) h
    exact br_n h1 (br_n h2 ⟨vp_in_nI (by omega) (by omega), hq⟩)
  | false =>
    rw [h, if_neg (by decide)] at hq
    exact ⟨fun _ => hq, fun z => br_y ((isC_f h).resolve_left z) hq⟩
theorem p_B_set_b {I : Nat → Int32} {A : Nat → Nat → Int32} {B : Nat → Nat → Int64} {Q : xQ} {i x : Int32} {n : Nat} (h8 : n ≤ 512) (e1 : I 1 = nI n) (hy : isC (I 1) i = true → Q (.inl none) (HX I (va_up A 13 (upd (A 13) i.toNatClampNeg x)) B) 0) (hn : isC (I 1) i = false → Q (.inl none) (HX I A B) 0) : xRun tb_B_set 3 [.ref 12, .int i, .int x] (HX I A B) Q := by
  refine ⟨Nat.le_of_ble_eq_true rfl, ?_⟩
  refine xG.go [2] 30 ?_
  show xG tb_B_set Q (2, [some (.ref 12), some (.int i), some (.int x)], [.int i, .ref 12], (HX I A B), 0)
  refine xG.callV (F := xRun tb_B_has 2) (a := 12) rfl rfl rfl rfl (p_B_has_b ?_)
  refine xG.go [2] 30 ?_
  show (((bI (isC (I 1) i)) = 0 → Q (.inl none) (HX I A B) 0) ∧ (¬ (bI (isC (I 1) i)) = 0 → (vp_in i 512 ∧ Q (.inl none) (HX I (va_up A 13 (upd (A 13) i.toNatClampNeg x)) B) 0)))
  cases h : isC (I 1) i with
  | true =>
    have hy := hy h
    rw [e1] at h
    obtain ⟨j, hj, rfl⟩ := isC_ix (by omega) h
    exact br_n (by decide) ⟨vp_in_nI (by omega) (by omega), hy⟩
  | false => exact br_y rfl (hn h)
theorem p_B_has_t {I : Nat → Int32} {A : Nat → Nat → Int32} {B : Nat → Nat → Int64} {Q : xQ} {i : Int32} (hq : Q (.inl (some (.int (bI (isC (I 2) i))))) (HX I A B) 0) : xRun tb_B_has 2 [.ref 14, .int i] (HX I A B) Q := by
  refine ⟨Nat.le_of_ble_eq_true rfl, xG.go [] 30 ?_⟩
  show ((i < 0 → (((0 : Int32) = (0 : Int32) ∨ (0 : Int32) = 1) ∧ Q (.inl (some (.int (0 : Int32)))) (HX I A B) 0)) ∧ (¬ i < 0 → (((I 2) ≤ i → (((0 : Int32) = (0 : Int32) ∨ (0 : Int32) = 1) ∧ Q (.inl (some (.int (0 : Int32)))) (HX I A B) 0)) ∧ (¬ (I 2) ≤ i → (((1 : Int32) = (0 : Int32) ∨ (1 : Int32) = 1) ∧ Q (.inl (some (.int (1 : Int32)))) (HX I A B) 0)))))
  unfold isC at hq
  refine ⟨fun h1 => ?_, fun h1 => ⟨fun h2 => ?_, fun h2 => ?_⟩⟩
  · rw [if_pos h1] at hq; exact ⟨Or.inl rfl, hq⟩
  · rw [if_neg h1, if_pos h2] at hq; exact ⟨Or.inl rfl, hq⟩
  · rw [if_neg h1, if_neg h2] at hq; exact ⟨Or.inr rfl, hq⟩
theorem p_B_get_t {I : Nat → Int32} {A : Nat → Nat → Int32} {B : Nat → Nat → Int64} {Q : xQ} {i : Int32} {n : Nat} (h8 : n ≤ 512) (e1 : I 2 = nI n) (hq : Q (.inl (some (.int (if isC (I 2) i = true then A 15 i.toNatClampNeg else 0)))) (HX I A B) 0) : xRun tb_B_get 2 [.ref 14, .int i] (HX I A B) Q := by
  refine ⟨Nat.le_of_ble_eq_true rfl, xG.go [] 30 ?_⟩
  show ((i < 0 → Q (.inl (some (.int (0 : Int32)))) (HX I A B) 0) ∧ (¬ i < 0 → (((I 2) ≤ i → Q (.inl (some (.int (0 : Int32)))) (HX I A B) 0) ∧ (¬ (I 2) ≤ i → (vp_in i 512 ∧ Q (.inl (some (.int ((A 15) i.toNatClampNeg)))) (HX I A B) 0)))))
  cases h : isC (I 2) i with
  | true =>
    rw [h, if_pos rfl] at hq
    obtain ⟨h1, h2⟩ := isC_t h
    rw [e1] at h
    obtain ⟨j, hj, rfl⟩ := isC_ix (by omega) h
    exact br_n h1 (br_n h2 ⟨vp_in_nI (by omega) (by omega), hq⟩)
  | false =>
    rw [h, if_neg (by decide)] at hq
    exact ⟨fun _ => hq, fun z => br_y ((isC_f h).resolve_left z) hq⟩
theorem p_B_set_t {I : Nat → Int32} {A : Nat → Nat → Int32} {B : Nat → Nat → Int64} {Q : xQ} {i x : Int32} {n : Nat} (h8 : n ≤ 512) (e1 : I 2 = nI n) (hy : isC (I 2) i = true → Q (.inl none) (HX I (va_up A 15 (upd (A 15) i.toNatClampNeg x)) B) 0) (hn : isC (I 2) i = false → Q (.inl none) (HX I A B) 0) : xRun tb_B_set 3 [.ref 14, .int i, .int x] (HX I A B) Q := by
  refine ⟨Nat.le_of_ble_eq_true rfl, ?_⟩
  refine xG.go [2] 30 ?_
  show xG tb_B_set Q (2, [some (.ref 14), some (.int i), some (.int x)], [.int i, .ref 14], (HX I A B), 0)
  refine xG.callV (F := xRun tb_B_has 2) (a := 14) rfl rfl rfl rfl (p_B_has_t ?_)
  refine xG.go [2] 30 ?_
  show (((bI (isC (I 2) i)) = 0 → Q (.inl none) (HX I A B) 0) ∧ (¬ (bI (isC (I 2) i)) = 0 → (vp_in i 512 ∧ Q (.inl none) (HX I (va_up A 15 (upd (A 15) i.toNatClampNeg x)) B) 0)))
  cases h : isC (I 2) i with
  | true =>
    have hy := hy h
    rw [e1] at h
    obtain ⟨j, hj, rfl⟩ := isC_ix (by omega) h
    exact br_n (by decide) ⟨vp_in_nI (by omega) (by omega), hy⟩
  | false => exact br_y rfl (hn h)
theorem p_N_requireByte {I : Nat → Int32} {A : Nat → Nat → Int32} {B : Nat → Nat → Int64} {Q : xQ} {i : Int32} (hy : isC (I 1) i = true → Q (.inl none) (HX I A B) 0) (hn : isC (I 1) i = false → Q (.inr 1) (HX I A B) 1) : xRun tb_N_requireByte 2 [.ref 0, .int i] (HX I A B) Q := by
  refine ⟨Nat.le_of_ble_eq_true rfl, ?_⟩
  refine xG.go [5] 30 ?_
  show xG tb_N_requireByte Q (5, [some (.ref 0), some (.int i)], [.int i, .ref 12], (HX I A B), 0)
  refine xG.callV (F := xRun tb_B_has 2) (a := 12) rfl rfl rfl rfl (p_B_has_b ?_)
  refine xG.go [5] 30 ?_
  show (((bI (isC (I 1) i)) = 0 → Q (.inr 1) (HX I A B) 1) ∧ (¬ (bI (isC (I 1) i)) = 0 → Q (.inl none) (HX I A B) 0))
  cases h : isC (I 1) i with
  | true => exact br_n (by decide) (hy h)
  | false => exact br_y rfl (hn h)
theorem p_N_byteAt {I : Nat → Int32} {A : Nat → Nat → Int32} {B : Nat → Nat → Int64} {Q : xQ} {i : Int32} {n : Nat} (h8 : n ≤ 512) (e1 : I 1 = nI n) (hy : isC (I 1) i = true → Q (.inl (some (.int (A 13 i.toNatClampNeg)))) (HX I A B) 0) (hn : isC (I 1) i = false → Q (.inr 1) (HX I A B) 1) : xRun tb_N_byteAt 2 [.ref 0, .int i] (HX I A B) Q := by
  refine ⟨Nat.le_of_ble_eq_true rfl, ?_⟩
  refine xG.go [2, 10] 30 ?_
  show xG tb_N_byteAt Q (2, [some (.ref 0), some (.int i)], [.int i, .ref 0], (HX I A B), 0)
  refine xG.callV (F := xRun tb_N_requireByte 2) (a := 0) rfl rfl rfl rfl (p_N_requireByte (fun h => ?_) (fun h => hn h))
  refine xG.go [2, 10] 30 ?_
  show xG tb_N_byteAt Q (10, [some (.ref 0), some (.int i)], [.int i, .ref 12], (HX I A B), 0)
  refine xG.callV (F := xRun tb_B_get 2) (a := 12) rfl rfl rfl rfl (p_B_get_b h8 e1 ?_)
  rw [if_pos h]
  refine xG.go [2, 10] 30 ?_
  show Q (.inl (some (.int (A 13 i.toNatClampNeg)))) (HX I A B) 0
  exact hy h
theorem p_L_byteAt {I : Nat → Int32} {A : Nat → Nat → Int32} {B : Nat → Nat → Int64} {Q : xQ} {i : Int32} {n : Nat} (h8 : n ≤ 512) (e1 : I 1 = nI n) (hy : isC (I 1) i = true → Q (.inl (some (.int 0))) (HX I A (va_up B 41 (vp_updL (B 41) 0 (A 13 i.toNatClampNeg).toInt64))) 0) (hn : isC (I 1) i = false → Q (.inl (some (.int 1))) (HX I A B) 1) : xRun tb_L_byteAt 4 [.ref 0, .int i, .ref 41] (HX I A B) Q := by
  refine ⟨Nat.le_of_ble_eq_true rfl, ?_⟩
  refine xG.go [4] 30 ?_
  show xG tb_L_byteAt Q (4, [some (.ref 0), some (.int i), some (.ref 41), none], [.int i, .ref 0, .int (0 : Int32), .ref 41], (HX I A B), 0)
  refine xG.callH (F := xRun tb_N_byteAt 2) (a := 0) rfl rfl rfl rfl (p_N_byteAt h8 e1 (fun h => ?_) (fun h => hn h))
  refine xG.go [4] 30 ?_
  show (vp_in (0 : Int32) 1 ∧ Q (.inl (some (.int (0 : Int32)))) (HX I A (va_up B 41 (vp_updL (B 41) (0 : Int32).toNatClampNeg (A 13 i.toNatClampNeg).toInt64))) 0)
  exact ⟨vp_in_nI (n := 0) (by omega) (by omega), hy h⟩
theorem p_M_byteAt {I : Nat → Int32} {A : Nat → Nat → Int32} {B : Nat → Nat → Int64} {Q : xQ} {i : Int32} {n : Nat} (h8 : n ≤ 480) (e1 : I 11 = nI n) (hy : isC (I 11) i = true → Q (.inl (some (.int (A 35 i.toNatClampNeg)))) (HX (va_up I 9 0) A B) 0) (hn : isC (I 11) i = false → Q (.inl (some (.int 0))) (HX (va_up I 9 1) A B) 0) : xRun tb_M_byteAt 2 [.ref 24, .int i] (HX I A B) Q := by
  refine ⟨Nat.le_of_ble_eq_true rfl, ?_⟩
  refine xG.go [] 30 ?_
  show ((i < 0 → (((1 : Int32) ≤ 0 → (vp_in i 480 ∧ Q (.inl (some (.int ((A 35) i.toNatClampNeg)))) (HX (va_up I 9 (1 : Int32)) A B) 0)) ∧ (¬ (1 : Int32) ≤ 0 → Q (.inl (some (.int (0 : Int32)))) (HX (va_up I 9 (1 : Int32)) A B) 0))) ∧ (¬ i < 0 → (((I 11) ≤ i → (((1 : Int32) ≤ 0 → (vp_in i 480 ∧ Q (.inl (some (.int ((A 35) i.toNatClampNeg)))) (HX (va_up I 9 (1 : Int32)) A B) 0)) ∧ (¬ (1 : Int32) ≤ 0 → Q (.inl (some (.int (0 : Int32)))) (HX (va_up I 9 (1 : Int32)) A B) 0))) ∧ (¬ (I 11) ≤ i → (((0 : Int32) ≤ 0 → (vp_in i 480 ∧ Q (.inl (some (.int ((A 35) i.toNatClampNeg)))) (HX (va_up I 9 (0 : Int32)) A B) 0)) ∧ (¬ (0 : Int32) ≤ 0 → Q (.inl (some (.int (0 : Int32)))) (HX (va_up I 9 (0 : Int32)) A B) 0))))))
  cases h : isC (I 11) i with
  | true =>
    have hy := hy h
    obtain ⟨h1, h2⟩ := isC_t h
    rw [e1] at h
    obtain ⟨j, hj, rfl⟩ := isC_ix (by omega) h
    exact br_n h1 (br_n h2 (br_y (by decide) ⟨vp_in_nI (by omega) (by omega), hy⟩))
  | false =>
    exact ⟨fun _ => br_n (by decide) (hn h), fun z => br_y ((isC_f h).resolve_left z) (br_n (by decide) (hn h))⟩
theorem vInv.buf {I : Nat → Int32} {A : Nat → Nat → Int32} {B : Nat → Nat → Int64} (h : vInv I A B) : ∃ sz, I 1 = nI sz ∧ I 11 = nI sz ∧ sz ≤ 480 ∧ ∀ j, j < sz → A 35 j = A 13 j ∧ 0 ≤ A 13 j ∧ A 13 j ≤ 255 := by
  obtain ⟨n, mc, sz, -, -, -, -, -, h6⟩ := h
  exact ⟨sz, h6⟩
theorem j_byteAt : J_byteAt vInv := by
  intro I A B i hV
  obtain ⟨sz, e1, e11, hs, hb⟩ := hV.buf
  cases h : isC (I 1) i with
  | false =>
    have h' : isC (I 11) i = false := by rw [e11, ← e1]; exact h
    exact ⟨1, I, A, B, 1, 0, va_up I 9 1, A, B, fun Q hq => p_L_byteAt (n := sz) (by omega) e1 (fun w => by rw [h] at w; cases w) (fun _ => hq), Nat.le_refl 1, fun Q hq => p_M_byteAt (n := sz) hs e11 (fun w => by rw [h'] at w; cases w) (fun _ => hq), rfl, fun z => absurd z (by decide), hV⟩
  | true =>
    have h' : isC (I 11) i = true := by rw [e11, ← e1]; exact h
    refine ⟨0, I, A, _, 0, A 35 i.toNatClampNeg, va_up I 9 0, A, _, fun Q hq => p_L_byteAt (n := sz) (by omega) e1 (fun w => hq) (fun w => by rw [h] at w; cases w), Nat.zero_le 1, fun Q hq => p_M_byteAt (n := sz) hs e11 (fun w => hq) (fun w => by rw [h'] at w; cases w), rfl, fun z => ?_, hV⟩
    show vp_updL (B 41) 0 (A 13 i.toNatClampNeg).toInt64 0 = _
    refine pk_uLs.trans ?_
    rw [e1] at h
    obtain ⟨j, hj, rfl⟩ := isC_ix (by omega) h
    rw [nI_clamp (by omega), (hb j hj).1]
theorem case_13 {L : Nat} {xs : Nat → Int32} : xCase vInv L xs 1207 := lcase_13 j_byteAt
-- poke
/-- is this no byte -/
def noB (x : Int32) : Bool := if x < 0 then true else if x ≤ 255 then false else true
theorem noB_f {x : Int32} (h : noB x = false) : ¬ x < 0 ∧ x ≤ 255 := by
  unfold noB at h
  split at h
  · cases h
  · split at h
    · rename_i h1 h2
      exact ⟨h1, h2⟩
    · cases h
theorem noB_t {x : Int32} (h : noB x = true) : x < 0 ∨ ¬ x ≤ 255 := by
  unfold noB at h
  split at h
  · rename_i h1
    exact Or.inl h1
  · split at h
    · cases h
    · rename_i h1 h2
      exact Or.inr h2
theorem p_N_poke {I : Nat → Int32} {A : Nat → Nat → Int32} {B : Nat → Nat → Int64} {Q : xQ} {i x : Int32} {n : Nat} (h8 : n ≤ 512) (e1 : I 1 = nI n) (hy : isC (I 1) i = true → noB x = false → Q (.inl none) (HX I (va_up A 13 (upd (A 13) i.toNatClampNeg x)) B) 0) (hz : isC (I 1) i = true → noB x = true → Q (.inr 0) (HX I A B) 1) (hn : isC (I 1) i = false → Q (.inr 1) (HX I A B) 1) : xRun tb_N_poke 3 [.ref 0, .int i, .int x] (HX I A B) Q := by
  refine ⟨Nat.le_of_ble_eq_true rfl, ?_⟩
  refine xG.go [2, 32] 30 ?_
  show xG tb_N_poke Q (2, [some (.ref 0), some (.int i), some (.int x)], [.int i, .ref 0], (HX I A B), 0)
  refine xG.callV (F := xRun tb_N_requireByte 2) (a := 0) rfl rfl rfl rfl (p_N_requireByte (fun h => ?_) (fun h => hn h))
  refine xG.go [2, 32] 30 ?_
  show ((x < 0 → Q (.inr 0) (HX I A B) 1) ∧ (¬ x < 0 → ((x ≤ (255 : Int32) → xG tb_N_poke Q (32, [some (.ref 0), some (.int i), some (.int x)], [.int x, .int i, .ref 12], (HX I A B), 0)) ∧ (¬ x ≤ (255 : Int32) → Q (.inr 0) (HX I A B) 1))))
  cases hb : noB x with
  | true => exact ⟨fun _ => hz h hb, fun w => br_n ((noB_t hb).resolve_left w) (hz h hb)⟩
  | false =>
    obtain ⟨b1, b2⟩ := noB_f hb
    refine br_n b1 (br_y b2 ?_)
    refine xG.callV (F := xRun tb_B_set 3) (a := 12) rfl rfl rfl rfl (p_B_set_b h8 e1 (fun _ => ?_) (fun w => by rw [h] at w; cases w))
    refine xG.go [2, 32] 30 ?_
    show Q (.inl none) (HX I (va_up A 13 (upd (A 13) i.toNatClampNeg x)) B) 0
    exact hy h hb
theorem p_L_poke {I : Nat → Int32} {A : Nat → Nat → Int32} {B : Nat → Nat → Int64} {Q : xQ} {i x : Int32} {n : Nat} (h8 : n ≤ 512) (e1 : I 1 = nI n) (hy : isC (I 1) i = true → noB x = false → Q (.inl (some (.int 0))) (HX I (va_up A 13 (upd (A 13) i.toNatClampNeg x)) B) 0) (hz : isC (I 1) i = true → noB x = true → Q (.inl (some (.int 2))) (HX I A B) 1) (hn : isC (I 1) i = false → Q (.inl (some (.int 1))) (HX I A B) 1) : xRun tb_L_poke 4 [.ref 0, .int i, .int x] (HX I A B) Q := by
  refine ⟨Nat.le_of_ble_eq_true rfl, ?_⟩
  refine xG.go [3] 30 ?_
  show xG tb_L_poke Q (3, [some (.ref 0), some (.int i), some (.int x), none], [.int x, .int i, .ref 0], (HX I A B), 0)
  refine xG.callH (F := xRun tb_N_poke 3) (a := 0) rfl rfl rfl rfl (p_N_poke h8 e1 (fun h hb => ?_) (fun h hb => hz h hb) (fun h => hn h))
  refine xG.go [3] 30 ?_
  show Q (.inl (some (.int (0 : Int32)))) (HX I (va_up A 13 (upd (A 13) i.toNatClampNeg x)) B) 0
  exact hy h hb
theorem p_M_poke {I : Nat → Int32} {A : Nat → Nat → Int32} {B : Nat → Nat → Int64} {Q : xQ} {i x : Int32} {n : Nat} (h8 : n ≤ 480) (e1 : I 11 = nI n) (hy : isC (I 11) i = true → noB x = false → Q (.inl none) (HX (va_up I 9 0) (va_up A 35 (upd (A 35) i.toNatClampNeg x)) B) 0) (hz : isC (I 11) i = true → noB x = true → Q (.inl none) (HX (va_up I 9 2) A B) 0) (hn : isC (I 11) i = false → Q (.inl none) (HX (va_up I 9 1) A B) 0) : xRun tb_M_poke 3 [.ref 24, .int i, .int x] (HX I A B) Q := by
  refine ⟨Nat.le_of_ble_eq_true rfl, ?_⟩
  refine xG.go [] 40 ?_
  show ((i < 0 → (((1 : Int32) = 0 → (vp_in i 480 ∧ Q (.inl none) (HX (va_up I 9 (1 : Int32)) (va_up A 35 (upd (A 35) i.toNatClampNeg x)) B) 0)) ∧ (¬ (1 : Int32) = 0 → Q (.inl none) (HX (va_up I 9 (1 : Int32)) A B) 0))) ∧ (¬ i < 0 → ((i < (I 11) → ((x < 0 → (((2 : Int32) = 0 → (vp_in i 480 ∧ Q (.inl none) (HX (va_up I 9 (2 : Int32)) (va_up A 35 (upd (A 35) i.toNatClampNeg x)) B) 0)) ∧ (¬ (2 : Int32) = 0 → Q (.inl none) (HX (va_up I 9 (2 : Int32)) A B) 0))) ∧ (¬ x < 0 → ((x ≤ (255 : Int32) → (((0 : Int32) = 0 → (vp_in i 480 ∧ Q (.inl none) (HX (va_up I 9 (0 : Int32)) (va_up A 35 (upd (A 35) i.toNatClampNeg x)) B) 0)) ∧ (¬ (0 : Int32) = 0 → Q (.inl none) (HX (va_up I 9 (0 : Int32)) A B) 0))) ∧ (¬ x ≤ (255 : Int32) → (((2 : Int32) = 0 → (vp_in i 480 ∧ Q (.inl none) (HX (va_up I 9 (2 : Int32)) (va_up A 35 (upd (A 35) i.toNatClampNeg x)) B) 0)) ∧ (¬ (2 : Int32) = 0 → Q (.inl none) (HX (va_up I 9 (2 : Int32)) A B) 0))))))) ∧ (¬ i < (I 11) → (((1 : Int32) = 0 → (vp_in i 480 ∧ Q (.inl none) (HX (va_up I 9 (1 : Int32)) (va_up A 35 (upd (A 35) i.toNatClampNeg x)) B) 0)) ∧ (¬ (1 : Int32) = 0 → Q (.inl none) (HX (va_up I 9 (1 : Int32)) A B) 0))))))
  cases h : isC (I 11) i with
  | true =>
    have hy1 := hy h
    have hz1 := hz h
    obtain ⟨h1, h2⟩ := isC_t h
    rw [e1] at h h2
    obtain ⟨j, hj, rfl⟩ := isC_ix (by omega) h
    have h2 : nI j < I 11 := by rw [e1]; exact Int32.not_le.mp h2
    refine br_n h1 (br_y h2 ?_)
    cases hb : noB x with
    | true => exact ⟨fun _ => br_n (by decide) (hz1 hb), fun w => br_n ((noB_t hb).resolve_left w) (br_n (by decide) (hz1 hb))⟩
    | false =>
      obtain ⟨b1, b2⟩ := noB_f hb
      exact br_n b1 (br_y b2 (br_y rfl ⟨vp_in_nI (by omega) (by omega), hy1 hb⟩))
  | false =>
    have hn := hn h
    exact ⟨fun _ => br_n (by decide) hn, fun z => br_n (Int32.not_lt.mpr ((isC_f h).resolve_left z)) (br_n (by decide) hn)⟩
theorem vInv.poke {I : Nat → Int32} {A : Nat → Nat → Int32} {B : Nat → Nat → Int64} {x : Int32} {i : Nat} (h : vInv I A B) (hx : ¬ x < 0 ∧ x ≤ 255) : vInv (va_up I 9 0) (va_up (va_up A 13 (upd (A 13) i x)) 35 (upd (A 35) i x)) B := by
  obtain ⟨n, mc, sz, h1, h2, h3, h4, h5, e1, e11, hs, hb⟩ := h
  refine ⟨n, mc, sz, h1, h2, h3, h4, h5, e1, e11, hs, fun j hj => ?_⟩
  show upd (A 35) i x j = upd (A 13) i x j ∧ 0 ≤ upd (A 13) i x j ∧ upd (A 13) i x j ≤ 255
  by_cases w : j = i
  · subst w
    rw [pk_us, pk_us]
    exact ⟨rfl, Int32.not_lt.mp hx.1, hx.2⟩
  · rw [pk_un w, pk_un w]
    exact hb j hj
theorem j_poke : J_poke vInv := by
  intro I A B i x hV
  obtain ⟨sz, e1, e11, hs, hb⟩ := hV.buf
  cases h : isC (I 1) i with
  | false =>
    have h' : isC (I 11) i = false := by rw [e11, ← e1]; exact h
    exact ⟨1, I, A, B, 1, va_up I 9 1, A, B, fun Q hq => p_L_poke (n := sz) (by omega) e1 (fun w => by rw [h] at w; cases w) (fun w => by rw [h] at w; cases w) (fun _ => hq), Nat.le_refl 1, fun Q hq => p_M_poke (n := sz) hs e11 (fun w => by rw [h'] at w; cases w) (fun w => by rw [h'] at w; cases w) (fun _ => hq), rfl, hV⟩
  | true =>
    have h' : isC (I 11) i = true := by rw [e11, ← e1]; exact h
    cases hb : noB x with
    | true =>
      exact ⟨2, I, A, B, 1, va_up I 9 2, A, B, fun Q hq => p_L_poke (n := sz) (by omega) e1 (fun _ w => by rw [hb] at w; cases w) (fun _ _ => hq) (fun w => by rw [h] at w; cases w), Nat.le_refl 1, fun Q hq => p_M_poke (n := sz) hs e11 (fun _ w => by rw [hb] at w; cases w) (fun _ _ => hq) (fun w => by rw [h'] at w; cases w), rfl, hV⟩
    | false =>
      exact ⟨0, I, _, B, 0, _, _, B, fun Q hq => p_L_poke (n := sz) (by omega) e1 (fun _ _ => hq) (fun _ w => by rw [hb] at w; cases w) (fun w => by rw [h] at w; cases w), Nat.zero_le 1, fun Q hq => p_M_poke (n := sz) hs e11 (fun _ _ => hq) (fun _ w => by rw [hb] at w; cases w) (fun w => by rw [h'] at w; cases w), rfl, hV.poke (noB_f hb)⟩
theorem case_14 {L : Nat} {xs : Nat → Int32} : xCase vInv L xs 1263 := lcase_14 j_poke
