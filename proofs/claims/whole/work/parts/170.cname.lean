theorem lw_in {i k L : Nat} (h : i + k < L) (hL : L ≤ 3584) : vp_in (nI i + nI k) L := by
  rw [nI_add]
  exact vp_in_nI h (by omega)
/-- is there a class c, of m -/
def isC (m c : Int32) : Bool := if c < 0 then false else if m ≤ c then false else true
theorem isC_in {n : Nat} {c : Int32} (h8 : n ≤ 8) (h : isC (nI n) c = true) : ∃ k, k < n ∧ c = nI k := by
  unfold isC at h
  split at h
  · cases h
  · split at h
    · cases h
    · rename_i h1 h2
      rcases pk_ix c (n := n) (by omega) with q | q | ⟨j, hj, q⟩
      · exact absurd q h1
      · exact absurd q h2
      · exact ⟨j, hj, q⟩
theorem p_S_isClass {I : Nat → Int32} {A : Nat → Nat → Int32} {B : Nat → Nat → Int64} {Q : xQ} {c : Int32} (hq : Q (.inl (some (.int (bI (isC (I 0) c))))) (HX I A B) 0) : xRun tb_S_isClass 2 [.ref 1, .int c] (HX I A B) Q := by
  refine ⟨Nat.le_of_ble_eq_true rfl, xG.go [] 30 ?_⟩
  show ((c < 0 → (((0 : Int32) = (0 : Int32) ∨ (0 : Int32) = 1) ∧ Q (.inl (some (.int (0 : Int32)))) (HX I A B) 0)) ∧ (¬ c < 0 → (((I 0) ≤ c → (((0 : Int32) = (0 : Int32) ∨ (0 : Int32) = 1) ∧ Q (.inl (some (.int (0 : Int32)))) (HX I A B) 0)) ∧ (¬ (I 0) ≤ c → (((1 : Int32) = (0 : Int32) ∨ (1 : Int32) = 1) ∧ Q (.inl (some (.int (1 : Int32)))) (HX I A B) 0)))))
  unfold isC at hq
  refine ⟨fun h1 => ?_, fun h1 => ⟨fun h2 => ?_, fun h2 => ?_⟩⟩
  · rw [if_pos h1] at hq; exact ⟨Or.inl rfl, hq⟩
  · rw [if_neg h1, if_pos h2] at hq; exact ⟨Or.inl rfl, hq⟩
  · rw [if_neg h1, if_neg h2] at hq; exact ⟨Or.inr rfl, hq⟩
theorem p_M_isClass {I : Nat → Int32} {A : Nat → Nat → Int32} {B : Nat → Nat → Int64} {Q : xQ} {c : Int32} (hq : Q (.inl (some (.int (bI (isC (I 10) c))))) (HX I A B) 0) : xRun tb_M_isClass 2 [.ref 24, .int c] (HX I A B) Q := by
  refine ⟨Nat.le_of_ble_eq_true rfl, xG.go [] 30 ?_⟩
  show ((c < 0 → (((0 : Int32) = (0 : Int32) ∨ (0 : Int32) = 1) ∧ Q (.inl (some (.int (0 : Int32)))) (HX I A B) 0)) ∧ (¬ c < 0 → (((I 10) ≤ c → (((0 : Int32) = (0 : Int32) ∨ (0 : Int32) = 1) ∧ Q (.inl (some (.int (0 : Int32)))) (HX I A B) 0)) ∧ (¬ (I 10) ≤ c → (((1 : Int32) = (0 : Int32) ∨ (1 : Int32) = 1) ∧ Q (.inl (some (.int (1 : Int32)))) (HX I A B) 0)))))
  unfold isC at hq
  refine ⟨fun h1 => ?_, fun h1 => ⟨fun h2 => ?_, fun h2 => ?_⟩⟩
  · rw [if_pos h1] at hq; exact ⟨Or.inl rfl, hq⟩
  · rw [if_neg h1, if_pos h2] at hq; exact ⟨Or.inl rfl, hq⟩
  · rw [if_neg h1, if_neg h2] at hq; exact ⟨Or.inr rfl, hq⟩
theorem p_N_requireClass {I : Nat → Int32} {A : Nat → Nat → Int32} {B : Nat → Nat → Int64} {Q : xQ} {c : Int32} (hy : isC (I 0) c = true → Q (.inl none) (HX I A B) 0) (hn : isC (I 0) c = false → Q (.inr 1) (HX I A B) 1) : xRun tb_N_requireClass 2 [.ref 0, .int c] (HX I A B) Q := by
  refine ⟨Nat.le_of_ble_eq_true rfl, ?_⟩
  refine xG.go [5] 30 ?_
  show xG tb_N_requireClass Q (5, [some (.ref 0), some (.int c)], [.int c, .ref 1], (HX I A B), 0)
  refine xG.callV (F := xRun tb_S_isClass 2) (a := 1) rfl rfl rfl rfl (p_S_isClass ?_)
  refine xG.go [5] 30 ?_
  show (((bI (isC (I 0) c)) = 0 → Q (.inr 1) (HX I A B) 1) ∧ (¬ (bI (isC (I 0) c)) = 0 → Q (.inl none) (HX I A B) 0))
  cases h : isC (I 0) c with
  | true => exact ⟨fun z => absurd z (by decide), fun _ => hy h⟩
  | false => exact ⟨fun _ => hn h, fun z => absurd rfl z⟩
-- className(c, fresh)
theorem p_N_className {I : Nat → Int32} {A : Nat → Nat → Int32} {B : Nat → Nat → Int64} {Q : xQ} {c f : Int32} {n : Nat} (h8 : n ≤ 8) (e0 : I 0 = nI n) (hy : isC (I 0) c = true → Q (.inl (some (.long (if f = 0 then B 2 c.toNatClampNeg else B 3 c.toNatClampNeg)))) (HX I A B) 0) (hn : isC (I 0) c = false → Q (.inr 1) (HX I A B) 1) : xRun tb_N_className 3 [.ref 0, .int c, .int f] (HX I A B) Q := by
  refine ⟨Nat.le_of_ble_eq_true rfl, ?_⟩
  refine xG.go [2] 30 ?_
  show xG tb_N_className Q (2, [some (.ref 0), some (.int c), some (.int f)], [.int c, .ref 0], (HX I A B), 0)
  refine xG.callV (F := xRun tb_N_requireClass 2) (a := 0) rfl rfl rfl rfl (p_N_requireClass (fun h => ?_) (fun h => hn h))
  refine xG.go [2] 30 ?_
  show ((f = 0 → (vp_in c 8 ∧ Q (.inl (some (.long ((B 2) c.toNatClampNeg)))) (HX I A B) 0)) ∧ (¬ f = 0 → (vp_in c 8 ∧ Q (.inl (some (.long ((B 3) c.toNatClampNeg)))) (HX I A B) 0)))
  have hy := hy h
  rw [e0] at h
  obtain ⟨k, hk, rfl⟩ := isC_in h8 h
  have hin : vp_in (nI k) 8 := vp_in_nI (by omega) (by omega)
  refine ⟨fun z => ⟨hin, ?_⟩, fun z => ⟨hin, ?_⟩⟩
  · rw [if_pos z] at hy; exact hy
  · rw [if_neg z] at hy; exact hy
theorem p_L_className {I : Nat → Int32} {A : Nat → Nat → Int32} {B : Nat → Nat → Int64} {Q : xQ} {c f : Int32} {n : Nat} (h8 : n ≤ 8) (e0 : I 0 = nI n) (hy : isC (I 0) c = true → Q (.inl (some (.int 0))) (HX I A (va_up B 41 (vp_updL (B 41) 0 (if f = 0 then B 2 c.toNatClampNeg else B 3 c.toNatClampNeg)))) 0) (hn : isC (I 0) c = false → Q (.inl (some (.int 1))) (HX I A B) 1) : xRun tb_L_className 5 [.ref 0, .int c, .int f, .ref 41] (HX I A B) Q := by
  refine ⟨Nat.le_of_ble_eq_true rfl, ?_⟩
  refine xG.go [5] 30 ?_
  show xG tb_L_className Q (5, [some (.ref 0), some (.int c), some (.int f), some (.ref 41), none], [.int f, .int c, .ref 0, .int (0 : Int32), .ref 41], (HX I A B), 0)
  refine xG.callH (F := xRun tb_N_className 3) (a := 0) rfl rfl rfl rfl (p_N_className h8 e0 (fun h => ?_) (fun h => hn h))
  refine xG.go [5] 30 ?_
  show (vp_in (0 : Int32) 1 ∧ Q (.inl (some (.int (0 : Int32)))) (HX I A (va_up B 41 (vp_updL (B 41) (0 : Int32).toNatClampNeg (if f = 0 then B 2 c.toNatClampNeg else B 3 c.toNatClampNeg)))) 0)
  exact ⟨vp_in_nI (n := 0) (by omega) (by omega), hy h⟩
theorem p_M_className {I : Nat → Int32} {A : Nat → Nat → Int32} {B : Nat → Nat → Int64} {Q : xQ} {c f : Int32} {n : Nat} (h8 : n ≤ 8) (e0 : I 10 = nI n) (hy : isC (I 10) c = true → Q (.inl (some (.long (if f = 0 then B 25 c.toNatClampNeg else B 26 c.toNatClampNeg)))) (HX (va_up I 9 0) A B) 0) (hn : isC (I 10) c = false → Q (.inl (some (.long 0))) (HX (va_up I 9 1) A B) 0) : xRun tb_M_className 3 [.ref 24, .int c, .int f] (HX I A B) Q := by
  refine ⟨Nat.le_of_ble_eq_true rfl, ?_⟩
  refine xG.go [3] 30 ?_
  show xG tb_M_className Q (3, [some (.ref 24), some (.int c), some (.int f)], [.int c, .ref 24, .ref 24], (HX I A B), 0)
  refine xG.callV (F := xRun tb_M_isClass 2) (a := 24) rfl rfl rfl rfl (p_M_isClass ?_)
  refine xG.go [3] 30 ?_
  show (((bI (isC (I 10) c)) = 0 → (((1 : Int32) ≤ 0 → ((f = 0 → (vp_in c 8 ∧ Q (.inl (some (.long ((B 25) c.toNatClampNeg)))) (HX (va_up I 9 (1 : Int32)) A B) 0)) ∧ (¬ f = 0 → (vp_in c 8 ∧ Q (.inl (some (.long ((B 26) c.toNatClampNeg)))) (HX (va_up I 9 (1 : Int32)) A B) 0)))) ∧ (¬ (1 : Int32) ≤ 0 → Q (.inl (some (.long (0 : Int64)))) (HX (va_up I 9 (1 : Int32)) A B) 0))) ∧ (¬ (bI (isC (I 10) c)) = 0 → (((0 : Int32) ≤ 0 → ((f = 0 → (vp_in c 8 ∧ Q (.inl (some (.long ((B 25) c.toNatClampNeg)))) (HX (va_up I 9 (0 : Int32)) A B) 0)) ∧ (¬ f = 0 → (vp_in c 8 ∧ Q (.inl (some (.long ((B 26) c.toNatClampNeg)))) (HX (va_up I 9 (0 : Int32)) A B) 0)))) ∧ (¬ (0 : Int32) ≤ 0 → Q (.inl (some (.long (0 : Int64)))) (HX (va_up I 9 (0 : Int32)) A B) 0))))
  cases h : isC (I 10) c with
  | false => exact ⟨fun _ => ⟨fun z => absurd z (by decide), fun _ => hn h⟩, fun z => absurd rfl z⟩
  | true =>
    have hy := hy h
    rw [e0] at h
    obtain ⟨k, hk, rfl⟩ := isC_in h8 h
    have hin : vp_in (nI k) 8 := vp_in_nI (by omega) (by omega)
    refine ⟨fun z => absurd z (by decide), fun _ => ⟨fun _ => ⟨fun z => ⟨hin, ?_⟩, fun z => ⟨hin, ?_⟩⟩, fun z => absurd (by decide) z⟩⟩
    · rw [if_pos z] at hy; exact hy
    · rw [if_neg z] at hy; exact hy
