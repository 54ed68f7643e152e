/-- is there a member k of class c -/
def isMb (m : Int32) (g : Nat → Int32) (c k : Int32) : Bool := isC m c && isC (g c.toNatClampNeg) k
theorem p_S_isMember {I : Nat → Int32} {A : Nat → Nat → Int32} {B : Nat → Nat → Int64} {Q : xQ} {c k : Int32} {n : Nat} (h8 : n ≤ 8) (e0 : I 0 = nI n) (hq : Q (.inl (some (.int (bI (isMb (I 0) (A 6) c k))))) (HX I A B) 0) : xRun tb_S_isMember 3 [.ref 1, .int c, .int k] (HX I A B) Q := by
  refine ⟨Nat.le_of_ble_eq_true rfl, ?_⟩
  refine xG.go [2] 30 ?_
  show xG tb_S_isMember Q (2, [some (.ref 1), some (.int c), some (.int k)], [.int c, .ref 1], (HX I A B), 0)
  refine xG.callV (F := xRun tb_S_isClass 2) (a := 1) rfl rfl rfl rfl (p_S_isClass ?_)
  refine xG.go [2] 30 ?_
  show (((bI (isC (I 0) c)) = 0 → (((0 : Int32) = (0 : Int32) ∨ (0 : Int32) = 1) ∧ Q (.inl (some (.int (0 : Int32)))) (HX I A B) 0)) ∧ (¬ (bI (isC (I 0) c)) = 0 → ((k < 0 → (((0 : Int32) = (0 : Int32) ∨ (0 : Int32) = 1) ∧ Q (.inl (some (.int (0 : Int32)))) (HX I A B) 0)) ∧ (¬ k < 0 → (vp_in c 8 ∧ ((((A 6) c.toNatClampNeg) ≤ k → (((0 : Int32) = (0 : Int32) ∨ (0 : Int32) = 1) ∧ Q (.inl (some (.int (0 : Int32)))) (HX I A B) 0)) ∧ (¬ ((A 6) c.toNatClampNeg) ≤ k → (((1 : Int32) = (0 : Int32) ∨ (1 : Int32) = 1) ∧ Q (.inl (some (.int (1 : Int32)))) (HX I A B) 0))))))))
  unfold isMb at hq
  cases h : isC (I 0) c with
  | false =>
    rw [h] at hq
    exact br_y rfl ⟨Or.inl rfl, hq⟩
  | true =>
    rw [h] at hq
    rw [e0] at h
    obtain ⟨j, hj, rfl⟩ := isC_ix (by omega) h
    refine br_n (by decide) ?_
    unfold isC at hq
    refine ⟨fun h1 => ?_, fun h1 => ⟨vp_in_nI (by omega) (by omega), fun h2 => ?_, fun h2 => ?_⟩⟩
    · rw [if_pos h1] at hq; exact ⟨Or.inl rfl, hq⟩
    · rw [if_neg h1, if_pos h2] at hq; exact ⟨Or.inl rfl, hq⟩
    · rw [if_neg h1, if_neg h2] at hq; exact ⟨Or.inr rfl, hq⟩
theorem p_M_isMember {I : Nat → Int32} {A : Nat → Nat → Int32} {B : Nat → Nat → Int64} {Q : xQ} {c k : Int32} {n : Nat} (h8 : n ≤ 8) (e0 : I 10 = nI n) (hq : Q (.inl (some (.int (bI (isMb (I 10) (A 29) c k))))) (HX I A B) 0) : xRun tb_M_isMember 3 [.ref 24, .int c, .int k] (HX I A B) Q := by
  refine ⟨Nat.le_of_ble_eq_true rfl, ?_⟩
  refine xG.go [2] 30 ?_
  show xG tb_M_isMember Q (2, [some (.ref 24), some (.int c), some (.int k)], [.int c, .ref 24], (HX I A B), 0)
  refine xG.callV (F := xRun tb_M_isClass 2) (a := 24) rfl rfl rfl rfl (p_M_isClass ?_)
  refine xG.go [2] 30 ?_
  show (((bI (isC (I 10) c)) = 0 → (((0 : Int32) = (0 : Int32) ∨ (0 : Int32) = 1) ∧ Q (.inl (some (.int (0 : Int32)))) (HX I A B) 0)) ∧ (¬ (bI (isC (I 10) c)) = 0 → ((k < 0 → (((0 : Int32) = (0 : Int32) ∨ (0 : Int32) = 1) ∧ Q (.inl (some (.int (0 : Int32)))) (HX I A B) 0)) ∧ (¬ k < 0 → (vp_in c 8 ∧ ((((A 29) c.toNatClampNeg) ≤ k → (((0 : Int32) = (0 : Int32) ∨ (0 : Int32) = 1) ∧ Q (.inl (some (.int (0 : Int32)))) (HX I A B) 0)) ∧ (¬ ((A 29) c.toNatClampNeg) ≤ k → (((1 : Int32) = (0 : Int32) ∨ (1 : Int32) = 1) ∧ Q (.inl (some (.int (1 : Int32)))) (HX I A B) 0))))))))
  unfold isMb at hq
  cases h : isC (I 10) c with
  | false =>
    rw [h] at hq
    exact br_y rfl ⟨Or.inl rfl, hq⟩
  | true =>
    rw [h] at hq
    rw [e0] at h
    obtain ⟨j, hj, rfl⟩ := isC_ix (by omega) h
    refine br_n (by decide) ?_
    unfold isC at hq
    refine ⟨fun h1 => ?_, fun h1 => ⟨vp_in_nI (by omega) (by omega), fun h2 => ?_, fun h2 => ?_⟩⟩
    · rw [if_pos h1] at hq; exact ⟨Or.inl rfl, hq⟩
    · rw [if_neg h1, if_pos h2] at hq; exact ⟨Or.inl rfl, hq⟩
    · rw [if_neg h1, if_neg h2] at hq; exact ⟨Or.inr rfl, hq⟩
theorem p_S_number {h : xH} {Q : xQ} {c k : Int32} (hq : Q (.inl (some (.int ((8 : Int32) * c + k)))) h 0) : xRun tb_S_number 2 [.int c, .int k] h Q := by
  refine ⟨Nat.le_of_ble_eq_true rfl, xG.go [] 30 ?_⟩
  show Q (.inl (some (.int (((8 : Int32) * c) + k)))) h 0
  exact hq
theorem p_N_requireMember {I : Nat → Int32} {A : Nat → Nat → Int32} {B : Nat → Nat → Int64} {Q : xQ} {c k : Int32} {n : Nat} (h8 : n ≤ 8) (e0 : I 0 = nI n) (hy : isMb (I 0) (A 6) c k = true → Q (.inl none) (HX I A B) 0) (hn : isMb (I 0) (A 6) c k = false → Q (.inr 1) (HX I A B) 1) : xRun tb_N_requireMember 3 [.ref 0, .int c, .int k] (HX I A B) Q := by
  refine ⟨Nat.le_of_ble_eq_true rfl, ?_⟩
  refine xG.go [6] 30 ?_
  show xG tb_N_requireMember Q (6, [some (.ref 0), some (.int c), some (.int k)], [.int k, .int c, .ref 1], (HX I A B), 0)
  refine xG.callV (F := xRun tb_S_isMember 3) (a := 1) rfl rfl rfl rfl (p_S_isMember h8 e0 ?_)
  refine xG.go [6] 30 ?_
  show (((bI (isMb (I 0) (A 6) c k)) = 0 → Q (.inr 1) (HX I A B) 1) ∧ (¬ (bI (isMb (I 0) (A 6) c k)) = 0 → Q (.inl none) (HX I A B) 0))
  cases h : isMb (I 0) (A 6) c k with
  | true => exact br_n (by decide) (hy h)
  | false => exact br_y rfl (hn h)
theorem isMb_ix {n : Nat} {m c k : Int32} {g : Nat → Int32} {mc : Nat → Nat} (h8 : n ≤ 8) (e0 : m = nI n) (hm : ∀ c, c < n → mc c ≤ 6 ∧ g c = nI (mc c)) (h : isMb m g c k = true) : ∃ i j, i < n ∧ j < mc i ∧ c = nI i ∧ k = nI j := by
  unfold isMb at h
  rw [Bool.and_eq_true, e0] at h
  obtain ⟨i, hi, rfl⟩ := isC_ix (by omega) h.1
  obtain ⟨q1, q2⟩ := hm i hi
  have h2 := h.2
  rw [nI_clamp (by omega), q2] at h2
  obtain ⟨j, hj, rfl⟩ := isC_ix (by omega) h2
  exact ⟨i, j, hi, hj, rfl, rfl⟩
theorem nI_num (i j : Nat) : (8 : Int32) * nI i + nI j = nI (8 * i + j) := by
  show nI 8 * nI i + nI j = _
  rw [← nI_add]
  exact congrArg (· + nI j) (Int32.ofNat_mul 8 i).symm
theorem p_N_memberName {I : Nat → Int32} {A : Nat → Nat → Int32} {B : Nat → Nat → Int64} {Q : xQ} {c k f : Int32} {n : Nat} {mc : Nat → Nat} (h8 : n ≤ 8) (e0 : I 0 = nI n) (hm : ∀ c, c < n → mc c ≤ 6 ∧ A 6 c = nI (mc c)) (hy : isMb (I 0) (A 6) c k = true → Q (.inl (some (.long (if f = 0 then B 8 ((8 : Int32) * c + k).toNatClampNeg else B 9 ((8 : Int32) * c + k).toNatClampNeg)))) (HX I A B) 0) (hn : isMb (I 0) (A 6) c k = false → Q (.inr 1) (HX I A B) 1) : xRun tb_N_memberName 5 [.ref 0, .int c, .int k, .int f] (HX I A B) Q := by
  refine ⟨Nat.le_of_ble_eq_true rfl, ?_⟩
  refine xG.go [3, 8] 30 ?_
  show xG tb_N_memberName Q (3, [some (.ref 0), some (.int c), some (.int k), some (.int f), none], [.int k, .int c, .ref 0], (HX I A B), 0)
  refine xG.callV (F := xRun tb_N_requireMember 3) (a := 0) rfl rfl rfl rfl (p_N_requireMember h8 e0 (fun h => ?_) (fun h => hn h))
  refine xG.go [3, 8] 30 ?_
  show xG tb_N_memberName Q (8, [some (.ref 0), some (.int c), some (.int k), some (.int f), none], [.int k, .int c], (HX I A B), 0)
  refine xG.call (F := xRun tb_S_number 2) rfl rfl (p_S_number ?_)
  refine xG.go [3, 8] 30 ?_
  show ((f = 0 → (vp_in ((8 : Int32) * c + k) 64 ∧ Q (.inl (some (.long ((B 8) ((8 : Int32) * c + k).toNatClampNeg)))) (HX I A B) 0)) ∧ (¬ f = 0 → (vp_in ((8 : Int32) * c + k) 64 ∧ Q (.inl (some (.long ((B 9) ((8 : Int32) * c + k).toNatClampNeg)))) (HX I A B) 0)))
  have hy := hy h
  obtain ⟨i, j, hi, hj, rfl, rfl⟩ := isMb_ix h8 e0 hm h
  have hc := (hm i hi).1
  rw [nI_num] at hy ⊢
  have hin : vp_in (nI (8 * i + j)) 64 := vp_in_nI (by omega) (by omega)
  refine ⟨fun z => ⟨hin, ?_⟩, fun z => ⟨hin, ?_⟩⟩
  · rw [if_pos z] at hy; exact hy
  · rw [if_neg z] at hy; exact hy
theorem p_L_memberName {I : Nat → Int32} {A : Nat → Nat → Int32} {B : Nat → Nat → Int64} {Q : xQ} {c k f : Int32} {n : Nat} {mc : Nat → Nat} (h8 : n ≤ 8) (e0 : I 0 = nI n) (hm : ∀ c, c < n → mc c ≤ 6 ∧ A 6 c = nI (mc c)) (hy : isMb (I 0) (A 6) c k = true → Q (.inl (some (.int 0))) (HX I A (va_up B 41 (vp_updL (B 41) 0 (if f = 0 then B 8 ((8 : Int32) * c + k).toNatClampNeg else B 9 ((8 : Int32) * c + k).toNatClampNeg)))) 0) (hn : isMb (I 0) (A 6) c k = false → Q (.inl (some (.int 1))) (HX I A B) 1) : xRun tb_L_memberName 6 [.ref 0, .int c, .int k, .int f, .ref 41] (HX I A B) Q := by
  refine ⟨Nat.le_of_ble_eq_true rfl, ?_⟩
  refine xG.go [7] 30 ?_
  show xG tb_L_memberName Q (7, [some (.ref 0), some (.int c), some (.int k), some (.int f), some (.ref 41), none], [.int f, .int k, .int c, .ref 0, .int (0 : Int32), .ref 41], (HX I A B), 0)
  refine xG.callH (F := xRun tb_N_memberName 5) (a := 0) rfl rfl rfl rfl (p_N_memberName h8 e0 hm (fun h => ?_) (fun h => hn h))
  have hy := hy h
  generalize (if f = 0 then B 8 ((8 : Int32) * c + k).toNatClampNeg else B 9 ((8 : Int32) * c + k).toNatClampNeg) = v at hy ⊢
  refine xG.go [7] 30 ?_
  show (vp_in (0 : Int32) 1 ∧ Q (.inl (some (.int (0 : Int32)))) (HX I A (va_up B 41 (vp_updL (B 41) (0 : Int32).toNatClampNeg v))) 0)
  exact ⟨vp_in_nI (n := 0) (by omega) (by omega), hy⟩
theorem p_M_memberName {I : Nat → Int32} {A : Nat → Nat → Int32} {B : Nat → Nat → Int64} {Q : xQ} {c k f : Int32} {n : Nat} {mc : Nat → Nat} (h8 : n ≤ 8) (e0 : I 10 = nI n) (hm : ∀ c, c < n → mc c ≤ 6 ∧ A 29 c = nI (mc c)) (hy : isMb (I 10) (A 29) c k = true → Q (.inl (some (.long (if f = 0 then B 30 ((8 : Int32) * c + k).toNatClampNeg else B 31 ((8 : Int32) * c + k).toNatClampNeg)))) (HX (va_up I 9 0) A B) 0) (hn : isMb (I 10) (A 29) c k = false → Q (.inl (some (.long 0))) (HX (va_up I 9 1) A B) 0) : xRun tb_M_memberName 4 [.ref 24, .int c, .int k, .int f] (HX I A B) Q := by
  refine ⟨Nat.le_of_ble_eq_true rfl, ?_⟩
  refine xG.go [4] 30 ?_
  show xG tb_M_memberName Q (4, [some (.ref 24), some (.int c), some (.int k), some (.int f)], [.int k, .int c, .ref 24, .ref 24], (HX I A B), 0)
  refine xG.callV (F := xRun tb_M_isMember 3) (a := 24) rfl rfl rfl rfl (p_M_isMember h8 e0 ?_)
  refine xG.go [4] 30 ?_
  show (((bI (isMb (I 10) (A 29) c k)) = 0 → (((1 : Int32) ≤ 0 → ((f = 0 → (vp_in (((8 : Int32) * c) + k) 64 ∧ Q (.inl (some (.long ((B 30) (((8 : Int32) * c) + k).toNatClampNeg)))) (HX (va_up I 9 (1 : Int32)) A B) 0)) ∧ (¬ f = 0 → (vp_in (((8 : Int32) * c) + k) 64 ∧ Q (.inl (some (.long ((B 31) (((8 : Int32) * c) + k).toNatClampNeg)))) (HX (va_up I 9 (1 : Int32)) A B) 0)))) ∧ (¬ (1 : Int32) ≤ 0 → Q (.inl (some (.long (0 : Int64)))) (HX (va_up I 9 (1 : Int32)) A B) 0))) ∧ (¬ (bI (isMb (I 10) (A 29) c k)) = 0 → (((0 : Int32) ≤ 0 → ((f = 0 → (vp_in (((8 : Int32) * c) + k) 64 ∧ Q (.inl (some (.long ((B 30) (((8 : Int32) * c) + k).toNatClampNeg)))) (HX (va_up I 9 (0 : Int32)) A B) 0)) ∧ (¬ f = 0 → (vp_in (((8 : Int32) * c) + k) 64 ∧ Q (.inl (some (.long ((B 31) (((8 : Int32) * c) + k).toNatClampNeg)))) (HX (va_up I 9 (0 : Int32)) A B) 0)))) ∧ (¬ (0 : Int32) ≤ 0 → Q (.inl (some (.long (0 : Int64)))) (HX (va_up I 9 (0 : Int32)) A B) 0))))
  cases h : isMb (I 10) (A 29) c k with
  | false => exact br_y rfl (br_n (by decide) (hn h))
  | true =>
    have hy := hy h
    obtain ⟨i, j, hi, hj, rfl, rfl⟩ := isMb_ix h8 e0 hm h
    have hc := (hm i hi).1
    refine br_n (by decide) (br_y (by decide) ?_)
    rw [nI_num] at hy ⊢
    have hin : vp_in (nI (8 * i + j)) 64 := vp_in_nI (by omega) (by omega)
    refine ⟨fun z => ⟨hin, ?_⟩, fun z => ⟨hin, ?_⟩⟩
    · rw [if_pos z] at hy; exact hy
    · rw [if_neg z] at hy; exact hy
theorem vInv.mem {I : Nat → Int32} {A : Nat → Nat → Int32} {B : Nat → Nat → Int64} (h : vInv I A B) : ∃ (n : Nat) (mc : Nat → Nat), (n ≤ 8 ∧ I 0 = nI n ∧ I 10 = nI n) ∧ (∀ c, c < n → mc c ≤ 6 ∧ A 6 c = nI (mc c) ∧ A 29 c = nI (mc c)) ∧ (∀ c k, c < n → k < mc c → B 30 (8 * c + k) = B 8 (8 * c + k) ∧ B 31 (8 * c + k) = B 9 (8 * c + k) ∧ B 32 (8 * c + k) = B 10 (8 * c + k) ∧ A 33 (8 * c + k) = A 11 (8 * c + k)) := by
  obtain ⟨n, mc, sz, h1, h2, h3, -⟩ := h
  exact ⟨n, mc, h1, fun c hc => (h2 c hc).2.2.2, fun c k hc hk => (h3 c k hc hk).1⟩
theorem isMb_same {n : Nat} {m c k : Int32} {g g' : Nat → Int32} (h8 : n ≤ 8) (e0 : m = nI n) (hg : ∀ c, c < n → g' c = g c) : isMb m g' c k = isMb m g c k := by
  unfold isMb
  cases h : isC m c with
  | false => rw [Bool.false_and, Bool.false_and]
  | true =>
    have h2 := h
    rw [e0] at h2
    obtain ⟨i, hi, e⟩ := isC_ix (by omega) h2
    have e3 : g' c.toNatClampNeg = g c.toNatClampNeg := by
      rw [e, nI_clamp (by omega)]
      exact hg i hi
    rw [e3]
theorem j_memberName : J_memberName vInv := by
  intro I A B c k f hf hV
  obtain ⟨n, mc, ⟨h8, e0, e10⟩, hm, hb⟩ := hV.mem
  have hs : isMb (I 10) (A 29) c k = isMb (I 0) (A 6) c k := by
    rw [e10, ← e0]
    exact isMb_same h8 e0 (fun c hc => (hm c hc).2.2.trans (hm c hc).2.1.symm)
  cases h : isMb (I 0) (A 6) c k with
  | false =>
    have h' := hs.trans h
    exact ⟨1, I, A, B, 1, 0, va_up I 9 1, A, B, fun Q hq => p_L_memberName h8 e0 (fun c hc => ⟨(hm c hc).1, (hm c hc).2.1⟩) (fun w => by rw [h] at w; cases w) (fun _ => hq), Nat.le_refl 1, fun Q hq => p_M_memberName h8 e10 (fun c hc => ⟨(hm c hc).1, (hm c hc).2.2⟩) (fun w => by rw [h'] at w; cases w) (fun _ => hq), rfl, fun z => absurd z (by decide), hV⟩
  | true =>
    have h' := hs.trans h
    refine ⟨0, I, A, _, 0, (if f = 0 then B 30 ((8 : Int32) * c + k).toNatClampNeg else B 31 ((8 : Int32) * c + k).toNatClampNeg), va_up I 9 0, A, _, fun Q hq => p_L_memberName h8 e0 (fun c hc => ⟨(hm c hc).1, (hm c hc).2.1⟩) (fun w => hq) (fun w => by rw [h] at w; cases w), Nat.zero_le 1, fun Q hq => p_M_memberName h8 e10 (fun c hc => ⟨(hm c hc).1, (hm c hc).2.2⟩) (fun w => hq) (fun w => by rw [h'] at w; cases w), rfl, fun z => ?_, hV⟩
    show vp_updL (B 41) 0 (if f = 0 then B 8 ((8 : Int32) * c + k).toNatClampNeg else B 9 ((8 : Int32) * c + k).toNatClampNeg) 0 = _
    refine pk_uLs.trans ?_
    obtain ⟨i, j, hi, hj, rfl, rfl⟩ := isMb_ix h8 e0 (fun c hc => ⟨(hm c hc).1, (hm c hc).2.1⟩) h
    have hc := (hm i hi).1
    rw [nI_num, nI_clamp (by omega), (hb i j hi hj).1, (hb i j hi hj).2.1]
theorem case_10 {L : Nat} {xs : Nat → Int32} : xCase vInv L xs 912 := lcase_10 j_memberName
