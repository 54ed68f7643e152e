-- member
def pmA (A : Nat → Nat → Int32) (c k : Nat) (b : Int32) : Nat → Nat → Int32 := va_up (va_up A 11 (upd (A 11) (8 * c + k) b)) 6 (upd (A 6) c (nI (k + 1)))
def pmB (B : Nat → Nat → Int64) (m : Nat) (t d : Int64) : Nat → Nat → Int64 := va_up (va_up (va_up B 8 (vp_updL (B 8) m t)) 9 (vp_updL (B 9) m t)) 10 (vp_updL (B 10) m d)
def qmA (A : Nat → Nat → Int32) (c k : Nat) (b : Int32) : Nat → Nat → Int32 := va_up (va_up A 33 (upd (A 33) (8 * c + k) b)) 29 (upd (A 29) c (nI (k + 1)))
def qmB (B : Nat → Nat → Int64) (m : Nat) (t d : Int64) : Nat → Nat → Int64 := va_up (va_up (va_up B 30 (vp_updL (B 30) m t)) 31 (vp_updL (B 31) m t)) 32 (vp_updL (B 32) m d)
theorem p_S_hasRoomFor {I : Nat → Int32} {A : Nat → Nat → Int32} {B : Nat → Nat → Int64} {Q : xQ} {t d : Int64} {c m : Nat} (hc : c < 8) (hm : m ≤ 6) (e6 : A 6 c = nI m) (hq : Q (.inl (some (.int (bI (decide (m < 6 ∧ owN (B 8) (B 10) t d c m 0 = -1)))))) (HX I A B) 0) : xRun tb_S_hasRoomFor 6 [.ref 1, .int (nI c), .long t, .long d] (HX I A B) Q := by
  refine ⟨Nat.le_of_ble_eq_true rfl, ?_⟩
  refine xG.go [16] 60 ?_
  show (vp_in (nI c) 8 ∧ (((6 : Int32) ≤ ((A 6) (nI c).toNatClampNeg) → (((0 : Int32) = (0 : Int32) ∨ (0 : Int32) = 1) ∧ Q (.inl (some (.int (0 : Int32)))) (HX I A B) 0)) ∧ (¬ (6 : Int32) ≤ ((A 6) (nI c).toNatClampNeg) → xG tb_S_hasRoomFor Q (16, [some (.ref 1), some (.int (nI c)), some (.long t), none, some (.long d), none], [.long d, .long t, .int (nI c), .ref 1], (HX I A B), 0))))
  rw [nI_clamp (by omega), e6]
  refine ⟨vp_in_nI hc (by omega), fun z => ?_, fun z => ?_⟩
  · rw [decide_eq_false (fun q => nI_ge (b := 6) q.1 (by omega) z)] at hq
    exact ⟨Or.inl rfl, hq⟩
  · refine xG.callV (F := xRun tb_S_ownMember 8) (a := 1) rfl rfl rfl rfl (p_S_ownMember hc hm e6 ?_)
    have q6 : m < 6 := by
      rcases Nat.lt_or_ge m 6 with q | q
      · exact q
      · exact absurd (nI_le (a := 6) q (by omega)) z
    generalize owN (B 8) (B 10) t d c m 0 = v at hq ⊢
    refine xG.go [16] 60 ?_
    show ((v = (-1 : Int32) → (((1 : Int32) = (0 : Int32) ∨ (1 : Int32) = 1) ∧ Q (.inl (some (.int (1 : Int32)))) (HX I A B) 0)) ∧ (¬ v = (-1 : Int32) → (((0 : Int32) = (0 : Int32) ∨ (0 : Int32) = 1) ∧ Q (.inl (some (.int (0 : Int32)))) (HX I A B) 0)))
    refine ⟨fun w => ?_, fun w => ?_⟩
    · rw [decide_eq_true ⟨q6, w⟩] at hq
      exact ⟨Or.inr rfl, hq⟩
    · rw [decide_eq_false (fun q => w q.2)] at hq
      exact ⟨Or.inl rfl, hq⟩
theorem p_S_placeMember {I : Nat → Int32} {A : Nat → Nat → Int32} {B : Nat → Nat → Int64} {Q : xQ} {t d : Int64} {b : Int32} {c m : Nat} (hc : c < 8) (hm : m < 6) (e6 : A 6 c = nI m) (hb : b = 0 ∨ b = 1) (hq : Q (.inl (some (.int (nI m)))) (HX I (pmA A c m b) (pmB B (8 * c + m) t d)) 0) : xRun tb_S_placeMember 9 [.ref 1, .int (nI c), .long t, .long d, .int b] (HX I A B) Q := by
  refine ⟨Nat.le_of_ble_eq_true rfl, ?_⟩
  refine xG.go [11] 60 ?_
  show (vp_in (nI c) 8 ∧ xG tb_S_placeMember Q (11, [some (.ref 1), some (.int (nI c)), some (.long t), none, some (.long d), none, some (.int b), some (.int ((A 6) (nI c).toNatClampNeg)), none], [.int ((A 6) (nI c).toNatClampNeg), .int (nI c)], (HX I A B), 0))
  rw [nI_clamp (by omega), e6]
  refine ⟨vp_in_nI hc (by omega), ?_⟩
  refine xG.call (F := xRun tb_S_number 2) rfl rfl (p_S_number ?_)
  rw [nI_num]
  refine xG.go [11] 60 ?_
  show (vp_in (nI (8 * c + m)) 64 ∧ (vp_in (nI (8 * c + m)) 64 ∧ (vp_in (nI (8 * c + m)) 64 ∧ (vp_in (nI (8 * c + m)) 64 ∧ (vp_in (nI c) 8 ∧ Q (.inl (some (.int (nI m)))) (HX I (va_up (va_up A 11 (upd (A 11) (nI (8 * c + m)).toNatClampNeg (vp_nar .boolean b))) 6 (upd (A 6) (nI c).toNatClampNeg ((nI m) + (1 : Int32)))) (va_up (va_up (va_up B 8 (vp_updL (B 8) (nI (8 * c + m)).toNatClampNeg t)) 9 (vp_updL (B 9) (nI (8 * c + m)).toNatClampNeg t)) 10 (vp_updL (B 10) (nI (8 * c + m)).toNatClampNeg d))) 0)))))
  rw [nI_clamp (by omega), nI_clamp (by omega), nI_1, nar_b hb]
  have hin : vp_in (nI (8 * c + m)) 64 := vp_in_nI (by omega) (by omega)
  exact ⟨hin, hin, hin, hin, vp_in_nI hc (by omega), hq⟩
theorem p_M_putMember {I : Nat → Int32} {A : Nat → Nat → Int32} {B : Nat → Nat → Int64} {Q : xQ} {t d : Int64} {b : Int32} {c m : Nat} (hc : c < 8) (hm : m < 6) (e6 : A 29 c = nI m) (hb : b = 0 ∨ b = 1) (hq : Q (.inl none) (HX I (qmA A c m b) (qmB B (8 * c + m) t d)) 0) : xRun tb_M_putMember 8 [.ref 24, .int (nI c), .long t, .long d, .int b] (HX I A B) Q := by
  refine ⟨Nat.le_of_ble_eq_true rfl, ?_⟩
  refine xG.go [] 60 ?_
  show (vp_in (nI c) 8 ∧ (vp_in (((8 : Int32) * (nI c)) + ((A 29) (nI c).toNatClampNeg)) 64 ∧ (vp_in (((8 : Int32) * (nI c)) + ((A 29) (nI c).toNatClampNeg)) 64 ∧ (vp_in (((8 : Int32) * (nI c)) + ((A 29) (nI c).toNatClampNeg)) 64 ∧ (vp_in (((8 : Int32) * (nI c)) + ((A 29) (nI c).toNatClampNeg)) 64 ∧ (vp_in (nI c) 8 ∧ (vp_in (nI c) 8 ∧ Q (.inl none) (HX I (va_up (va_up A 33 (upd (A 33) (((8 : Int32) * (nI c)) + ((A 29) (nI c).toNatClampNeg)).toNatClampNeg (vp_nar .boolean b))) 29 (upd (A 29) (nI c).toNatClampNeg (((A 29) (nI c).toNatClampNeg) + (1 : Int32)))) (va_up (va_up (va_up B 30 (vp_updL (B 30) (((8 : Int32) * (nI c)) + ((A 29) (nI c).toNatClampNeg)).toNatClampNeg t)) 31 (vp_updL (B 31) (((8 : Int32) * (nI c)) + ((A 29) (nI c).toNatClampNeg)).toNatClampNeg t)) 32 (vp_updL (B 32) (((8 : Int32) * (nI c)) + ((A 29) (nI c).toNatClampNeg)).toNatClampNeg d))) 0)))))))
  rw [nI_clamp (by omega), e6, nI_num, nI_clamp (by omega), nI_1, nar_b hb]
  have hin : vp_in (nI (8 * c + m)) 64 := vp_in_nI (by omega) (by omega)
  have hi8 : vp_in (nI c) 8 := vp_in_nI hc (by omega)
  exact ⟨hi8, hin, hin, hin, hin, hi8, hi8, hq⟩
theorem p_N_member_3 {I : Nat → Int32} {A : Nat → Nat → Int32} {B : Nat → Nat → Int64} {Q : xQ} {n c : Nat} {mc : Nat → Nat} {t d : Int64} {b : Int32} (h8 : n ≤ 8) (e0 : I 0 = nI n) (hm : ∀ c, c < n → mc c ≤ 6 ∧ A 6 c = nI (mc c)) (hc : c < n) (hb : b = 0 ∨ b = 1) (h3 : (0 < chg B mc n ∨ ¬ (mc c < 6 ∧ owN (B 8) (B 10) t d c (mc c) 0 = -1)) → Q (.inr 2) (HX I A B) 1) (h0 : ¬ 0 < chg B mc n → mc c < 6 ∧ owN (B 8) (B 10) t d c (mc c) 0 = -1 → Q (.inl (some (.int (nI (mc c))))) (HX I (pmA A c (mc c) b) (pmB B (8 * c + mc c) t d)) 0) : xG tb_N_member Q (37, [some (.ref 0), some (.int (nI c)), some (.long t), none, some (.long d), none, some (.int b)], [], (HX I A B), 0) := by
  refine xG.go [2, 6, 21, 37, 41, 55, 81] 60 ?_
  show xG tb_N_member Q (41, [some (.ref 0), some (.int (nI c)), some (.long t), none, some (.long d), none, some (.int b)], [.ref 1], (HX I A B), 0)
  refine xG.callV (F := xRun tb_S_isMoving 1) (a := 1) rfl rfl rfl rfl (p_S_isMoving h8 e0 hm ?_)
  refine xG.go [2, 6, 21, 37, 41, 55, 81] 60 ?_
  show (((bI (decide (0 < chg B mc n))) = 0 → xG tb_N_member Q (55, [some (.ref 0), some (.int (nI c)), some (.long t), none, some (.long d), none, some (.int b)], [.long d, .long t, .int (nI c), .ref 1], (HX I A B), 0)) ∧ (¬ (bI (decide (0 < chg B mc n))) = 0 → Q (.inr 2) (HX I A B) 1))
  by_cases w1 : 0 < chg B mc n
  · rw [decide_eq_true w1]
    exact br_n (by decide) (h3 (Or.inl w1))
  rw [decide_eq_false w1]
  refine br_y rfl ?_
  refine xG.callV (F := xRun tb_S_hasRoomFor 6) (a := 1) rfl rfl rfl rfl (p_S_hasRoomFor (by omega) (hm c hc).1 (hm c hc).2 ?_)
  refine xG.go [2, 6, 21, 37, 41, 55, 81] 60 ?_
  show (((bI (decide (mc c < 6 ∧ owN (B 8) (B 10) t d c (mc c) 0 = -1))) = 0 → Q (.inr 2) (HX I A B) 1) ∧ (¬ (bI (decide (mc c < 6 ∧ owN (B 8) (B 10) t d c (mc c) 0 = -1))) = 0 → xG tb_N_member Q (81, [some (.ref 0), some (.int (nI c)), some (.long t), none, some (.long d), none, some (.int b)], [.int b, .long d, .long t, .int (nI c), .ref 1], (HX I A B), 0)))
  by_cases w2 : mc c < 6 ∧ owN (B 8) (B 10) t d c (mc c) 0 = -1
  · rw [decide_eq_true w2]
    refine br_n (by decide) ?_
    refine xG.callV (F := xRun tb_S_placeMember 9) (a := 1) rfl rfl rfl rfl (p_S_placeMember (by omega) w2.1 (hm c hc).2 hb ?_)
    have hy := h0 w1 w2
    generalize nI (mc c) = v at hy ⊢
    refine xG.go [2, 6, 21, 41, 55, 81] 30 ?_
    exact hy
  · rw [decide_eq_false w2]
    exact br_y rfl (h3 (Or.inr w2))
theorem p_N_member {I : Nat → Int32} {A : Nat → Nat → Int32} {B : Nat → Nat → Int64} {Q : xQ} {n : Nat} {c : Int32} {mc : Nat → Nat} {t d : Int64} {b : Int32} (h8 : n ≤ 8) (e0 : I 0 = nI n) (hm : ∀ c, c < n → mc c ≤ 6 ∧ A 6 c = nI (mc c)) (hb : b = 0 ∨ b = 1) (h1 : isC (I 0) c = false → Q (.inr 1) (HX I A B) 1) (h2 : ∀ i, i < n → c = nI i → ¬ (isId t = true ∧ dOne d n = true) → Q (.inr 0) (HX I A B) 1) (h3 : ∀ i, i < n → c = nI i → (isId t = true ∧ dOne d n = true) → (0 < chg B mc n ∨ ¬ (mc i < 6 ∧ owN (B 8) (B 10) t d i (mc i) 0 = -1)) → Q (.inr 2) (HX I A B) 1) (h0 : ∀ i, i < n → c = nI i → (isId t = true ∧ dOne d n = true) → ¬ 0 < chg B mc n → mc i < 6 ∧ owN (B 8) (B 10) t d i (mc i) 0 = -1 → Q (.inl (some (.int (nI (mc i))))) (HX I (pmA A i (mc i) b) (pmB B (8 * i + mc i) t d)) 0) : xRun tb_N_member 7 [.ref 0, .int c, .long t, .long d, .int b] (HX I A B) Q := by
  refine ⟨Nat.le_of_ble_eq_true rfl, ?_⟩
  refine xG.go [2, 6, 21, 37, 41, 55, 81] 60 ?_
  show xG tb_N_member Q (2, [some (.ref 0), some (.int c), some (.long t), none, some (.long d), none, some (.int b)], [.int c, .ref 0], (HX I A B), 0)
  refine xG.callV (F := xRun tb_N_requireClass 2) (a := 0) rfl rfl rfl rfl (p_N_requireClass (fun w => ?_) (fun w => h1 w))
  rw [e0] at w
  obtain ⟨i, hi, rfl⟩ := isC_ix (by omega) w
  refine xG.go [2, 6, 21, 37, 41, 55, 81] 60 ?_
  show xG tb_N_member Q (6, [some (.ref 0), some (.int (nI i)), some (.long t), none, some (.long d), none, some (.int b)], [.long t], (HX I A B), 0)
  refine xG.call (F := xRun tb_T_isIdentifier 2) rfl rfl (p_T_isIdentifier ?_)
  refine xG.go [2, 6, 21, 37, 41, 55, 81] 60 ?_
  show (((bI (isId t)) = 0 → Q (.inr 0) (HX I A B) 1) ∧ (¬ (bI (isId t)) = 0 → xG tb_N_member Q (21, [some (.ref 0), some (.int (nI i)), some (.long t), none, some (.long d), none, some (.int b)], [.int (I 0), .long d], (HX I A B), 0)))
  cases hc : isId t with
  | false => exact br_y rfl (h2 i hi rfl (fun q => by rw [hc] at q; cases q.1))
  | true =>
    refine br_n (by decide) ?_
    rw [e0]
    refine xG.call (F := xRun tb_D_isOne 5) rfl rfl (p_D_isOne ?_)
    refine xG.go [2, 6, 21, 37, 41, 55, 81] 60 ?_
    show (((bI (dOne d n)) = 0 → Q (.inr 0) (HX I A B) 1) ∧ (¬ (bI (dOne d n)) = 0 → xG tb_N_member Q (37, [some (.ref 0), some (.int (nI i)), some (.long t), none, some (.long d), none, some (.int b)], [], (HX I A B), 0)))
    cases hd : dOne d n with
    | false => exact br_y rfl (h2 i hi rfl (fun q => by rw [hd] at q; cases q.2))
    | true => exact br_n (by decide) (p_N_member_3 h8 e0 hm hi hb (h3 i hi rfl ⟨hc, hd⟩) (h0 i hi rfl ⟨hc, hd⟩))
theorem p_L_member {I : Nat → Int32} {A : Nat → Nat → Int32} {B : Nat → Nat → Int64} {Q : xQ} {n : Nat} {c : Int32} {mc : Nat → Nat} {t d : Int64} {b : Int32} (h8 : n ≤ 8) (e0 : I 0 = nI n) (hm : ∀ c, c < n → mc c ≤ 6 ∧ A 6 c = nI (mc c)) (hb : b = 0 ∨ b = 1) (h1 : isC (I 0) c = false → Q (.inl (some (.int 1))) (HX I A B) 1) (h2 : ∀ i, i < n → c = nI i → ¬ (isId t = true ∧ dOne d n = true) → Q (.inl (some (.int 2))) (HX I A B) 1) (h3 : ∀ i, i < n → c = nI i → (isId t = true ∧ dOne d n = true) → (0 < chg B mc n ∨ ¬ (mc i < 6 ∧ owN (B 8) (B 10) t d i (mc i) 0 = -1)) → Q (.inl (some (.int 3))) (HX I A B) 1) (h0 : ∀ i, i < n → c = nI i → (isId t = true ∧ dOne d n = true) → ¬ 0 < chg B mc n → mc i < 6 ∧ owN (B 8) (B 10) t d i (mc i) 0 = -1 → Q (.inl (some (.int 0))) (HX I (pmA A i (mc i) b) (va_up (pmB B (8 * i + mc i) t d) 41 (vp_updL (B 41) 0 (nI (mc i)).toInt64))) 0) : xRun tb_L_member 9 [.ref 0, .int c, .long t, .long d, .int b, .ref 41] (HX I A B) Q := by
  refine ⟨Nat.le_of_ble_eq_true rfl, ?_⟩
  refine xG.go [10] 60 ?_
  show xG tb_L_member Q (10, [some (.ref 0), some (.int c), some (.long t), none, some (.long d), none, some (.int b), some (.ref 41), none], [.int b, .long d, .long t, .int c, .ref 0, .int (0 : Int32), .ref 41], (HX I A B), 0)
  refine xG.callH (F := xRun tb_N_member 7) (a := 0) rfl rfl rfl rfl (p_N_member h8 e0 hm hb (fun w => h1 w) (fun i hi w z => h2 i hi w z) (fun i hi w z q => h3 i hi w z q) (fun i hi w z q p => ?_))
  have hy := h0 i hi w z q p
  generalize nI (mc i) = v at hy ⊢
  refine xG.go [10] 30 ?_
  exact ⟨vp_in_nI (n := 0) (by omega) (by omega), hy⟩
theorem p_M_member_no {I : Nat → Int32} {A : Nat → Nat → Int32} {B : Nat → Nat → Int64} {Q : xQ} {c : Int32} {t d : Int64} {b k : Int32} (hk : 0 < k) (hq : Q (.inl (some (.int 0))) (HX (va_up I 9 k) A B) 0) : xG tb_M_member Q (72, [some (.ref 24), some (.int c), some (.long t), none, some (.long d), none, some (.int b)], [.int k, .ref 24], (HX I A B), 0) := by
  refine xG.go [3, 15, 28, 39, 61, 91] 60 ?_
  show ((k ≤ 0 → xG tb_M_member Q (91, [some (.ref 24), some (.int c), some (.long t), none, some (.long d), none, some (.int b)], [.int b, .long d, .long t, .int c, .ref 24], (HX (va_up I 9 k) A B), 0)) ∧ (¬ k ≤ 0 → Q (.inl (some (.int (0 : Int32)))) (HX (va_up I 9 k) A B) 0))
  refine br_n (fun z => ?_) hq
  exact Int32.lt_irrefl (Int32.lt_of_lt_of_le hk z)
theorem p_M_member {I : Nat → Int32} {A : Nat → Nat → Int32} {B : Nat → Nat → Int64} {Q : xQ} {n : Nat} {c : Int32} {mc : Nat → Nat} {t d : Int64} {b : Int32} (hM : mtot B mc 0 n < 2 ^ 31) (h8 : n ≤ 8) (e0 : I 10 = nI n) (hm : ∀ c, c < n → mc c ≤ 6 ∧ A 29 c = nI (mc c)) (hb : b = 0 ∨ b = 1) (h1 : isC (nI n) c = false → Q (.inl (some (.int 0))) (HX (va_up I 9 1) A B) 0) (h2 : ∀ i, i < n → c = nI i → ¬ (isId t = true ∧ dOne d n = true) → ∀ x, Q (.inl (some (.int 0))) (HX (va_up (va_up I 15 x) 9 2) A B) 0) (h3 : ∀ i, i < n → c = nI i → (isId t = true ∧ dOne d n = true) → (0 < mtot B mc 0 n ∨ mc i = 6 ∨ ¬ hsN (B 30) (B 32) t d i (mc i) 0 (-1) < 0) → ∀ x, Q (.inl (some (.int 0))) (HX (va_up (va_up I 15 x) 9 3) A B) 0) (h0' : ∀ i, i < n → c = nI i → (isId t = true ∧ dOne d n = true) → ¬ (0 < mtot B mc 0 n ∨ mc i = 6 ∨ ¬ hsN (B 30) (B 32) t d i (mc i) 0 (-1) < 0) → ∀ x, Q (.inl (some (.int (nI (mc i))))) (HX (va_up (va_up I 15 x) 9 0) (qmA A i (mc i) b) (qmB B (8 * i + mc i) t d)) 0) : xRun tb_M_member 7 [.ref 24, .int c, .long t, .long d, .int b] (HX I A B) Q := by
  refine ⟨Nat.le_of_ble_eq_true rfl, ?_⟩
  refine xG.go [3, 15, 28, 39, 61, 72, 91] 60 ?_
  show xG tb_M_member Q (3, [some (.ref 24), some (.int c), some (.long t), none, some (.long d), none, some (.int b)], [.int c, .ref 24, .ref 24], (HX I A B), 0)
  refine xG.callV (F := xRun tb_M_isClass 2) (a := 24) rfl rfl rfl rfl (p_M_isClass ?_)
  refine xG.go [3, 15, 28, 39, 61, 72, 91] 60 ?_
  show (((bI (isC (I 10) c)) = 0 → xG tb_M_member Q (72, [some (.ref 24), some (.int c), some (.long t), none, some (.long d), none, some (.int b)], [.int (1 : Int32), .ref 24], (HX I A B), 0)) ∧ (¬ (bI (isC (I 10) c)) = 0 → xG tb_M_member Q (15, [some (.ref 24), some (.int c), some (.long t), none, some (.long d), none, some (.int b)], [.int (1 : Int32), .long t, .ref 24], (HX I A B), 0)))
  rw [e0]
  cases h : isC (nI n) c with
  | false => exact br_y rfl (p_M_member_no (by decide) (h1 h))
  | true =>
    obtain ⟨i, hi, rfl⟩ := isC_ix (by omega) h
    have h2 := h2 i hi rfl
    have h3 := h3 i hi rfl
    have h0' := h0' i hi rfl
    refine br_n (by decide) ?_
    refine xG.call (F := xRun tb_M_isName 8) rfl rfl (p_M_isName (al := true) ?_)
    rw [mName_id]
    refine xG.go [3, 15, 28, 39, 61, 72, 91] 60 ?_
    show (((bI (isId t)) = 0 → xG tb_M_member Q (72, [some (.ref 24), some (.int (nI i)), some (.long t), none, some (.long d), none, some (.int b)], [.int (2 : Int32), .ref 24], (HX I A B), 0)) ∧ (¬ (bI (isId t)) = 0 → xG tb_M_member Q (28, [some (.ref 24), some (.int (nI i)), some (.long t), none, some (.long d), none, some (.int b)], [.int (I 10), .long d, .ref 24, .ref 24], (HX I A B), 0)))
    cases hc : isId t with
    | false =>
      have := h2 (fun q => by rw [hc] at q; cases q.1) (I 15)
      rw [up_same] at this
      exact br_y rfl (p_M_member_no (by decide) this)
    | true =>
      refine br_n (by decide) ?_
      rw [e0]
      refine xG.callV (F := xRun tb_M_isDescriptor 5) (a := 24) rfl rfl rfl rfl (p_M_isDescriptor (by omega) (fun x => ?_))
      refine xG.go [3, 15, 28, 39, 61, 72, 91] 60 ?_
      show (((bI (dOne d n)) = 0 → xG tb_M_member Q (72, [some (.ref 24), some (.int (nI i)), some (.long t), none, some (.long d), none, some (.int b)], [.int (2 : Int32), .ref 24], (HX (va_up I 15 x) A B), 0)) ∧ (¬ (bI (dOne d n)) = 0 → xG tb_M_member Q (39, [some (.ref 24), some (.int (nI i)), some (.long t), none, some (.long d), none, some (.int b)], [.ref 24, .ref 24], (HX (va_up I 15 x) A B), 0)))
      cases hd : dOne d n with
      | false => exact br_y rfl (p_M_member_no (by decide) (h2 (fun q => by rw [hd] at q; cases q.2) x))
      | true =>
        have h3 := fun q => h3 ⟨hc, hd⟩ q x
        have h0' := fun q => h0' ⟨hc, hd⟩ q x
        refine br_n (by decide) ?_
        refine xG.callV (F := xRun tb_M_moves 4) (a := 24) rfl rfl rfl rfl (p_M_moves (I := va_up I 15 x) h8 e0 hm ?_)
        refine xG.go [3, 15, 28, 39, 61, 72, 91] 60 ?_
        show ((0 < (nI (mtot B mc 0 n)) → xG tb_M_member Q (72, [some (.ref 24), some (.int (nI i)), some (.long t), none, some (.long d), none, some (.int b)], [.int (3 : Int32), .ref 24], (HX (va_up I 15 x) A B), 0)) ∧ (¬ 0 < (nI (mtot B mc 0 n)) → (vp_in (nI i) 8 ∧ ((((A 29) (nI i).toNatClampNeg) = (6 : Int32) → xG tb_M_member Q (72, [some (.ref 24), some (.int (nI i)), some (.long t), none, some (.long d), none, some (.int b)], [.int (3 : Int32), .ref 24], (HX (va_up I 15 x) A B), 0)) ∧ (¬ ((A 29) (nI i).toNatClampNeg) = (6 : Int32) → xG tb_M_member Q (61, [some (.ref 24), some (.int (nI i)), some (.long t), none, some (.long d), none, some (.int b)], [.long d, .long t, .int (nI i), .ref 24, .ref 24], (HX (va_up I 15 x) A B), 0))))))
        rw [nI_clamp (by omega), (hm i hi).2]
        refine ⟨fun z => ?_, fun z => ⟨vp_in_nI (by omega) (by omega), fun z1 => ?_, fun z1 => ?_⟩⟩
        · refine p_M_member_no (by decide) (h3 (Or.inl ?_))
          rcases Nat.eq_zero_or_pos (mtot B mc 0 n) with q | q
          · rw [q] at z; exact absurd z (by decide)
          · exact q
        · exact p_M_member_no (by decide) (h3 (Or.inr (Or.inl ((nI_eq (b := 6) (by have := (hm i hi).1; omega) (by omega)).mp z1))))
        · have h6 := (hm i hi).1
          have ne6 : ¬ mc i = 6 := fun q => z1 (by rw [q]; rfl)
          refine xG.callV (F := xRun tb_M_has 8) (a := 24) rfl rfl rfl rfl (p_M_has (by omega) (hm i hi).1 (hm i hi).2 ?_)
          generalize hsN (B 30) (B 32) t d i (mc i) 0 (-1) = v at h3 h0' ⊢
          refine xG.go [3, 15, 28, 39, 61, 72, 91] 60 ?_
          show ((v < 0 → xG tb_M_member Q (72, [some (.ref 24), some (.int (nI i)), some (.long t), none, some (.long d), none, some (.int b)], [.int (0 : Int32), .ref 24], (HX (va_up I 15 x) A B), 0)) ∧ (¬ v < 0 → xG tb_M_member Q (72, [some (.ref 24), some (.int (nI i)), some (.long t), none, some (.long d), none, some (.int b)], [.int (3 : Int32), .ref 24], (HX (va_up I 15 x) A B), 0)))
          refine ⟨fun z2 => ?_, fun z2 => p_M_member_no (by decide) (h3 (Or.inr (Or.inr z2)))⟩
          have hy := h0' (fun q => q.elim (fun q => z (Int32.not_le.mp (nI_nle q hM))) (fun q => q.elim ne6 (fun q => q z2)))
          refine xG.go [3, 15, 28, 39, 61, 91] 60 ?_
          show (((0 : Int32) ≤ 0 → xG tb_M_member Q (91, [some (.ref 24), some (.int (nI i)), some (.long t), none, some (.long d), none, some (.int b)], [.int b, .long d, .long t, .int (nI i), .ref 24], (HX (va_up (va_up I 15 x) 9 (0 : Int32)) A B), 0)) ∧ (¬ (0 : Int32) ≤ 0 → Q (.inl (some (.int (0 : Int32)))) (HX (va_up (va_up I 15 x) 9 (0 : Int32)) A B) 0))
          refine br_y (by decide) ?_
          refine xG.callV (F := xRun tb_M_putMember 8) (a := 24) rfl rfl rfl rfl (p_M_putMember (I := va_up (va_up I 15 x) 9 0) (by omega) (by omega) (hm i hi).2 hb ?_)
          refine xG.go [3, 15, 28, 39, 61, 91] 30 ?_
          show (vp_in (nI i) 8 ∧ Q (.inl (some (.int (upd (A 29) i (nI (mc i + 1)) (nI i).toNatClampNeg - 1)))) (HX (va_up (va_up I 15 x) 9 0) (qmA A i (mc i) b) (qmB B (8 * i + mc i) t d)) 0)
          rw [nI_clamp (by omega), pk_us, nI_pred]
          exact ⟨vp_in_nI (by omega) (by omega), hy⟩
theorem vInv.member {I : Nat → Int32} {A : Nat → Nat → Int32} {B : Nat → Nat → Int64} {n c : Nat} {t d : Int64} {b x : Int32} {mc : Nat → Nat} {f : Nat → Int64} (h : vInv I A B) (h8 : n ≤ 8) (e0 : I 0 = nI n) (hc : c < n) (hm : ∀ c, c < n → mc c ≤ 6 ∧ A 6 c = nI (mc c)) (hb : b = 0 ∨ b = 1) (h6' : mc c < 6) (ht : okT t) (hd : okD n d) (ho : ∀ k, k < mc c → ¬ (B 8 (8 * c + k) = t ∧ B 10 (8 * c + k) = d)) : vInv (va_up (va_up I 15 x) 9 0) (qmA (pmA A c (mc c) b) c (mc c) b) (qmB (va_up (pmB B (8 * c + mc c) t d) 41 f) (8 * c + mc c) t d) := by
  obtain ⟨n', mc', sz, ⟨g8, g0, g10⟩, h2, h3, h4, h5, h6⟩ := h
  obtain rfl : n = n' := (nI_eq (by omega) (by omega)).mp (e0.symm.trans g0)
  have em : mc c = mc' c := (nI_eq (by omega) (by have := (h2 c hc).2.2.2.1; omega)).mp ((hm c hc).2.symm.trans (h2 c hc).2.2.2.2.1)
  generalize hk0 : mc c = k0 at *
  have nx : ∀ e k, e < n → k < mc' e → 8 * e + k ≠ 8 * c + k0 := fun e k he hk => by
    by_cases q : e = c
    · subst q; omega
    · have := (h2 e he).2.2.2.1; omega
  have hmc : ∀ e k, k < (if e = c then k0 + 1 else mc' e) → (k < mc' e) ∨ (e = c ∧ k = k0) := fun e k hk => by
    by_cases q : e = c
    · rw [if_pos q] at hk
      by_cases z : k = k0
      · exact Or.inr ⟨q, z⟩
      · rw [q]; exact Or.inl (by omega)
    · rw [if_neg q] at hk; exact Or.inl hk
  refine ⟨n, fun e => if e = c then k0 + 1 else mc' e, sz, ⟨g8, g0, g10⟩, fun e he => ?_, fun e k he hk => ?_, h4, ⟨fun e k l he hk hl => ?_, h5.2.1, fun e k he hk => ?_⟩, h6⟩
  · obtain ⟨a1, a2, a3, a4, a5, a6⟩ := h2 e he
    refine ⟨a1, a2, a3, ?_⟩
    show (if e = c then k0 + 1 else mc' e) ≤ 6 ∧ upd (A 6) c (nI (k0 + 1)) e = nI (if e = c then k0 + 1 else mc' e) ∧ upd (A 29) c (nI (k0 + 1)) e = nI (if e = c then k0 + 1 else mc' e)
    by_cases q : e = c
    · subst q
      rw [if_pos rfl, pk_us, pk_us]
      exact ⟨by omega, rfl, rfl⟩
    · rw [if_neg q, pk_un q, pk_un q]
      exact ⟨a4, a5, a6⟩
  · show (vp_updL (B 30) (8 * c + k0) t (8 * e + k) = vp_updL (B 8) (8 * c + k0) t (8 * e + k) ∧ vp_updL (B 31) (8 * c + k0) t (8 * e + k) = vp_updL (B 9) (8 * c + k0) t (8 * e + k) ∧ vp_updL (B 32) (8 * c + k0) d (8 * e + k) = vp_updL (B 10) (8 * c + k0) d (8 * e + k) ∧ upd (A 33) (8 * c + k0) b (8 * e + k) = upd (A 11) (8 * c + k0) b (8 * e + k)) ∧ (upd (A 11) (8 * c + k0) b (8 * e + k) = 0 ∨ upd (A 11) (8 * c + k0) b (8 * e + k) = 1)
    rcases hmc e k hk with q | ⟨rfl, rfl⟩
    · have w := nx e k he q
      rw [pk_uLn w, pk_uLn w, pk_uLn w, pk_uLn w, pk_uLn w, pk_uLn w, pk_un w, pk_un w]
      exact h3 e k he q
    · rw [pk_uLs, pk_uLs, pk_uLs, pk_uLs, pk_uLs, pk_uLs, pk_us, pk_us]
      exact ⟨⟨rfl, rfl, rfl, rfl⟩, hb⟩
  · show vp_updL (B 8) (8 * c + k0) t (8 * e + k) = vp_updL (B 8) (8 * c + k0) t (8 * e + l) → vp_updL (B 10) (8 * c + k0) d (8 * e + k) = vp_updL (B 10) (8 * c + k0) d (8 * e + l) → k = l
    rcases hmc e k hk with q | ⟨rfl, rfl⟩
    · have w := nx e k he q
      rcases hmc e l hl with p | ⟨rfl, rfl⟩
      · have v := nx e l he p
        rw [pk_uLn w, pk_uLn w, pk_uLn v, pk_uLn v]
        exact h5.1 e k l he q p
      · rw [pk_uLn w, pk_uLn w, pk_uLs, pk_uLs]
        exact fun z1 z2 => absurd ⟨z1, z2⟩ (ho k (by omega))
    · rcases hmc e l hl with p | ⟨_, rfl⟩
      · have v := nx e l he p
        rw [pk_uLn v, pk_uLn v, pk_uLs, pk_uLs]
        exact fun z1 z2 => absurd ⟨z1.symm, z2.symm⟩ (ho l (by omega))
      · exact fun _ _ => rfl
  · show okT (vp_updL (B 8) (8 * c + k0) t (8 * e + k)) ∧ okT (vp_updL (B 9) (8 * c + k0) t (8 * e + k)) ∧ okD n (vp_updL (B 10) (8 * c + k0) d (8 * e + k))
    rcases hmc e k hk with q | ⟨rfl, rfl⟩
    · have w := nx e k he q
      rw [pk_uLn w, pk_uLn w, pk_uLn w]
      exact h5.2.2 e k he q
    · rw [pk_uLs, pk_uLs, pk_uLs]
      exact ⟨ht, ht, hd⟩
theorem k_member : K_member vInv := by
  intro I A B c t d b hb hV
  have hV' := hV
  obtain ⟨n, mc, sz, ⟨h8, e0, e10⟩, h2, h3, h4, h5, -⟩ := hV'
  have em : mtot B mc 0 n = chg B mc n := mtot_chg (fun c hc => (h2 c hc).2.2.2.1) (fun c hc => ⟨(h2 c hc).1.1, (h2 c hc).1.2.1⟩) (fun c k hc hk => ⟨(h3 c k hc hk).1.1, (h3 c k hc hk).1.2.1⟩) n 0 (Nat.zero_add n)
  have hM : mtot B mc 0 n < 2 ^ 31 := by
    have q1 := cntF_le (dif (B 3) (B 2)) n 0
    have q2 := cntF_le (fun m => numB mc n m && dif (B 9) (B 8) m) (8 * n) 0
    rw [em]
    unfold chg
    omega
  have hS : ∀ c, c < n → mc c ≤ 6 ∧ A 6 c = nI (mc c) := fun c hc => ⟨(h2 c hc).2.2.2.1, (h2 c hc).2.2.2.2.1⟩
  have hR : ∀ c, c < n → mc c ≤ 6 ∧ A 29 c = nI (mc c) := fun c hc => ⟨(h2 c hc).2.2.2.1, (h2 c hc).2.2.2.2.2⟩
  have inj : ∀ i j, i < n → j < n → nI i = nI j → i = j := fun i j hi hj w => (nI_eq (by omega) (by omega)).mp w
  cases h : isC (nI n) c with
  | false =>
    have no : ∀ i, i < n → c = nI i → False := fun i hi w => by
      rw [w, isC_nI (by omega) (by omega), decide_eq_true hi] at h
      cases h
    refine ⟨1, 1, 0, fun I1 A1 B1 => I1 = I ∧ A1 = A ∧ B1 = B, fun Q hq => p_L_member h8 e0 hS hb (fun _ => hq _ _ _ ⟨rfl, rfl, rfl⟩) (fun i hi w => (no i hi w).elim) (fun i hi w => (no i hi w).elim) (fun i hi w => (no i hi w).elim), Nat.le_refl 1, ?_⟩
    rintro _ _ _ ⟨rfl, rfl, rfl⟩ Q hq
    exact p_M_member hM h8 e10 hR hb (fun _ => hq _ _ _ rfl (fun z => absurd z (by decide)) hV) (fun i hi w => (no i hi w).elim) (fun i hi w => (no i hi w).elim) (fun i hi w => (no i hi w).elim)
  | true =>
    obtain ⟨i, hi, rfl⟩ := isC_ix (by omega) h
    by_cases w2 : isId t = true ∧ dOne d n = true
    · have hu := own_has (f := B 8) (g := B 10) (f' := B 30) (g' := B 32) (t := t) (d := d) (c := i) (m := mc i) (fun k hk => ⟨(h3 i k hi hk).1.1, (h3 i k hi hk).1.2.2.1⟩) (fun k l hk hl => h5.1 i k l hi hk hl)
      have hoh : owN (B 8) (B 10) t d i (mc i) 0 = -1 ↔ hsN (B 30) (B 32) t d i (mc i) 0 (-1) < 0 := by
        rcases hu with ⟨q1, q2, -⟩ | ⟨k, hk, -, -, q1, q2⟩
        · rw [q1, q2]; exact ⟨fun _ => by decide, fun _ => rfl⟩
        · have := (hS i hi).1
          rw [q1, q2]
          exact ⟨fun z => absurd z.symm (m1_nI (by omega)), fun z => absurd z (nI_pos (by omega))⟩
      have m6 := (hS i hi).1
      by_cases w3 : 0 < chg B mc n ∨ ¬ (mc i < 6 ∧ owN (B 8) (B 10) t d i (mc i) 0 = -1)
      · have w3' : 0 < mtot B mc 0 n ∨ mc i = 6 ∨ ¬ hsN (B 30) (B 32) t d i (mc i) 0 (-1) < 0 := by
          rw [em]
          rcases w3 with w3 | w3
          · exact Or.inl w3
          · by_cases q : mc i = 6
            · exact Or.inr (Or.inl q)
            · exact Or.inr (Or.inr (fun p => w3 ⟨by omega, hoh.mpr p⟩))
        refine ⟨3, 1, 0, fun I1 A1 B1 => I1 = I ∧ A1 = A ∧ B1 = B, fun Q hq => p_L_member h8 e0 hS hb (fun z => by rw [e0, h] at z; cases z) (fun j hj z q => absurd w2 q) (fun j hj z _ _ => hq _ _ _ ⟨rfl, rfl, rfl⟩) (fun j hj z q p r => by obtain rfl := inj i j hi hj z; exact (w3.elim p (fun w => w r)).elim), Nat.le_refl 1, ?_⟩
        rintro _ _ _ ⟨rfl, rfl, rfl⟩ Q hq
        exact p_M_member hM h8 e10 hR hb (fun z => by rw [h] at z; cases z) (fun j hj z q => absurd w2 q) (fun j hj z q p x => hq _ _ _ rfl (fun z => absurd z (by decide)) hV) (fun j hj z q p => by obtain rfl := inj i j hi hj z; exact absurd w3' p)
      · have w4 : mc i < 6 ∧ owN (B 8) (B 10) t d i (mc i) 0 = -1 := Classical.byContradiction (fun q => w3 (Or.inr q))
        have w5 : ¬ 0 < chg B mc n := fun q => w3 (Or.inl q)
        have ho : ∀ k, k < mc i → ¬ (B 8 (8 * i + k) = t ∧ B 10 (8 * i + k) = d) := by
          rcases hu with ⟨-, -, q⟩ | ⟨k, hk, -, -, q1, -⟩
          · exact q
          · rw [q1] at w4
            exact absurd w4.2.symm (m1_nI (by omega))
        refine ⟨0, 0, nI (mc i), fun I1 A1 B1 => I1 = I ∧ A1 = pmA A i (mc i) b ∧ B1 = va_up (pmB B (8 * i + mc i) t d) 41 (vp_updL (B 41) 0 (nI (mc i)).toInt64), fun Q hq => p_L_member h8 e0 hS hb (fun z => by rw [e0, h] at z; cases z) (fun j hj z q => absurd w2 q) (fun j hj z q p => by obtain rfl := inj i j hi hj z; exact absurd p w3) (fun j hj z q p r => by obtain rfl := inj i j hi hj z; exact hq _ _ _ ⟨rfl, rfl, rfl⟩), Nat.zero_le 1, ?_⟩
        rintro _ _ _ ⟨rfl, rfl, rfl⟩ Q hq
        have em' : mtot (va_up (pmB B (8 * i + mc i) t d) 41 (vp_updL (B 41) 0 (nI (mc i)).toInt64)) mc 0 n = mtot B mc 0 n := mtot_ext (B := B) (B' := va_up (pmB B (8 * i + mc i) t d) 41 (vp_updL (B 41) 0 (nI (mc i)).toInt64)) rfl rfl rfl rfl n 0
        refine p_M_member (n := n) (mc := mc) (by rw [em']; exact hM) h8 e10 hR hb (fun z => by rw [h] at z; cases z) (fun j hj z q => absurd w2 q) (fun j hj z q p => by
          obtain rfl := inj i j hi hj z
          rw [em', em] at p
          exact (p.elim w5 (fun p => p.elim (fun p => by omega) (fun p => p (hoh.mp w4.2)))).elim) (fun j hj z q p x => ?_)
        obtain rfl := inj i j hi hj z
        exact hq _ _ _ rfl (fun _ => (pk_uLs : vp_updL (B 41) 0 (nI (mc i)).toInt64 0 = _)) (hV.member h8 e0 hi hS hb w4.1 (okT_id w2.1) (dOne_ok (by omega) w2.2) ho)
    · refine ⟨2, 1, 0, fun I1 A1 B1 => I1 = I ∧ A1 = A ∧ B1 = B, fun Q hq => p_L_member h8 e0 hS hb (fun z => by rw [e0, h] at z; cases z) (fun j hj z _ => hq _ _ _ ⟨rfl, rfl, rfl⟩) (fun j hj z q => absurd q w2) (fun j hj z q => absurd q w2), Nat.le_refl 1, ?_⟩
      rintro _ _ _ ⟨rfl, rfl, rfl⟩ Q hq
      exact p_M_member hM h8 e10 hR hb (fun z => by rw [h] at z; cases z) (fun j hj z _ x => hq _ _ _ rfl (fun z => absurd z (by decide)) hV) (fun j hj z q => absurd q w2) (fun j hj z q => absurd q w2)
theorem case_1 {L : Nat} {xs : Nat → Int32} : xCase vInv L xs 248 := kcase_1 k_member
