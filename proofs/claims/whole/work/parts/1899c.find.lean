-- find
def ihN (A : Nat → Nat → Int32) (B : Nat → Nat → Int64) (mc : Nat → Nat) (t d : Int64) (c : Nat) : Nat → Int32
  | 0 => -1
  | a + 1 => if sAn A a c = true then (if owN (B 8) (B 10) t d a (mc a) 0 = -1 then ihN A B mc t d c a else owN (B 8) (B 10) t d a (mc a) 0) else ihN A B mc t d c a
theorem p_S_inheritedMember_l {I : Nat → Int32} {A : Nat → Nat → Int32} {B : Nat → Nat → Int64} {Q : xQ} {n c : Nat} {mc : Nat → Nat} {t d : Int64} (h8 : n ≤ 8) (hm : ∀ c, c < n → mc c ≤ 6 ∧ A 6 c = nI (mc c)) (hc : c < n) : ∀ (k : Nat) (w : Option Value), k ≤ c + 1 → Q (.inl (some (.int (ihN A B mc t d c k)))) (HX I A B) 0 → xG tb_S_inheritedMember Q (3, [some (.ref 1), some (.int (nI c)), some (.long t), none, some (.long d), none, some (.int (nI k - 1)), w], [], (HX I A B), 0)
  | 0, w, h, hq => by
    refine xG.go [3, 12, 24] 60 ?_
    show (((nI 0 - 1) < 0 → Q (.inl (some (.int (-1 : Int32)))) (HX I A B) 0) ∧ (¬ (nI 0 - 1) < 0 → xG tb_S_inheritedMember Q (12, [some (.ref 1), some (.int (nI c)), some (.long t), none, some (.long d), none, some (.int (nI 0 - 1)), w], [.int (nI c), .int (nI 0 - 1), .ref 1], (HX I A B), 0)))
    exact br_y m1_lt hq
  | k + 1, w, h, hq => by
    rw [nI_pred]
    refine xG.go [3, 12, 24] 60 ?_
    show (((nI k) < 0 → Q (.inl (some (.int (-1 : Int32)))) (HX I A B) 0) ∧ (¬ (nI k) < 0 → xG tb_S_inheritedMember Q (12, [some (.ref 1), some (.int (nI c)), some (.long t), none, some (.long d), none, some (.int (nI k)), w], [.int (nI c), .int (nI k), .ref 1], (HX I A B), 0)))
    refine br_n (nI_pos (by omega)) ?_
    refine xG.callV (F := xRun tb_S_isSameOrAncestor 3) (a := 1) rfl rfl rfl rfl (p_S_isSameOrAncestor (a := k) (c := c) (by omega) (by omega) ?_)
    refine xG.go [3, 12, 24] 60 ?_
    show (((bI (sAn A k c)) = 0 → (((-1 : Int32) = (-1 : Int32) → xG tb_S_inheritedMember Q (3, [some (.ref 1), some (.int (nI c)), some (.long t), none, some (.long d), none, some (.int ((nI k) + (-1 : Int32))), some (.int (-1 : Int32))], [], (HX I A B), 0)) ∧ (¬ (-1 : Int32) = (-1 : Int32) → Q (.inl (some (.int (-1 : Int32)))) (HX I A B) 0))) ∧ (¬ (bI (sAn A k c)) = 0 → xG tb_S_inheritedMember Q (24, [some (.ref 1), some (.int (nI c)), some (.long t), none, some (.long d), none, some (.int (nI k)), w], [.long d, .long t, .int (nI k), .ref 1], (HX I A B), 0)))
    have ek : nI k + (-1) = nI k - 1 := by rw [Int32.sub_eq_add_neg]
    rw [ek]
    unfold ihN at hq
    cases hs : sAn A k c with
    | false =>
      rw [hs, if_neg (by decide)] at hq
      exact br_y rfl (br_y rfl (p_S_inheritedMember_l h8 hm hc k _ (by omega) hq))
    | true =>
      rw [hs, if_pos rfl] at hq
      refine br_n (by decide) ?_
      refine xG.callV (F := xRun tb_S_ownMember 8) (a := 1) rfl rfl rfl rfl (p_S_ownMember (by omega) (hm k (by omega)).1 (hm k (by omega)).2 ?_)
      refine xG.go [3, 12, 24] 60 ?_
      show (((owN (B 8) (B 10) t d k (mc k) 0) = (-1 : Int32) → xG tb_S_inheritedMember Q (3, [some (.ref 1), some (.int (nI c)), some (.long t), none, some (.long d), none, some (.int ((nI k) + (-1 : Int32))), some (.int (owN (B 8) (B 10) t d k (mc k) 0))], [], (HX I A B), 0)) ∧ (¬ (owN (B 8) (B 10) t d k (mc k) 0) = (-1 : Int32) → Q (.inl (some (.int (owN (B 8) (B 10) t d k (mc k) 0)))) (HX I A B) 0))
      rw [ek]
      refine ⟨fun z => ?_, fun z => ?_⟩
      · rw [if_pos z] at hq
        exact p_S_inheritedMember_l h8 hm hc k _ (by omega) hq
      · rw [if_neg z] at hq
        exact hq
theorem p_S_inheritedMember {I : Nat → Int32} {A : Nat → Nat → Int32} {B : Nat → Nat → Int64} {Q : xQ} {n c : Nat} {mc : Nat → Nat} {t d : Int64} (h8 : n ≤ 8) (hm : ∀ c, c < n → mc c ≤ 6 ∧ A 6 c = nI (mc c)) (hc : c < n) (hq : Q (.inl (some (.int (ihN A B mc t d c (c + 1))))) (HX I A B) 0) : xRun tb_S_inheritedMember 8 [.ref 1, .int (nI c), .long t, .long d] (HX I A B) Q := by
  refine ⟨Nat.le_of_ble_eq_true rfl, ?_⟩
  refine xG.go [3, 12, 24] 20 ?_
  show xG tb_S_inheritedMember Q (3, [some (.ref 1), some (.int (nI c)), some (.long t), none, some (.long d), none, some (.int (nI c)), none], [], (HX I A B), 0)
  have := p_S_inheritedMember_l h8 hm hc (c + 1) none (Nat.le_refl _) hq
  rw [nI_pred] at this
  exact this
theorem ihN_ext {A : Nat → Nat → Int32} {B : Nat → Nat → Int64} {mc : Nat → Nat} {t d : Int64} {c p : Nat} : ∀ (a : Nat), (∀ x, x < a → sAn A x c = sAn A x p) → ihN A B mc t d c a = ihN A B mc t d p a
  | 0, h => rfl
  | a + 1, h => by
    unfold ihN
    rw [h a (by omega), ihN_ext a (fun x hx => h x (by omega))]
theorem ihN_skip {A : Nat → Nat → Int32} {B : Nat → Nat → Int64} {mc : Nat → Nat} {t d : Int64} {c p : Nat} : ∀ (k : Nat), (∀ x, p ≤ x → x < p + k → sAn A x c = false) → ihN A B mc t d c (p + k) = ihN A B mc t d c p
  | 0, h => rfl
  | k + 1, h => by
    rw [show ihN A B mc t d c (p + (k + 1)) = if sAn A (p + k) c = true then (if owN (B 8) (B 10) t d (p + k) (mc (p + k)) 0 = -1 then ihN A B mc t d c (p + k) else owN (B 8) (B 10) t d (p + k) (mc (p + k)) 0) else ihN A B mc t d c (p + k) from rfl]
    rw [h (p + k) (by omega) (by omega), if_neg (by decide)]
    exact ihN_skip k (fun x h1 h2 => h x h1 (by omega))
/-- one step up -/
theorem ihN_root {A : Nat → Nat → Int32} {B : Nat → Nat → Int64} {mc : Nat → Nat} {t d : Int64} {c : Nat} (hc : c < 8) (h7 : A 7 c = 0) : ihN A B mc t d c (c + 1) = owN (B 8) (B 10) t d c (mc c) 0 := by
  unfold ihN
  rw [if_pos (sAn_self A c)]
  split
  · rename_i h
    have := ihN_skip (A := A) (B := B) (mc := mc) (t := t) (d := d) (c := c) (p := 0) c (fun x _ hx => by rw [sAn_root h7 (by omega)]; exact decide_eq_false (by omega))
    rw [Nat.zero_add] at this
    rw [this, h]
    rfl
  · rfl
theorem ihN_up {A : Nat → Nat → Int32} {B : Nat → Nat → Int64} {mc : Nat → Nat} {t d : Int64} {n c p : Nat} (h8 : n ≤ 8) (hA : ∀ c, c < n → vAnc A c) (hc : c < n) (hp : p < c) (h7 : A 7 c = A 7 p ||| ((1 : Int32) <<< (nI p &&& 31))) (ho : owN (B 8) (B 10) t d c (mc c) 0 = -1) : ihN A B mc t d c (c + 1) = ihN A B mc t d p (p + 1) := by
  unfold ihN
  rw [if_pos (sAn_self A c), if_pos ho]
  have hx : ∀ x, x < c → sAn A x c = sAn A x p := fun x hx => by
    rw [sAn_up h7 (by omega) (by omega), decide_eq_false (by omega), Bool.false_or]
  have e1 := ihN_skip (A := A) (B := B) (mc := mc) (t := t) (d := d) (c := c) (p := p + 1) (c - (p + 1)) (fun x h1 h2 => by
    rw [hx x (by omega)]
    cases hs : sAn A x p with
    | false => rfl
    | true => have := sAn_le h8 hA p x (by omega) (by omega) hs; omega)
  rw [show p + 1 + (c - (p + 1)) = c by omega] at e1
  rw [e1, ihN_ext (p + 1) (fun x h => hx x (by omega))]
  rfl
theorem ihN_41 {A : Nat → Nat → Int32} {B : Nat → Nat → Int64} {mc : Nat → Nat} {t d : Int64} {c : Nat} {f : Nat → Int64} : ∀ {k : Nat}, ihN A (va_up B 41 f) mc t d c k = ihN A B mc t d c k
  | 0 => rfl
  | k + 1 => by
    unfold ihN
    rw [ihN_41 (k := k)]
    rfl
theorem p_N_find {I : Nat → Int32} {A : Nat → Nat → Int32} {B : Nat → Nat → Int64} {Q : xQ} {n : Nat} {c : Int32} {mc : Nat → Nat} {t d : Int64} (h8 : n ≤ 8) (e0 : I 0 = nI n) (hm : ∀ c, c < n → mc c ≤ 6 ∧ A 6 c = nI (mc c)) (h1 : isC (I 0) c = false → Q (.inr 1) (HX I A B) 1) (h2 : ∀ i, i < n → c = nI i → ihN A B mc t d i (i + 1) = -1 → Q (.inr 3) (HX I A B) 1) (h0 : ∀ i, i < n → c = nI i → ¬ ihN A B mc t d i (i + 1) = -1 → Q (.inl (some (.int (ihN A B mc t d i (i + 1))))) (HX I A B) 0) : xRun tb_N_find 7 [.ref 0, .int c, .long t, .long d] (HX I A B) Q := by
  refine ⟨Nat.le_of_ble_eq_true rfl, ?_⟩
  refine xG.go [2, 13] 60 ?_
  show xG tb_N_find Q (2, [some (.ref 0), some (.int c), some (.long t), none, some (.long d), none, none], [.int c, .ref 0], (HX I A B), 0)
  refine xG.callV (F := xRun tb_N_requireClass 2) (a := 0) rfl rfl rfl rfl (p_N_requireClass (fun w => ?_) (fun w => h1 w))
  rw [e0] at w
  obtain ⟨i, hi, rfl⟩ := isC_ix (by omega) w
  refine xG.go [2, 13] 60 ?_
  show xG tb_N_find Q (13, [some (.ref 0), some (.int (nI i)), some (.long t), none, some (.long d), none, none], [.long d, .long t, .int (nI i), .ref 1], (HX I A B), 0)
  refine xG.callV (F := xRun tb_S_inheritedMember 8) (a := 1) rfl rfl rfl rfl (p_S_inheritedMember h8 hm hi ?_)
  refine xG.go [2, 13] 60 ?_
  show (((ihN A B mc t d i (i + 1)) = (-1 : Int32) → Q (.inr 3) (HX I A B) 1) ∧ (¬ (ihN A B mc t d i (i + 1)) = (-1 : Int32) → Q (.inl (some (.int (ihN A B mc t d i (i + 1))))) (HX I A B) 0))
  exact ⟨fun z => h2 i hi rfl z, fun z => h0 i hi rfl z⟩
theorem p_L_find {I : Nat → Int32} {A : Nat → Nat → Int32} {B : Nat → Nat → Int64} {Q : xQ} {n : Nat} {c : Int32} {mc : Nat → Nat} {t d : Int64} (h8 : n ≤ 8) (e0 : I 0 = nI n) (hm : ∀ c, c < n → mc c ≤ 6 ∧ A 6 c = nI (mc c)) (h1 : isC (I 0) c = false → Q (.inl (some (.int 1))) (HX I A B) 1) (h2 : ∀ i, i < n → c = nI i → ihN A B mc t d i (i + 1) = -1 → Q (.inl (some (.int 2))) (HX I A B) 1) (h0 : ∀ i, i < n → c = nI i → ¬ ihN A B mc t d i (i + 1) = -1 → Q (.inl (some (.int 0))) (HX I A (va_up B 41 (vp_updL (B 41) 0 (ihN A B mc t d i (i + 1)).toInt64))) 0) : xRun tb_L_find 8 [.ref 0, .int c, .long t, .long d, .ref 41] (HX I A B) Q := by
  refine ⟨Nat.le_of_ble_eq_true rfl, ?_⟩
  refine xG.go [8] 60 ?_
  show xG tb_L_find Q (8, [some (.ref 0), some (.int c), some (.long t), none, some (.long d), none, some (.ref 41), none], [.long d, .long t, .int c, .ref 0, .int (0 : Int32), .ref 41], (HX I A B), 0)
  refine xG.callH (F := xRun tb_N_find 7) (a := 0) rfl rfl rfl rfl (p_N_find h8 e0 hm (fun w => h1 w) (fun i hi w z => h2 i hi w z) (fun i hi w z => ?_))
  have hy := h0 i hi w z
  generalize ihN A B mc t d i (i + 1) = v at hy ⊢
  refine xG.go [8] 60 ?_
  show (vp_in (0 : Int32) 1 ∧ Q (.inl (some (.int (0 : Int32)))) (HX I A (va_up B 41 (vp_updL (B 41) (0 : Int32).toNatClampNeg v.toInt64))) 0)
  exact ⟨vp_in_nI (n := 0) (by omega) (by omega), hy⟩
/-- the reference's walk from class a -/
theorem p_M_find_e {I : Nat → Int32} {A : Nat → Nat → Int32} {B : Nat → Nat → Int64} {Q : xQ} {c : Int32} {t d : Int64} {w : Option Value} (hq : Q (.inl (some (.int 0))) (HX I A B) 0) : xG tb_M_find Q (32, [some (.ref 24), some (.int c), some (.long t), none, some (.long d), none, some (.int (-1)), w], [], (HX I A B), 0) := by
  refine xG.go [3, 32, 43] 60 ?_
  show (((-1 : Int32) < 0 → Q (.inl (some (.int (0 : Int32)))) (HX I A B) 0) ∧ (¬ (-1 : Int32) < 0 → xG tb_M_find Q (43, [some (.ref 24), some (.int c), some (.long t), none, some (.long d), none, some (.int (-1 : Int32)), w], [.long d, .long t, .int (-1 : Int32), .ref 24], (HX I A B), 0)))
  exact br_y (by decide) hq
theorem p_M_find_l {I : Nat → Int32} {A : Nat → Nat → Int32} {B : Nat → Nat → Int64} {Q : xQ} {n : Nat} {c : Int32} {mc : Nat → Nat} {t d : Int64} (h8 : n ≤ 8) (hm : ∀ c, c < n → mc c ≤ 6 ∧ A 6 c = nI (mc c) ∧ A 29 c = nI (mc c)) (hA : ∀ c, c < n → vAnc A c ∧ A 27 c = A 4 c) (hB : ∀ c k, c < n → k < mc c → B 30 (8 * c + k) = B 8 (8 * c + k) ∧ B 32 (8 * c + k) = B 10 (8 * c + k)) (hu : ∀ c k l, c < n → k < mc c → l < mc c → B 8 (8 * c + k) = B 8 (8 * c + l) → B 10 (8 * c + k) = B 10 (8 * c + l) → k = l) : ∀ (a : Nat) (w : Option Value), a < n → (ihN A B mc t d a (a + 1) = -1 → Q (.inl (some (.int 0))) (HX I A B) 0) → (¬ ihN A B mc t d a (a + 1) = -1 → Q (.inl (some (.int (ihN A B mc t d a (a + 1))))) (HX (va_up I 9 0) A B) 0) → xG tb_M_find Q (32, [some (.ref 24), some (.int c), some (.long t), none, some (.long d), none, some (.int (nI a)), w], [], (HX I A B), 0) := by
  intro a
  induction a using Nat.strongRecOn with
  | _ a ih =>
    intro w ha h1 h2
    refine xG.go [3, 32, 43] 60 ?_
    show (((nI a) < 0 → Q (.inl (some (.int (0 : Int32)))) (HX I A B) 0) ∧ (¬ (nI a) < 0 → xG tb_M_find Q (43, [some (.ref 24), some (.int c), some (.long t), none, some (.long d), none, some (.int (nI a)), w], [.long d, .long t, .int (nI a), .ref 24], (HX I A B), 0)))
    refine br_n (nI_pos (by omega)) ?_
    refine xG.callV (F := xRun tb_M_has 8) (a := 24) rfl rfl rfl rfl (p_M_has (by omega) (hm a ha).1 (hm a ha).2.2 ?_)
    rcases own_has (t := t) (d := d) (c := a) (m := mc a) (hB a · ha) (fun k l hk hl => hu a k l ha hk hl) with ⟨q1, q2, q3⟩ | ⟨k, hk, q1, q2, q3, q4⟩
    · rw [q2]
      refine xG.go [3, 32, 43] 60 ?_
      show (((-1 : Int32) < 0 → (vp_in (nI a) 8 ∧ xG tb_M_find Q (32, [some (.ref 24), some (.int c), some (.long t), none, some (.long d), none, some (.int ((A 27) (nI a).toNatClampNeg)), some (.int (-1 : Int32))], [], (HX I A B), 0))) ∧ (¬ (-1 : Int32) < 0 → Q (.inl (some (.int (((8 : Int32) * (nI a)) + (-1 : Int32))))) (HX (va_up I 9 (0 : Int32)) A B) 0))
      rw [nI_clamp (by omega), (hA a ha).2]
      refine br_y (by decide) ⟨vp_in_nI (by omega) (by omega), ?_⟩
      rcases (hA a ha).1 with ⟨e4, h7⟩ | ⟨p, hp, e4, h7⟩
      · rw [e4]
        exact p_M_find_e (h1 (by rw [ihN_root (by omega) h7]; exact q1))
      · rw [e4]
        have e := ihN_up h8 (fun c hc => (hA c hc).1) ha hp h7 q1
        exact ih p hp _ (by omega) (fun z => h1 (by rw [e]; exact z)) (fun z => by rw [← e]; exact h2 (by rw [e]; exact z))
    · rw [q4]
      have := (hm a ha).1
      have e : ihN A B mc t d a (a + 1) = nI (8 * a + k) := by
        unfold ihN
        rw [if_pos (sAn_self A a), q3, if_neg (fun z => m1_nI (by omega) z.symm)]
      rw [e] at h2
      refine xG.go [3, 32, 43] 60 ?_
      show (((nI k) < 0 → (vp_in (nI a) 8 ∧ xG tb_M_find Q (32, [some (.ref 24), some (.int c), some (.long t), none, some (.long d), none, some (.int ((A 27) (nI a).toNatClampNeg)), some (.int (nI k))], [], (HX I A B), 0))) ∧ (¬ (nI k) < 0 → Q (.inl (some (.int (((8 : Int32) * (nI a)) + (nI k))))) (HX (va_up I 9 (0 : Int32)) A B) 0))
      rw [nI_num]
      exact br_n (nI_pos (by omega)) (h2 (fun z => m1_nI (by omega) z.symm))
theorem p_M_find {I : Nat → Int32} {A : Nat → Nat → Int32} {B : Nat → Nat → Int64} {Q : xQ} {n : Nat} {c : Int32} {mc : Nat → Nat} {t d : Int64} (h8 : n ≤ 8) (e0 : I 10 = nI n) (hm : ∀ c, c < n → mc c ≤ 6 ∧ A 6 c = nI (mc c) ∧ A 29 c = nI (mc c)) (hA : ∀ c, c < n → vAnc A c ∧ A 27 c = A 4 c) (hB : ∀ c k, c < n → k < mc c → B 30 (8 * c + k) = B 8 (8 * c + k) ∧ B 32 (8 * c + k) = B 10 (8 * c + k)) (hu : ∀ c k l, c < n → k < mc c → l < mc c → B 8 (8 * c + k) = B 8 (8 * c + l) → B 10 (8 * c + k) = B 10 (8 * c + l) → k = l)
    (h1 : isC (nI n) c = false → Q (.inl (some (.int 0))) (HX (va_up I 9 1) A B) 0) (h2 : ∀ i, i < n → c = nI i → ihN A B mc t d i (i + 1) = -1 → Q (.inl (some (.int 0))) (HX (va_up I 9 2) A B) 0) (h3 : ∀ i, i < n → c = nI i → ¬ ihN A B mc t d i (i + 1) = -1 → Q (.inl (some (.int (ihN A B mc t d i (i + 1))))) (HX (va_up (va_up I 9 2) 9 0) A B) 0) : xRun tb_M_find 8 [.ref 24, .int c, .long t, .long d] (HX I A B) Q := by
  refine ⟨Nat.le_of_ble_eq_true rfl, ?_⟩
  refine xG.go [3, 32, 43] 60 ?_
  show xG tb_M_find Q (3, [some (.ref 24), some (.int c), some (.long t), none, some (.long d), none, none, none], [.int c, .ref 24, .ref 24], (HX I A B), 0)
  refine xG.callV (F := xRun tb_M_isClass 2) (a := 24) rfl rfl rfl rfl (p_M_isClass ?_)
  refine xG.go [3, 32, 43] 60 ?_
  show (((bI (isC (I 10) c)) = 0 → (((1 : Int32) = (2 : Int32) → xG tb_M_find Q (32, [some (.ref 24), some (.int c), some (.long t), none, some (.long d), none, some (.int c), none], [], (HX (va_up I 9 (1 : Int32)) A B), 0)) ∧ (¬ (1 : Int32) = (2 : Int32) → xG tb_M_find Q (32, [some (.ref 24), some (.int c), some (.long t), none, some (.long d), none, some (.int (-1 : Int32)), none], [], (HX (va_up I 9 (1 : Int32)) A B), 0)))) ∧ (¬ (bI (isC (I 10) c)) = 0 → (((2 : Int32) = (2 : Int32) → xG tb_M_find Q (32, [some (.ref 24), some (.int c), some (.long t), none, some (.long d), none, some (.int c), none], [], (HX (va_up I 9 (2 : Int32)) A B), 0)) ∧ (¬ (2 : Int32) = (2 : Int32) → xG tb_M_find Q (32, [some (.ref 24), some (.int c), some (.long t), none, some (.long d), none, some (.int (-1 : Int32)), none], [], (HX (va_up I 9 (2 : Int32)) A B), 0)))))
  rw [e0]
  cases h : isC (nI n) c with
  | false => exact br_y rfl (br_n (by decide) (p_M_find_e (h1 h)))
  | true =>
    obtain ⟨i, hi, rfl⟩ := isC_ix (by omega) h
    exact br_n (by decide) (br_y rfl (p_M_find_l (I := va_up I 9 2) h8 hm hA hB hu i none hi (h2 i hi rfl) (h3 i hi rfl)))
theorem j_find : J_find vInv := by
  intro I A B c t d hV
  have hV' := hV
  obtain ⟨n, mc, sz, ⟨h8, e0, e10⟩, h2, h3, h4, h5, -⟩ := hV'
  have hS : ∀ c, c < n → mc c ≤ 6 ∧ A 6 c = nI (mc c) := fun c hc => ⟨(h2 c hc).2.2.2.1, (h2 c hc).2.2.2.2.1⟩
  have hR : ∀ c, c < n → mc c ≤ 6 ∧ A 6 c = nI (mc c) ∧ A 29 c = nI (mc c) := fun c hc => ⟨(h2 c hc).2.2.2.1, (h2 c hc).2.2.2.2.1, (h2 c hc).2.2.2.2.2⟩
  have hA : ∀ c, c < n → vAnc A c ∧ A 27 c = A 4 c := fun c hc => ⟨(h5.2.1 c hc).2.2, (h2 c hc).1.2.2.1⟩
  have hB : ∀ c k, c < n → k < mc c → B 30 (8 * c + k) = B 8 (8 * c + k) ∧ B 32 (8 * c + k) = B 10 (8 * c + k) := fun c k hc hk => ⟨(h3 c k hc hk).1.1, (h3 c k hc hk).1.2.2.1⟩
  have inj : ∀ i j, i < n → j < n → nI i = nI j → i = j := fun i j hi hj w => (nI_eq (by omega) (by omega)).mp w
  cases h : isC (nI n) c with
  | false =>
    have no : ∀ i, i < n → c = nI i → False := fun i hi w => by
      rw [w] at h
      unfold isC at h
      rw [if_neg (nI_pos (by omega)), if_neg (nI_ge hi (by omega))] at h
      cases h
    exact ⟨1, I, A, B, 1, 0, va_up I 9 1, A, B, fun Q hq => p_L_find h8 e0 hS (fun _ => hq) (fun i hi w => (no i hi w).elim) (fun i hi w => (no i hi w).elim), Nat.le_refl 1, fun Q hq => p_M_find h8 e10 hR hA hB h5.1 (fun _ => hq) (fun i hi w => (no i hi w).elim) (fun i hi w => (no i hi w).elim), rfl, fun z => absurd z (by decide), hV⟩
  | true =>
    obtain ⟨i, hi, rfl⟩ := isC_ix (by omega) h
    by_cases w : ihN A B mc t d i (i + 1) = -1
    · exact ⟨2, I, A, B, 1, 0, va_up I 9 2, A, B, fun Q hq => p_L_find h8 e0 hS (fun z => by rw [e0, h] at z; cases z) (fun j hj z _ => hq) (fun j hj z q => by obtain rfl := inj i j hi hj z; exact absurd w q), Nat.le_refl 1, fun Q hq => p_M_find h8 e10 hR hA hB h5.1 (fun z => by rw [h] at z; cases z) (fun j hj z _ => hq) (fun j hj z q => by obtain rfl := inj i j hi hj z; exact absurd w q), rfl, fun z => absurd z (by decide), hV⟩
    · refine ⟨0, I, A, (va_up B 41 (vp_updL (B 41) 0 (ihN A B mc t d i (i + 1)).toInt64)), 0, ihN A B mc t d i (i + 1), va_up (va_up I 9 2) 9 0, A, (va_up B 41 (vp_updL (B 41) 0 (ihN A B mc t d i (i + 1)).toInt64)), fun Q hq => p_L_find h8 e0 hS (fun z => by rw [e0, h] at z; cases z) (fun j hj z q => by obtain rfl := inj i j hi hj z; exact absurd q w) (fun j hj z q => by obtain rfl := inj i j hi hj z; exact hq), Nat.zero_le 1, fun Q hq => p_M_find (n := n) (mc := mc) h8 e10 hR hA hB h5.1 (fun z => by rw [h] at z; cases z) (fun j hj z q => by obtain rfl := inj i j hi hj z; exact absurd (ihN_41.symm.trans q) w) (fun j hj z q => by obtain rfl := inj i j hi hj z; rw [ihN_41]; exact hq), rfl, fun _ => ?_, hV⟩
      show vp_updL (B 41) 0 (ihN A B mc t d i (i + 1)).toInt64 0 = _
      exact pk_uLs
theorem case_11 {L : Nat} {xs : Nat → Int32} : xCase vInv L xs 1007 := lcase_11 j_find
