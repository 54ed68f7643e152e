-- the problems, the class's side
def tol (k x y : Nat) : Int32 := nI (10000 * k + 100 * x + y)
theorem nI_mul (a b : Nat) : nI a * nI b = nI (a * b) := (Int32.ofNat_mul a b).symm
theorem nI_add' (a b : Nat) : nI a + nI b = nI (a + b) := (Int32.ofNat_add a b).symm
theorem tol_eq (k x y : Nat) : ((10000 : Int32) * nI k + 100 * nI x) + nI y = tol k x y := by
  have e1 : (10000 : Int32) = nI 10000 := rfl
  have e2 : (100 : Int32) = nI 100 := rfl
  rw [e1, e2, nI_mul, nI_mul, nI_add', nI_add']
  rfl
theorem tol_ne {k x y : Nat} (hk : 1 ≤ k) (hk' : k ≤ 5) (hx : x < 64) (hy : y < 64) : ¬ tol k x y = 0 := fun z => by
  have := (nI_eq (a := 10000 * k + 100 * x + y) (b := 0) (by omega) (by omega)).mp z
  omega
theorem p_P_told {h : xH} {Q : xQ} {k x y : Nat} (hq : Q (.inl (some (.int (tol k x y)))) h 0) : xRun tb_P_told 3 [.int (nI k), .int (nI x), .int (nI y)] h Q := by
  refine ⟨Nat.le_of_ble_eq_true rfl, ?_⟩
  refine xG.go [] 60 ?_
  show Q (.inl (some (.int ((((10000 : Int32) * (nI k)) + ((100 : Int32) * (nI x))) + (nI y))))) h 0
  rw [tol_eq]
  exact hq
/-- the first answer that is not 0 of g i, g (i + 1), .. -/
def sc (g : Nat → Int32) : Nat → Nat → Int32
  | 0, _ => 0
  | k + 1, i => if g i = 0 then sc g k (i + 1) else g i
theorem sc_0 {g : Nat → Int32} : ∀ (k i : Nat), (∀ j, i ≤ j → j < i + k → g j = 0) → sc g k i = 0
  | 0, i, h => rfl
  | k + 1, i, h => by
    unfold sc
    rw [if_pos (h i (by omega) (by omega))]
    exact sc_0 k (i + 1) (fun j h1 h2 => h j (by omega) (by omega))
theorem sc_more {g : Nat → Int32} {l : Nat} : ∀ (k i : Nat), (∀ j, i + k ≤ j → j < i + k + l → g j = 0) → sc g (k + l) i = sc g k i
  | 0, i, h => by
    rw [Nat.zero_add]
    exact sc_0 l i (fun j h1 h2 => h j (by omega) (by omega))
  | k + 1, i, h => by
    rw [show k + 1 + l = (k + l) + 1 by omega]
    unfold sc
    rw [sc_more k (i + 1) (fun j h1 h2 => h j (by omega) (by omega))]
theorem sc_none {g : Nat → Int32} : ∀ (k i : Nat), sc g k i = 0 → ∀ j, i ≤ j → j < i + k → g j = 0
  | 0, i, h, j, h1, h2 => by omega
  | k + 1, i, h, j, h1, h2 => by
    unfold sc at h
    by_cases w : g i = 0
    · rw [if_pos w] at h
      by_cases e : j = i
      · rw [e]; exact w
      · exact sc_none k (i + 1) h j (by omega) (by omega)
    · rw [if_neg w] at h
      exact absurd h w
def g1 (A : Nat → Nat → Int32) (B : Nat → Nat → Int64) (c : Nat) : Int32 := if ¬ A 5 c = 0 ∧ ¬ B 3 c = B 2 c then tol 1 c 0 else 0
def g2 (A : Nat → Nat → Int32) (B : Nat → Nat → Int64) (mc : Nat → Nat) (n m : Nat) : Int32 := if numB mc n m = true ∧ ¬ A 5 (m / 8) = 0 ∧ ¬ B 9 m = B 8 m then tol 2 m 0 else 0
def g3y (B : Nat → Nat → Int64) (x y : Nat) : Int32 := if B 3 x = B 3 y then tol 3 x y else 0
def g3 (B : Nat → Nat → Int64) (n x : Nat) : Int32 := sc (g3y B x) (n - (x + 1)) (x + 1)
def g4y (B : Nat → Nat → Int64) (x y : Nat) : Int32 := if decide (pkg (B 2 x) = pkg (B 2 y)) = decide (pkg (B 3 x) = pkg (B 3 y)) then 0 else tol 4 x y
def g4 (B : Nat → Nat → Int64) (n x : Nat) : Int32 := sc (g4y B x) (n - (x + 1)) (x + 1)
abbrev bec (A : Nat → Nat → Int32) (B : Nat → Nat → Int64) (x y : Nat) : Prop := sAn A (x / 8) (y / 8) = true ∧ B 10 x = B 10 y ∧ B 9 x = B 9 y ∧ ¬ B 8 x = B 8 y
def g5y (A : Nat → Nat → Int32) (B : Nat → Nat → Int64) (mc : Nat → Nat) (n x y : Nat) : Int32 := if numB mc n y = true ∧ bec A B x y then tol 5 x y else 0
def g5 (A : Nat → Nat → Int32) (B : Nat → Nat → Int64) (mc : Nat → Nat) (n x : Nat) : Int32 := if numB mc n x = true then sc (g5y A B mc n x) (8 * n - (x + 1)) (x + 1) else 0
theorem p_P_libraryClass_l {I : Nat → Int32} {A : Nat → Nat → Int32} {B : Nat → Nat → Int64} {Q : xQ} {n : Nat} (h8 : n ≤ 8) (e0 : I 0 = nI n) : ∀ (k c : Nat), c + k = n → Q (.inl (some (.int (sc (g1 A B) k c)))) (HX I A B) 0 → xG tb_P_libraryClass Q (2, [some (.ref 1), some (.int (nI c))], [], (HX I A B), 0)
  | 0, c, e, hq => by
    refine xG.go [2, 38] 60 ?_
    show (((I 0) ≤ (nI c) → Q (.inl (some (.int (0 : Int32)))) (HX I A B) 0) ∧ (¬ (I 0) ≤ (nI c) → (vp_in (nI c) 8 ∧ ((((A 5) (nI c).toNatClampNeg) = 0 → xG tb_P_libraryClass Q (2, [some (.ref 1), some (.int ((nI c) + (1 : Int32)))], [], (HX I A B), 0)) ∧ (¬ ((A 5) (nI c).toNatClampNeg) = 0 → (vp_in (nI c) 8 ∧ (vp_in (nI c) 8 ∧ (((lg_cmp ((B 3) (nI c).toNatClampNeg) ((B 2) (nI c).toNatClampNeg)) = 0 → xG tb_P_libraryClass Q (2, [some (.ref 1), some (.int ((nI c) + (1 : Int32)))], [], (HX I A B), 0)) ∧ (¬ (lg_cmp ((B 3) (nI c).toNatClampNeg) ((B 2) (nI c).toNatClampNeg)) = 0 → xG tb_P_libraryClass Q (38, [some (.ref 1), some (.int (nI c))], [.int (0 : Int32), .int (nI c), .int (1 : Int32)], (HX I A B), 0))))))))))
    rw [e0]
    exact br_y (nI_le (by omega) (by omega)) hq
  | k + 1, c, e, hq => by
    refine xG.go [2, 38] 60 ?_
    show (((I 0) ≤ (nI c) → Q (.inl (some (.int (0 : Int32)))) (HX I A B) 0) ∧ (¬ (I 0) ≤ (nI c) → (vp_in (nI c) 8 ∧ ((((A 5) (nI c).toNatClampNeg) = 0 → xG tb_P_libraryClass Q (2, [some (.ref 1), some (.int ((nI c) + (1 : Int32)))], [], (HX I A B), 0)) ∧ (¬ ((A 5) (nI c).toNatClampNeg) = 0 → (vp_in (nI c) 8 ∧ (vp_in (nI c) 8 ∧ (((lg_cmp ((B 3) (nI c).toNatClampNeg) ((B 2) (nI c).toNatClampNeg)) = 0 → xG tb_P_libraryClass Q (2, [some (.ref 1), some (.int ((nI c) + (1 : Int32)))], [], (HX I A B), 0)) ∧ (¬ (lg_cmp ((B 3) (nI c).toNatClampNeg) ((B 2) (nI c).toNatClampNeg)) = 0 → xG tb_P_libraryClass Q (38, [some (.ref 1), some (.int (nI c))], [.int (0 : Int32), .int (nI c), .int (1 : Int32)], (HX I A B), 0))))))))))
    rw [e0, nI_clamp (by omega), nI_1]
    have hin : vp_in (nI c) 8 := vp_in_nI (by omega) (by omega)
    unfold sc at hq
    refine br_n (nI_ge (by omega) (by omega)) ⟨hin, fun z => ?_, fun z => ⟨hin, hin, fun w => ?_, fun w => ?_⟩⟩
    · rw [show g1 A B c = 0 from if_neg (fun q => q.1 z), if_pos rfl] at hq
      exact p_P_libraryClass_l h8 e0 k (c + 1) (by omega) hq
    · rw [show g1 A B c = 0 from if_neg (fun q => q.2 ((lg_cmp_eq _ _).mp w)), if_pos rfl] at hq
      exact p_P_libraryClass_l h8 e0 k (c + 1) (by omega) hq
    · rw [show g1 A B c = tol 1 c 0 from if_pos ⟨z, fun q => w ((lg_cmp_eq _ _).mpr q)⟩, if_neg (tol_ne (by omega) (by omega) (by omega) (by omega))] at hq
      refine xG.call (F := xRun tb_P_told 3) rfl rfl (p_P_told (k := 1) (x := c) (y := 0) ?_)
      refine xG.go [2, 38] 60 ?_
      show Q (.inl (some (.int (tol 1 c 0)))) (HX I A B) 0
      exact hq
theorem p_P_libraryClass {I : Nat → Int32} {A : Nat → Nat → Int32} {B : Nat → Nat → Int64} {Q : xQ} {n : Nat} (h8 : n ≤ 8) (e0 : I 0 = nI n) (hq : Q (.inl (some (.int (sc (g1 A B) n 0)))) (HX I A B) 0) : xRun tb_P_libraryClass 2 [.ref 1] (HX I A B) Q := by
  refine ⟨Nat.le_of_ble_eq_true rfl, ?_⟩
  refine xG.go [2, 38] 20 ?_
  show xG tb_P_libraryClass Q (2, [some (.ref 1), some (.int (nI 0))], [], (HX I A B), 0)
  exact p_P_libraryClass_l h8 e0 n 0 (Nat.zero_add n) hq
theorem p_P_libraryMember_l {I : Nat → Int32} {A : Nat → Nat → Int32} {B : Nat → Nat → Int64} {Q : xQ} {n : Nat} {mc : Nat → Nat} (h8 : n ≤ 8) (e0 : I 0 = nI n) (hm : ∀ c, c < n → mc c ≤ 6 ∧ A 6 c = nI (mc c)) : ∀ (k m : Nat), m + k = 8 * n → Q (.inl (some (.int (sc (g2 A B mc n) k m)))) (HX I A B) 0 → xG tb_P_libraryMember Q (2, [some (.ref 1), some (.int (nI m))], [], (HX I A B), 0)
  | 0, m, e, hq => by
    refine xG.go [2, 4, 12, 23, 49] 60 ?_
    show xG tb_P_libraryMember Q (4, [some (.ref 1), some (.int (nI m))], [.ref 1, .int (nI m)], (HX I A B), 0)
    refine xG.callV (F := xRun tb_S_numbersEnd 1) (a := 1) rfl rfl rfl rfl (p_S_numbersEnd e0 ?_)
    refine xG.go [2, 4, 12, 23, 49] 60 ?_
    show (((nI (8 * n)) ≤ (nI m) → Q (.inl (some (.int (0 : Int32)))) (HX I A B) 0) ∧ (¬ (nI (8 * n)) ≤ (nI m) → xG tb_P_libraryMember Q (12, [some (.ref 1), some (.int (nI m))], [.int (nI m), .ref 1], (HX I A B), 0)))
    exact br_y (nI_le (by omega) (by omega)) hq
  | k + 1, m, e, hq => by
    refine xG.go [2, 4, 12, 23, 49] 60 ?_
    show xG tb_P_libraryMember Q (4, [some (.ref 1), some (.int (nI m))], [.ref 1, .int (nI m)], (HX I A B), 0)
    refine xG.callV (F := xRun tb_S_numbersEnd 1) (a := 1) rfl rfl rfl rfl (p_S_numbersEnd e0 ?_)
    refine xG.go [2, 4, 12, 23, 49] 60 ?_
    show (((nI (8 * n)) ≤ (nI m) → Q (.inl (some (.int (0 : Int32)))) (HX I A B) 0) ∧ (¬ (nI (8 * n)) ≤ (nI m) → xG tb_P_libraryMember Q (12, [some (.ref 1), some (.int (nI m))], [.int (nI m), .ref 1], (HX I A B), 0)))
    refine br_n (nI_ge (by omega) (by omega)) ?_
    refine xG.callV (F := xRun tb_S_isMemberNumber 2) (a := 1) rfl rfl rfl rfl (p_S_isMemberNumber h8 e0 hm (by omega) ?_)
    refine xG.go [2, 4, 12, 23, 49] 60 ?_
    show (((bI (numB mc n m)) = 0 → xG tb_P_libraryMember Q (2, [some (.ref 1), some (.int ((nI m) + (1 : Int32)))], [], (HX I A B), 0)) ∧ (¬ (bI (numB mc n m)) = 0 → xG tb_P_libraryMember Q (23, [some (.ref 1), some (.int (nI m))], [.int (nI m), .ref 5], (HX I A B), 0)))
    rw [nI_1]
    have hin : vp_in (nI m) 64 := vp_in_nI (by omega) (by omega)
    unfold sc at hq
    cases hn : numB mc n m with
    | false =>
      rw [show g2 A B mc n m = 0 from if_neg (fun q => by rw [hn] at q; cases q.1), if_pos rfl] at hq
      exact br_y rfl (p_P_libraryMember_l h8 e0 hm k (m + 1) (by omega) hq)
    | true =>
      refine br_n (by decide) ?_
      refine xG.call (F := xRun tb_S_classOf 1) rfl rfl (p_S_classOf (by omega) ?_)
      refine xG.go [2, 4, 12, 23, 49] 60 ?_
      show (vp_in (nI (m / 8)) 8 ∧ ((((A 5) (nI (m / 8)).toNatClampNeg) = 0 → xG tb_P_libraryMember Q (2, [some (.ref 1), some (.int ((nI m) + (1 : Int32)))], [], (HX I A B), 0)) ∧ (¬ ((A 5) (nI (m / 8)).toNatClampNeg) = 0 → (vp_in (nI m) 64 ∧ (vp_in (nI m) 64 ∧ (((lg_cmp ((B 9) (nI m).toNatClampNeg) ((B 8) (nI m).toNatClampNeg)) = 0 → xG tb_P_libraryMember Q (2, [some (.ref 1), some (.int ((nI m) + (1 : Int32)))], [], (HX I A B), 0)) ∧ (¬ (lg_cmp ((B 9) (nI m).toNatClampNeg) ((B 8) (nI m).toNatClampNeg)) = 0 → xG tb_P_libraryMember Q (49, [some (.ref 1), some (.int (nI m))], [.int (0 : Int32), .int (nI m), .int (2 : Int32)], (HX I A B), 0))))))))
      rw [nI_clamp (by omega), nI_clamp (by omega), nI_1]
      refine ⟨vp_in_nI (by omega) (by omega), fun z => ?_, fun z => ⟨hin, hin, fun w => ?_, fun w => ?_⟩⟩
      · rw [show g2 A B mc n m = 0 from if_neg (fun q => q.2.1 z), if_pos rfl] at hq
        exact p_P_libraryMember_l h8 e0 hm k (m + 1) (by omega) hq
      · rw [show g2 A B mc n m = 0 from if_neg (fun q => q.2.2 ((lg_cmp_eq _ _).mp w)), if_pos rfl] at hq
        exact p_P_libraryMember_l h8 e0 hm k (m + 1) (by omega) hq
      · rw [show g2 A B mc n m = tol 2 m 0 from if_pos ⟨hn, z, fun q => w ((lg_cmp_eq _ _).mpr q)⟩, if_neg (tol_ne (by omega) (by omega) (by omega) (by omega))] at hq
        refine xG.call (F := xRun tb_P_told 3) rfl rfl (p_P_told (k := 2) (x := m) (y := 0) ?_)
        refine xG.go [2, 4, 12, 23, 49] 60 ?_
        show Q (.inl (some (.int (tol 2 m 0)))) (HX I A B) 0
        exact hq
theorem p_P_libraryMember {I : Nat → Int32} {A : Nat → Nat → Int32} {B : Nat → Nat → Int64} {Q : xQ} {n : Nat} {mc : Nat → Nat} (h8 : n ≤ 8) (e0 : I 0 = nI n) (hm : ∀ c, c < n → mc c ≤ 6 ∧ A 6 c = nI (mc c)) (hq : Q (.inl (some (.int (sc (g2 A B mc n) (8 * n) 0)))) (HX I A B) 0) : xRun tb_P_libraryMember 2 [.ref 1] (HX I A B) Q := by
  refine ⟨Nat.le_of_ble_eq_true rfl, ?_⟩
  refine xG.go [2, 4, 12, 23, 49] 20 ?_
  show xG tb_P_libraryMember Q (2, [some (.ref 1), some (.int (nI 0))], [], (HX I A B), 0)
  exact p_P_libraryMember_l h8 e0 hm (8 * n) 0 (Nat.zero_add _) hq
theorem p_P_sameClassName_y {I : Nat → Int32} {A : Nat → Nat → Int32} {B : Nat → Nat → Int64} {Q : xQ} {n x : Nat} (h8 : n ≤ 8) (e0 : I 0 = nI n) (hx : x < n) : ∀ (k y : Nat), y + k = n → (¬ sc (g3y B x) k y = 0 → Q (.inl (some (.int (sc (g3y B x) k y)))) (HX I A B) 0) → (sc (g3y B x) k y = 0 → ∀ w, xG tb_P_sameClassName Q (2, [some (.ref 1), some (.int (nI (x + 1))), w], [], (HX I A B), 0)) → xG tb_P_sameClassName Q (14, [some (.ref 1), some (.int (nI x)), some (.int (nI y))], [], (HX I A B), 0)
  | 0, y, e, h1, h2 => by
    refine xG.go [2, 14, 41] 60 ?_
    show (((I 0) ≤ (nI y) → xG tb_P_sameClassName Q (2, [some (.ref 1), some (.int ((nI x) + (1 : Int32))), some (.int (nI y))], [], (HX I A B), 0)) ∧ (¬ (I 0) ≤ (nI y) → (vp_in (nI x) 8 ∧ (vp_in (nI y) 8 ∧ (((lg_cmp ((B 3) (nI x).toNatClampNeg) ((B 3) (nI y).toNatClampNeg)) = 0 → xG tb_P_sameClassName Q (41, [some (.ref 1), some (.int (nI x)), some (.int (nI y))], [.int (nI y), .int (nI x), .int (3 : Int32)], (HX I A B), 0)) ∧ (¬ (lg_cmp ((B 3) (nI x).toNatClampNeg) ((B 3) (nI y).toNatClampNeg)) = 0 → xG tb_P_sameClassName Q (14, [some (.ref 1), some (.int (nI x)), some (.int ((nI y) + (1 : Int32)))], [], (HX I A B), 0)))))))
    rw [e0, nI_1]
    exact br_y (nI_le (by omega) (by omega)) (h2 rfl _)
  | k + 1, y, e, h1, h2 => by
    refine xG.go [2, 14, 41] 60 ?_
    show (((I 0) ≤ (nI y) → xG tb_P_sameClassName Q (2, [some (.ref 1), some (.int ((nI x) + (1 : Int32))), some (.int (nI y))], [], (HX I A B), 0)) ∧ (¬ (I 0) ≤ (nI y) → (vp_in (nI x) 8 ∧ (vp_in (nI y) 8 ∧ (((lg_cmp ((B 3) (nI x).toNatClampNeg) ((B 3) (nI y).toNatClampNeg)) = 0 → xG tb_P_sameClassName Q (41, [some (.ref 1), some (.int (nI x)), some (.int (nI y))], [.int (nI y), .int (nI x), .int (3 : Int32)], (HX I A B), 0)) ∧ (¬ (lg_cmp ((B 3) (nI x).toNatClampNeg) ((B 3) (nI y).toNatClampNeg)) = 0 → xG tb_P_sameClassName Q (14, [some (.ref 1), some (.int (nI x)), some (.int ((nI y) + (1 : Int32)))], [], (HX I A B), 0)))))))
    rw [e0, nI_clamp (by omega), nI_clamp (by omega), nI_1, nI_1]
    unfold sc at h1 h2
    refine br_n (nI_ge (by omega) (by omega)) ⟨vp_in_nI (by omega) (by omega), vp_in_nI (by omega) (by omega), fun z => ?_, fun z => ?_⟩
    · rw [show g3y B x y = tol 3 x y from if_pos ((lg_cmp_eq _ _).mp z), if_neg (tol_ne (by omega) (by omega) (by omega) (by omega))] at h1
      refine xG.call (F := xRun tb_P_told 3) rfl rfl (p_P_told (k := 3) (x := x) (y := y) ?_)
      refine xG.go [2, 14, 41] 60 ?_
      show Q (.inl (some (.int (tol 3 x y)))) (HX I A B) 0
      exact h1 (tol_ne (by omega) (by omega) (by omega) (by omega))
    · rw [show g3y B x y = 0 from if_neg (fun q => z ((lg_cmp_eq _ _).mpr q)), if_pos rfl] at h1 h2
      exact p_P_sameClassName_y h8 e0 hx k (y + 1) (by omega) h1 h2
theorem p_P_sameClassName_l {I : Nat → Int32} {A : Nat → Nat → Int32} {B : Nat → Nat → Int64} {Q : xQ} {n : Nat} (h8 : n ≤ 8) (e0 : I 0 = nI n) : ∀ (k x : Nat) (w : Option Value), x + k = n → Q (.inl (some (.int (sc (g3 B n) k x)))) (HX I A B) 0 → xG tb_P_sameClassName Q (2, [some (.ref 1), some (.int (nI x)), w], [], (HX I A B), 0)
  | 0, x, w, e, hq => by
    refine xG.go [2, 14, 41] 60 ?_
    show (((I 0) ≤ (nI x) → Q (.inl (some (.int (0 : Int32)))) (HX I A B) 0) ∧ (¬ (I 0) ≤ (nI x) → xG tb_P_sameClassName Q (14, [some (.ref 1), some (.int (nI x)), some (.int ((nI x) + (1 : Int32)))], [], (HX I A B), 0)))
    rw [e0]
    exact br_y (nI_le (by omega) (by omega)) hq
  | k + 1, x, w, e, hq => by
    refine xG.go [2, 14, 41] 60 ?_
    show (((I 0) ≤ (nI x) → Q (.inl (some (.int (0 : Int32)))) (HX I A B) 0) ∧ (¬ (I 0) ≤ (nI x) → xG tb_P_sameClassName Q (14, [some (.ref 1), some (.int (nI x)), some (.int ((nI x) + (1 : Int32)))], [], (HX I A B), 0)))
    rw [e0, nI_1]
    unfold sc at hq
    refine br_n (nI_ge (by omega) (by omega)) (p_P_sameClassName_y h8 e0 (by omega) (n - (x + 1)) (x + 1) (by omega) (fun z => ?_) (fun z w => ?_))
    · rw [if_neg (show ¬ g3 B n x = 0 from z)] at hq
      exact hq
    · rw [if_pos (show g3 B n x = 0 from z)] at hq
      exact p_P_sameClassName_l h8 e0 k (x + 1) w (by omega) hq
theorem p_P_sameClassName {I : Nat → Int32} {A : Nat → Nat → Int32} {B : Nat → Nat → Int64} {Q : xQ} {n : Nat} (h8 : n ≤ 8) (e0 : I 0 = nI n) (hq : Q (.inl (some (.int (sc (g3 B n) n 0)))) (HX I A B) 0) : xRun tb_P_sameClassName 3 [.ref 1] (HX I A B) Q := by
  refine ⟨Nat.le_of_ble_eq_true rfl, ?_⟩
  refine xG.go [2, 14, 41] 20 ?_
  show xG tb_P_sameClassName Q (2, [some (.ref 1), some (.int (nI 0)), none], [], (HX I A B), 0)
  exact p_P_sameClassName_l h8 e0 n 0 none (Nat.zero_add n) hq
theorem p_P_inOnePackage {h : xH} {Q : xQ} {s t : Int64} (hq : Q (.inl (some (.int (bI (decide (pkg s = pkg t)))))) h 0) : xRun tb_P_inOnePackage 4 [.long s, .long t] h Q := by
  refine ⟨Nat.le_of_ble_eq_true rfl, ?_⟩
  refine xG.go [1, 5] 60 ?_
  show xG tb_P_inOnePackage Q (1, [some (.long s), none, some (.long t), none], [.long s], h, 0)
  refine xG.call (F := xRun tb_T_packageOf 3) rfl rfl (p_T_packageOf ?_)
  refine xG.go [1, 5] 60 ?_
  show xG tb_P_inOnePackage Q (5, [some (.long s), none, some (.long t), none], [.long t, .long (pkg s)], h, 0)
  refine xG.call (F := xRun tb_T_packageOf 3) rfl rfl (p_T_packageOf ?_)
  refine xG.go [1, 5] 60 ?_
  show (((lg_cmp (pkg s) (pkg t)) = 0 → (((1 : Int32) = (0 : Int32) ∨ (1 : Int32) = 1) ∧ Q (.inl (some (.int (1 : Int32)))) h 0)) ∧ (¬ (lg_cmp (pkg s) (pkg t)) = 0 → (((0 : Int32) = (0 : Int32) ∨ (0 : Int32) = 1) ∧ Q (.inl (some (.int (0 : Int32)))) h 0)))
  refine ⟨fun z => ?_, fun z => ?_⟩
  · rw [decide_eq_true ((lg_cmp_eq _ _).mp z)] at hq
    exact ⟨Or.inr rfl, hq⟩
  · rw [decide_eq_false (fun q => z ((lg_cmp_eq _ _).mpr q))] at hq
    exact ⟨Or.inl rfl, hq⟩
theorem bI_inj {a b : Bool} : bI a = bI b ↔ a = b := by
  cases a <;> cases b <;> decide
theorem p_P_otherPackages_y {I : Nat → Int32} {A : Nat → Nat → Int32} {B : Nat → Nat → Int64} {Q : xQ} {n x : Nat} (h8 : n ≤ 8) (e0 : I 0 = nI n) (hx : x < n) : ∀ (k y : Nat), y + k = n → (¬ sc (g4y B x) k y = 0 → Q (.inl (some (.int (sc (g4y B x) k y)))) (HX I A B) 0) → (sc (g4y B x) k y = 0 → ∀ w, xG tb_P_otherPackages Q (2, [some (.ref 1), some (.int (nI (x + 1))), w], [], (HX I A B), 0)) → xG tb_P_otherPackages Q (14, [some (.ref 1), some (.int (nI x)), some (.int (nI y))], [], (HX I A B), 0)
  | 0, y, e, h1, h2 => by
    refine xG.go [2, 14, 34, 49, 58] 60 ?_
    show (((I 0) ≤ (nI y) → xG tb_P_otherPackages Q (2, [some (.ref 1), some (.int ((nI x) + (1 : Int32))), some (.int (nI y))], [], (HX I A B), 0)) ∧ (¬ (I 0) ≤ (nI y) → (vp_in (nI x) 8 ∧ (vp_in (nI y) 8 ∧ xG tb_P_otherPackages Q (34, [some (.ref 1), some (.int (nI x)), some (.int (nI y))], [.long ((B 2) (nI y).toNatClampNeg), .long ((B 2) (nI x).toNatClampNeg)], (HX I A B), 0)))))
    rw [e0, nI_1]
    exact br_y (nI_le (by omega) (by omega)) (h2 rfl _)
  | k + 1, y, e, h1, h2 => by
    refine xG.go [2, 14, 34, 49, 58] 60 ?_
    show (((I 0) ≤ (nI y) → xG tb_P_otherPackages Q (2, [some (.ref 1), some (.int ((nI x) + (1 : Int32))), some (.int (nI y))], [], (HX I A B), 0)) ∧ (¬ (I 0) ≤ (nI y) → (vp_in (nI x) 8 ∧ (vp_in (nI y) 8 ∧ xG tb_P_otherPackages Q (34, [some (.ref 1), some (.int (nI x)), some (.int (nI y))], [.long ((B 2) (nI y).toNatClampNeg), .long ((B 2) (nI x).toNatClampNeg)], (HX I A B), 0)))))
    rw [e0, nI_clamp (by omega), nI_clamp (by omega)]
    unfold sc at h1 h2
    refine br_n (nI_ge (by omega) (by omega)) ⟨vp_in_nI (by omega) (by omega), vp_in_nI (by omega) (by omega), ?_⟩
    refine xG.call (F := xRun tb_P_inOnePackage 4) rfl rfl (p_P_inOnePackage ?_)
    refine xG.go [2, 14, 34, 49, 58] 60 ?_
    show (vp_in (nI x) 8 ∧ (vp_in (nI y) 8 ∧ xG tb_P_otherPackages Q (49, [some (.ref 1), some (.int (nI x)), some (.int (nI y))], [.long ((B 3) (nI y).toNatClampNeg), .long ((B 3) (nI x).toNatClampNeg), .int (bI (decide (pkg (B 2 x) = pkg (B 2 y))))], (HX I A B), 0)))
    rw [nI_clamp (by omega), nI_clamp (by omega)]
    refine ⟨vp_in_nI (by omega) (by omega), vp_in_nI (by omega) (by omega), ?_⟩
    refine xG.call (F := xRun tb_P_inOnePackage 4) rfl rfl (p_P_inOnePackage ?_)
    refine xG.go [2, 14, 34, 49, 58] 60 ?_
    show (((bI (decide (pkg (B 2 x) = pkg (B 2 y)))) = (bI (decide (pkg (B 3 x) = pkg (B 3 y)))) → xG tb_P_otherPackages Q (14, [some (.ref 1), some (.int (nI x)), some (.int ((nI y) + (1 : Int32)))], [], (HX I A B), 0)) ∧ (¬ (bI (decide (pkg (B 2 x) = pkg (B 2 y)))) = (bI (decide (pkg (B 3 x) = pkg (B 3 y)))) → xG tb_P_otherPackages Q (58, [some (.ref 1), some (.int (nI x)), some (.int (nI y))], [.int (nI y), .int (nI x), .int (4 : Int32)], (HX I A B), 0)))
    rw [nI_1]
    refine ⟨fun z => ?_, fun z => ?_⟩
    · rw [show g4y B x y = 0 from if_pos (bI_inj.mp z), if_pos rfl] at h1 h2
      exact p_P_otherPackages_y h8 e0 hx k (y + 1) (by omega) h1 h2
    · rw [show g4y B x y = tol 4 x y from if_neg (fun q => z (bI_inj.mpr q)), if_neg (tol_ne (by omega) (by omega) (by omega) (by omega))] at h1
      refine xG.call (F := xRun tb_P_told 3) rfl rfl (p_P_told (k := 4) (x := x) (y := y) ?_)
      refine xG.go [2, 14, 34, 49, 58] 60 ?_
      show Q (.inl (some (.int (tol 4 x y)))) (HX I A B) 0
      exact h1 (tol_ne (by omega) (by omega) (by omega) (by omega))
theorem p_P_otherPackages_l {I : Nat → Int32} {A : Nat → Nat → Int32} {B : Nat → Nat → Int64} {Q : xQ} {n : Nat} (h8 : n ≤ 8) (e0 : I 0 = nI n) : ∀ (k x : Nat) (w : Option Value), x + k = n → Q (.inl (some (.int (sc (g4 B n) k x)))) (HX I A B) 0 → xG tb_P_otherPackages Q (2, [some (.ref 1), some (.int (nI x)), w], [], (HX I A B), 0)
  | 0, x, w, e, hq => by
    refine xG.go [2, 14, 34, 49, 58] 60 ?_
    show (((I 0) ≤ (nI x) → Q (.inl (some (.int (0 : Int32)))) (HX I A B) 0) ∧ (¬ (I 0) ≤ (nI x) → xG tb_P_otherPackages Q (14, [some (.ref 1), some (.int (nI x)), some (.int ((nI x) + (1 : Int32)))], [], (HX I A B), 0)))
    rw [e0]
    exact br_y (nI_le (by omega) (by omega)) hq
  | k + 1, x, w, e, hq => by
    refine xG.go [2, 14, 34, 49, 58] 60 ?_
    show (((I 0) ≤ (nI x) → Q (.inl (some (.int (0 : Int32)))) (HX I A B) 0) ∧ (¬ (I 0) ≤ (nI x) → xG tb_P_otherPackages Q (14, [some (.ref 1), some (.int (nI x)), some (.int ((nI x) + (1 : Int32)))], [], (HX I A B), 0)))
    rw [e0, nI_1]
    unfold sc at hq
    refine br_n (nI_ge (by omega) (by omega)) (p_P_otherPackages_y h8 e0 (by omega) (n - (x + 1)) (x + 1) (by omega) (fun z => ?_) (fun z w => ?_))
    · rw [if_neg (show ¬ g4 B n x = 0 from z)] at hq
      exact hq
    · rw [if_pos (show g4 B n x = 0 from z)] at hq
      exact p_P_otherPackages_l h8 e0 k (x + 1) w (by omega) hq
theorem p_P_otherPackages {I : Nat → Int32} {A : Nat → Nat → Int32} {B : Nat → Nat → Int64} {Q : xQ} {n : Nat} (h8 : n ≤ 8) (e0 : I 0 = nI n) (hq : Q (.inl (some (.int (sc (g4 B n) n 0)))) (HX I A B) 0) : xRun tb_P_otherPackages 3 [.ref 1] (HX I A B) Q := by
  refine ⟨Nat.le_of_ble_eq_true rfl, ?_⟩
  refine xG.go [2, 14, 34, 49, 58] 20 ?_
  show xG tb_P_otherPackages Q (2, [some (.ref 1), some (.int (nI 0)), none], [], (HX I A B), 0)
  exact p_P_otherPackages_l h8 e0 n 0 none (Nat.zero_add n) hq
theorem p_P_becomeOne {I : Nat → Int32} {A : Nat → Nat → Int32} {B : Nat → Nat → Int64} {Q : xQ} {x y : Nat} (hx : x < 64) (hy : y < 64) (hq : Q (.inl (some (.int (bI (decide (bec A B x y)))))) (HX I A B) 0) : xRun tb_P_becomeOne 3 [.ref 1, .int (nI x), .int (nI y)] (HX I A B) Q := by
  refine ⟨Nat.le_of_ble_eq_true rfl, ?_⟩
  refine xG.go [2, 6, 9] 60 ?_
  show xG tb_P_becomeOne Q (2, [some (.ref 1), some (.int (nI x)), some (.int (nI y))], [.int (nI x), .ref 1], (HX I A B), 0)
  refine xG.call (F := xRun tb_S_classOf 1) rfl rfl (p_S_classOf (by omega) ?_)
  refine xG.go [2, 6, 9] 60 ?_
  show xG tb_P_becomeOne Q (6, [some (.ref 1), some (.int (nI x)), some (.int (nI y))], [.int (nI y), .int (nI (x / 8)), .ref 1], (HX I A B), 0)
  refine xG.call (F := xRun tb_S_classOf 1) rfl rfl (p_S_classOf (by omega) ?_)
  refine xG.callV (F := xRun tb_S_isSameOrAncestor 3) (a := 1) rfl rfl rfl rfl (p_S_isSameOrAncestor (by omega) (by omega) ?_)
  refine xG.go [2, 6, 9] 60 ?_
  show (((bI (sAn A (x / 8) (y / 8))) = 0 → (((0 : Int32) = (0 : Int32) ∨ (0 : Int32) = 1) ∧ Q (.inl (some (.int (0 : Int32)))) (HX I A B) 0)) ∧ (¬ (bI (sAn A (x / 8) (y / 8))) = 0 → (vp_in (nI x) 64 ∧ (vp_in (nI y) 64 ∧ (((lg_cmp ((B 10) (nI x).toNatClampNeg) ((B 10) (nI y).toNatClampNeg)) = 0 → (vp_in (nI x) 64 ∧ (vp_in (nI y) 64 ∧ (((lg_cmp ((B 9) (nI x).toNatClampNeg) ((B 9) (nI y).toNatClampNeg)) = 0 → (vp_in (nI x) 64 ∧ (vp_in (nI y) 64 ∧ (((lg_cmp ((B 8) (nI x).toNatClampNeg) ((B 8) (nI y).toNatClampNeg)) = 0 → (((0 : Int32) = (0 : Int32) ∨ (0 : Int32) = 1) ∧ Q (.inl (some (.int (0 : Int32)))) (HX I A B) 0)) ∧ (¬ (lg_cmp ((B 8) (nI x).toNatClampNeg) ((B 8) (nI y).toNatClampNeg)) = 0 → (((1 : Int32) = (0 : Int32) ∨ (1 : Int32) = 1) ∧ Q (.inl (some (.int (1 : Int32)))) (HX I A B) 0)))))) ∧ (¬ (lg_cmp ((B 9) (nI x).toNatClampNeg) ((B 9) (nI y).toNatClampNeg)) = 0 → (((0 : Int32) = (0 : Int32) ∨ (0 : Int32) = 1) ∧ Q (.inl (some (.int (0 : Int32)))) (HX I A B) 0)))))) ∧ (¬ (lg_cmp ((B 10) (nI x).toNatClampNeg) ((B 10) (nI y).toNatClampNeg)) = 0 → (((0 : Int32) = (0 : Int32) ∨ (0 : Int32) = 1) ∧ Q (.inl (some (.int (0 : Int32)))) (HX I A B) 0)))))))
  rw [nI_clamp (by omega), nI_clamp (by omega)]
  have hi : vp_in (nI x) 64 := vp_in_nI (by omega) (by omega)
  have hj : vp_in (nI y) 64 := vp_in_nI (by omega) (by omega)
  have no : ¬ bec A B x y → ((0 : Int32) = (0 : Int32) ∨ (0 : Int32) = 1) ∧ Q (.inl (some (.int 0))) (HX I A B) 0 := fun z => by
    rw [decide_eq_false z] at hq
    exact ⟨Or.inl rfl, hq⟩
  refine ⟨fun z => no (fun q => ?_), fun z => ⟨hi, hj, fun z1 => ⟨hi, hj, fun z2 => ⟨hi, hj, fun z3 => no (fun q => q.2.2.2 ((lg_cmp_eq _ _).mp z3)), fun z3 => ?_⟩, fun z2 => no (fun q => z2 ((lg_cmp_eq _ _).mpr q.2.2.1))⟩, fun z1 => no (fun q => z1 ((lg_cmp_eq _ _).mpr q.2.1))⟩⟩
  · rw [q.1] at z
    exact absurd z (by decide)
  · have : bec A B x y := ⟨by cases h : sAn A (x / 8) (y / 8) with | true => rfl | false => rw [h] at z; exact absurd rfl z, (lg_cmp_eq _ _).mp z1, (lg_cmp_eq _ _).mp z2, fun q => z3 ((lg_cmp_eq _ _).mpr q)⟩
    rw [decide_eq_true this] at hq
    exact ⟨Or.inr rfl, hq⟩
/-- the first y of them that meets x, or -1 -/
def fyN (P : Nat → Bool) : Nat → Nat → Int32
  | 0, _ => -1
  | k + 1, y => if P y = true then nI y else fyN P k (y + 1)
theorem fy_sc {P : Nat → Bool} {g : Nat → Int32} {x : Nat} (hg : ∀ y, g y = if P y = true then tol 5 x y else 0) (hx : x < 64) : ∀ (k y : Nat), y + k ≤ 64 → (fyN P k y = -1 ∧ sc g k y = 0) ∨ ∃ z, z < 64 ∧ fyN P k y = nI z ∧ sc g k y = tol 5 x z
  | 0, y, h => Or.inl ⟨rfl, rfl⟩
  | k + 1, y, h => by
    unfold fyN sc
    by_cases w : P y = true
    · rw [if_pos w, hg y, if_pos w, if_neg (tol_ne (by omega) (by omega) (by omega) (by omega))]
      exact Or.inr ⟨y, by omega, rfl, rfl⟩
    · rw [if_neg w, hg y, if_neg w, if_pos rfl]
      exact fy_sc hg hx k (y + 1) (by omega)
def p5 (A : Nat → Nat → Int32) (B : Nat → Nat → Int64) (mc : Nat → Nat) (n x y : Nat) : Bool := numB mc n y && decide (bec A B x y)
theorem g5y_p (A : Nat → Nat → Int32) (B : Nat → Nat → Int64) (mc : Nat → Nat) (n x y : Nat) : g5y A B mc n x y = if p5 A B mc n x y = true then tol 5 x y else 0 := by
  unfold g5y p5
  by_cases h : numB mc n y = true ∧ bec A B x y
  · rw [if_pos h, if_pos (by rw [h.1, decide_eq_true h.2]; rfl)]
  · rw [if_neg h, if_neg (fun q => h (by rw [Bool.and_eq_true, decide_eq_true_eq] at q; exact q))]
theorem p_P_first_l {I : Nat → Int32} {A : Nat → Nat → Int32} {B : Nat → Nat → Int64} {Q : xQ} {n x : Nat} {mc : Nat → Nat} (h8 : n ≤ 8) (e0 : I 0 = nI n) (hm : ∀ c, c < n → mc c ≤ 6 ∧ A 6 c = nI (mc c)) (hx : x < 64) : ∀ (k y : Nat), y + k = 8 * n → Q (.inl (some (.int (fyN (p5 A B mc n x) k y)))) (HX I A B) 0 → xG tb_P_firstThatBecomes Q (4, [some (.ref 1), some (.int (nI x)), some (.int (nI y))], [], (HX I A B), 0)
  | 0, y, e, hq => by
    refine xG.go [4, 6, 14, 23] 60 ?_
    show xG tb_P_firstThatBecomes Q (6, [some (.ref 1), some (.int (nI x)), some (.int (nI y))], [.ref 1, .int (nI y)], (HX I A B), 0)
    refine xG.callV (F := xRun tb_S_numbersEnd 1) (a := 1) rfl rfl rfl rfl (p_S_numbersEnd e0 ?_)
    refine xG.go [4, 6, 14, 23] 60 ?_
    show (((nI (8 * n)) ≤ (nI y) → Q (.inl (some (.int (-1 : Int32)))) (HX I A B) 0) ∧ (¬ (nI (8 * n)) ≤ (nI y) → xG tb_P_firstThatBecomes Q (14, [some (.ref 1), some (.int (nI x)), some (.int (nI y))], [.int (nI y), .ref 1], (HX I A B), 0)))
    exact br_y (nI_le (by omega) (by omega)) hq
  | k + 1, y, e, hq => by
    refine xG.go [4, 6, 14, 23] 60 ?_
    show xG tb_P_firstThatBecomes Q (6, [some (.ref 1), some (.int (nI x)), some (.int (nI y))], [.ref 1, .int (nI y)], (HX I A B), 0)
    refine xG.callV (F := xRun tb_S_numbersEnd 1) (a := 1) rfl rfl rfl rfl (p_S_numbersEnd e0 ?_)
    refine xG.go [4, 6, 14, 23] 60 ?_
    show (((nI (8 * n)) ≤ (nI y) → Q (.inl (some (.int (-1 : Int32)))) (HX I A B) 0) ∧ (¬ (nI (8 * n)) ≤ (nI y) → xG tb_P_firstThatBecomes Q (14, [some (.ref 1), some (.int (nI x)), some (.int (nI y))], [.int (nI y), .ref 1], (HX I A B), 0)))
    refine br_n (nI_ge (by omega) (by omega)) ?_
    refine xG.callV (F := xRun tb_S_isMemberNumber 2) (a := 1) rfl rfl rfl rfl (p_S_isMemberNumber h8 e0 hm (by omega) ?_)
    refine xG.go [4, 6, 14, 23] 60 ?_
    show (((bI (numB mc n y)) = 0 → xG tb_P_firstThatBecomes Q (4, [some (.ref 1), some (.int (nI x)), some (.int ((nI y) + (1 : Int32)))], [], (HX I A B), 0)) ∧ (¬ (bI (numB mc n y)) = 0 → xG tb_P_firstThatBecomes Q (23, [some (.ref 1), some (.int (nI x)), some (.int (nI y))], [.int (nI y), .int (nI x), .ref 1], (HX I A B), 0)))
    rw [nI_1]
    unfold fyN at hq
    unfold p5 at hq
    cases hn : numB mc n y with
    | false =>
      rw [hn, Bool.false_and, if_neg (by decide)] at hq
      exact br_y rfl (p_P_first_l h8 e0 hm hx k (y + 1) (by omega) hq)
    | true =>
      rw [hn, Bool.true_and] at hq
      refine br_n (by decide) ?_
      refine xG.call (F := xRun tb_P_becomeOne 3) rfl rfl (p_P_becomeOne hx (by omega) ?_)
      refine xG.go [4, 6, 14, 23] 60 ?_
      show (((bI (decide (bec A B x y))) = 0 → xG tb_P_firstThatBecomes Q (4, [some (.ref 1), some (.int (nI x)), some (.int ((nI y) + (1 : Int32)))], [], (HX I A B), 0)) ∧ (¬ (bI (decide (bec A B x y))) = 0 → Q (.inl (some (.int (nI y)))) (HX I A B) 0))
      rw [nI_1]
      cases hd : decide (bec A B x y) with
      | false =>
        rw [hd, if_neg (by decide)] at hq
        exact br_y rfl (p_P_first_l h8 e0 hm hx k (y + 1) (by omega) hq)
      | true =>
        rw [hd, if_pos rfl] at hq
        exact br_n (by decide) hq
theorem p_P_firstThatBecomes {I : Nat → Int32} {A : Nat → Nat → Int32} {B : Nat → Nat → Int64} {Q : xQ} {n x : Nat} {mc : Nat → Nat} (h8 : n ≤ 8) (e0 : I 0 = nI n) (hm : ∀ c, c < n → mc c ≤ 6 ∧ A 6 c = nI (mc c)) (hx : x < 8 * n) (hq : Q (.inl (some (.int (fyN (p5 A B mc n x) (8 * n - (x + 1)) (x + 1))))) (HX I A B) 0) : xRun tb_P_firstThatBecomes 3 [.ref 1, .int (nI x)] (HX I A B) Q := by
  refine ⟨Nat.le_of_ble_eq_true rfl, ?_⟩
  refine xG.go [4, 6, 14, 23] 20 ?_
  show xG tb_P_firstThatBecomes Q (4, [some (.ref 1), some (.int (nI x)), some (.int (nI x + 1))], [], (HX I A B), 0)
  rw [nI_1]
  exact p_P_first_l h8 e0 hm (by omega) _ (x + 1) (by omega) hq
theorem p_P_sameMemberName_l {I : Nat → Int32} {A : Nat → Nat → Int32} {B : Nat → Nat → Int64} {Q : xQ} {n : Nat} {mc : Nat → Nat} (h8 : n ≤ 8) (e0 : I 0 = nI n) (hm : ∀ c, c < n → mc c ≤ 6 ∧ A 6 c = nI (mc c)) : ∀ (k x : Nat) (w : Option Value), x + k = 8 * n → Q (.inl (some (.int (sc (g5 A B mc n) k x)))) (HX I A B) 0 → xG tb_P_sameMemberName Q (2, [some (.ref 1), some (.int (nI x)), w], [], (HX I A B), 0)
  | 0, x, w, e, hq => by
    refine xG.go [2, 4, 12, 20, 36] 60 ?_
    show xG tb_P_sameMemberName Q (4, [some (.ref 1), some (.int (nI x)), w], [.ref 1, .int (nI x)], (HX I A B), 0)
    refine xG.callV (F := xRun tb_S_numbersEnd 1) (a := 1) rfl rfl rfl rfl (p_S_numbersEnd e0 ?_)
    refine xG.go [2, 4, 12, 20, 36] 60 ?_
    show (((nI (8 * n)) ≤ (nI x) → Q (.inl (some (.int (0 : Int32)))) (HX I A B) 0) ∧ (¬ (nI (8 * n)) ≤ (nI x) → xG tb_P_sameMemberName Q (12, [some (.ref 1), some (.int (nI x)), w], [.int (nI x), .ref 1], (HX I A B), 0)))
    exact br_y (nI_le (by omega) (by omega)) hq
  | k + 1, x, w, e, hq => by
    refine xG.go [2, 4, 12, 20, 36] 60 ?_
    show xG tb_P_sameMemberName Q (4, [some (.ref 1), some (.int (nI x)), w], [.ref 1, .int (nI x)], (HX I A B), 0)
    refine xG.callV (F := xRun tb_S_numbersEnd 1) (a := 1) rfl rfl rfl rfl (p_S_numbersEnd e0 ?_)
    refine xG.go [2, 4, 12, 20, 36] 60 ?_
    show (((nI (8 * n)) ≤ (nI x) → Q (.inl (some (.int (0 : Int32)))) (HX I A B) 0) ∧ (¬ (nI (8 * n)) ≤ (nI x) → xG tb_P_sameMemberName Q (12, [some (.ref 1), some (.int (nI x)), w], [.int (nI x), .ref 1], (HX I A B), 0)))
    refine br_n (nI_ge (by omega) (by omega)) ?_
    refine xG.callV (F := xRun tb_S_isMemberNumber 2) (a := 1) rfl rfl rfl rfl (p_S_isMemberNumber h8 e0 hm (by omega) ?_)
    refine xG.go [2, 4, 12, 20, 36] 60 ?_
    show (((bI (numB mc n x)) = 0 → (((-1 : Int32) = (-1 : Int32) → xG tb_P_sameMemberName Q (2, [some (.ref 1), some (.int ((nI x) + (1 : Int32))), some (.int (-1 : Int32))], [], (HX I A B), 0)) ∧ (¬ (-1 : Int32) = (-1 : Int32) → xG tb_P_sameMemberName Q (36, [some (.ref 1), some (.int (nI x)), some (.int (-1 : Int32))], [.int (-1 : Int32), .int (nI x), .int (5 : Int32)], (HX I A B), 0)))) ∧ (¬ (bI (numB mc n x)) = 0 → xG tb_P_sameMemberName Q (20, [some (.ref 1), some (.int (nI x)), w], [.int (nI x), .ref 1], (HX I A B), 0)))
    rw [nI_1]
    unfold sc at hq
    cases hn : numB mc n x with
    | false =>
      rw [show g5 A B mc n x = 0 from if_neg (by rw [hn]; decide), if_pos rfl] at hq
      exact br_y rfl (br_y rfl (p_P_sameMemberName_l h8 e0 hm k (x + 1) _ (by omega) hq))
    | true =>
      rw [show g5 A B mc n x = sc (g5y A B mc n x) (8 * n - (x + 1)) (x + 1) from if_pos hn] at hq
      refine br_n (by decide) ?_
      refine xG.call (F := xRun tb_P_firstThatBecomes 3) rfl rfl (p_P_firstThatBecomes h8 e0 hm (by omega) ?_)
      rcases fy_sc (P := p5 A B mc n x) (g := g5y A B mc n x) (x := x) (fun y => g5y_p A B mc n x y) (by omega) (8 * n - (x + 1)) (x + 1) (by omega) with ⟨q1, q2⟩ | ⟨y, hy, q1, q2⟩
      · rw [q1]
        rw [q2, if_pos rfl] at hq
        refine xG.go [2, 4, 12, 20, 36] 60 ?_
        show (((-1 : Int32) = (-1 : Int32) → xG tb_P_sameMemberName Q (2, [some (.ref 1), some (.int ((nI x) + (1 : Int32))), some (.int (-1 : Int32))], [], (HX I A B), 0)) ∧ (¬ (-1 : Int32) = (-1 : Int32) → xG tb_P_sameMemberName Q (36, [some (.ref 1), some (.int (nI x)), some (.int (-1 : Int32))], [.int (-1 : Int32), .int (nI x), .int (5 : Int32)], (HX I A B), 0)))
        rw [nI_1]
        exact br_y rfl (p_P_sameMemberName_l h8 e0 hm k (x + 1) _ (by omega) hq)
      · rw [q1]
        rw [q2, if_neg (tol_ne (by omega) (by omega) (by omega) hy)] at hq
        refine xG.go [2, 4, 12, 20, 36] 60 ?_
        show (((nI y) = (-1 : Int32) → xG tb_P_sameMemberName Q (2, [some (.ref 1), some (.int ((nI x) + (1 : Int32))), some (.int (nI y))], [], (HX I A B), 0)) ∧ (¬ (nI y) = (-1 : Int32) → xG tb_P_sameMemberName Q (36, [some (.ref 1), some (.int (nI x)), some (.int (nI y))], [.int (nI y), .int (nI x), .int (5 : Int32)], (HX I A B), 0)))
        refine br_n (fun z => m1_nI (by omega) z.symm) ?_
        refine xG.call (F := xRun tb_P_told 3) rfl rfl (p_P_told (k := 5) (x := x) (y := y) ?_)
        refine xG.go [2, 4, 12, 20, 36] 60 ?_
        show Q (.inl (some (.int (tol 5 x y)))) (HX I A B) 0
        exact hq
theorem p_P_sameMemberName {I : Nat → Int32} {A : Nat → Nat → Int32} {B : Nat → Nat → Int64} {Q : xQ} {n : Nat} {mc : Nat → Nat} (h8 : n ≤ 8) (e0 : I 0 = nI n) (hm : ∀ c, c < n → mc c ≤ 6 ∧ A 6 c = nI (mc c)) (hq : Q (.inl (some (.int (sc (g5 A B mc n) (8 * n) 0)))) (HX I A B) 0) : xRun tb_P_sameMemberName 3 [.ref 1] (HX I A B) Q := by
  refine ⟨Nat.le_of_ble_eq_true rfl, ?_⟩
  refine xG.go [2, 4, 12, 20, 36] 20 ?_
  show xG tb_P_sameMemberName Q (2, [some (.ref 1), some (.int (nI 0)), none], [], (HX I A B), 0)
  exact p_P_sameMemberName_l h8 e0 hm (8 * n) 0 none (Nat.zero_add _) hq
def orE (a b : Int32) : Int32 := if a = 0 then b else a
def lea (A : Nat → Nat → Int32) (B : Nat → Nat → Int64) (mc : Nat → Nat) (n : Nat) : Int32 := orE (sc (g1 A B) n 0) (orE (sc (g2 A B mc n) (8 * n) 0) (orE (sc (g3 B n) n 0) (orE (sc (g4 B n) n 0) (sc (g5 A B mc n) (8 * n) 0))))
theorem p_P_least_5 {I : Nat → Int32} {A : Nat → Nat → Int32} {B : Nat → Nat → Int64} {Q : xQ} {n : Nat} {mc : Nat → Nat} {r : Int32} (h8 : n ≤ 8) (e0 : I 0 = nI n) (hm : ∀ c, c < n → mc c ≤ 6 ∧ A 6 c = nI (mc c)) (hq : Q (.inl (some (.int (orE r (sc (g5 A B mc n) (8 * n) 0))))) (HX I A B) 0) : xG tb_P_least Q (32, [some (.ref 1), some (.int r)], [], (HX I A B), 0) := by
  refine xG.go [1, 10, 14, 19, 23, 28, 32, 37] 60 ?_
  show ((r = 0 → xG tb_P_least Q (37, [some (.ref 1), some (.int r)], [.ref 1], (HX I A B), 0)) ∧ (¬ r = 0 → Q (.inl (some (.int r))) (HX I A B) 0))
  unfold orE at hq
  refine ⟨fun z => ?_, fun z => ?_⟩
  · rw [if_pos z] at hq
    refine xG.call (F := xRun tb_P_sameMemberName 3) rfl rfl (p_P_sameMemberName h8 e0 hm ?_)
    generalize sc (g5 A B mc n) (8 * n) 0 = v at hq ⊢
    refine xG.go [1, 10, 14, 19, 23, 28, 32, 37] 60 ?_
    show Q (.inl (some (.int v))) (HX I A B) 0
    exact hq
  · rw [if_neg z] at hq
    exact hq
theorem p_P_least_4 {I : Nat → Int32} {A : Nat → Nat → Int32} {B : Nat → Nat → Int64} {Q : xQ} {n : Nat} {mc : Nat → Nat} {r : Int32} (h8 : n ≤ 8) (e0 : I 0 = nI n) (hm : ∀ c, c < n → mc c ≤ 6 ∧ A 6 c = nI (mc c)) (hq : Q (.inl (some (.int (orE r (orE (sc (g4 B n) n 0) (sc (g5 A B mc n) (8 * n) 0)))))) (HX I A B) 0) : xG tb_P_least Q (23, [some (.ref 1), some (.int r)], [], (HX I A B), 0) := by
  refine xG.go [1, 10, 14, 19, 23, 28, 32, 37] 60 ?_
  show ((r = 0 → xG tb_P_least Q (28, [some (.ref 1), some (.int r)], [.ref 1], (HX I A B), 0)) ∧ (¬ r = 0 → xG tb_P_least Q (32, [some (.ref 1), some (.int r)], [], (HX I A B), 0)))
  refine ⟨fun z => ?_, fun z => ?_⟩
  · rw [show ∀ b, orE r b = b from fun b => if_pos z] at hq
    refine xG.call (F := xRun tb_P_otherPackages 3) rfl rfl (p_P_otherPackages h8 e0 ?_)
    generalize sc (g4 B n) n 0 = v at hq ⊢
    refine xG.go [1, 10, 14, 19, 23, 28, 32, 37] 60 ?_
    show xG tb_P_least Q (32, [some (.ref 1), some (.int v)], [], (HX I A B), 0)
    exact p_P_least_5 h8 e0 hm hq
  · rw [show ∀ b, orE r b = r from fun b => if_neg z] at hq
    refine p_P_least_5 h8 e0 hm ?_
    rw [show ∀ b, orE r b = r from fun b => if_neg z]
    exact hq
theorem p_P_least_3 {I : Nat → Int32} {A : Nat → Nat → Int32} {B : Nat → Nat → Int64} {Q : xQ} {n : Nat} {mc : Nat → Nat} {r : Int32} (h8 : n ≤ 8) (e0 : I 0 = nI n) (hm : ∀ c, c < n → mc c ≤ 6 ∧ A 6 c = nI (mc c)) (hq : Q (.inl (some (.int (orE r (orE (sc (g3 B n) n 0) (orE (sc (g4 B n) n 0) (sc (g5 A B mc n) (8 * n) 0))))))) (HX I A B) 0) : xG tb_P_least Q (14, [some (.ref 1), some (.int r)], [], (HX I A B), 0) := by
  refine xG.go [1, 10, 14, 19, 23, 28, 32, 37] 60 ?_
  show ((r = 0 → xG tb_P_least Q (19, [some (.ref 1), some (.int r)], [.ref 1], (HX I A B), 0)) ∧ (¬ r = 0 → xG tb_P_least Q (23, [some (.ref 1), some (.int r)], [], (HX I A B), 0)))
  refine ⟨fun z => ?_, fun z => ?_⟩
  · rw [show ∀ b, orE r b = b from fun b => if_pos z] at hq
    refine xG.call (F := xRun tb_P_sameClassName 3) rfl rfl (p_P_sameClassName h8 e0 ?_)
    generalize sc (g3 B n) n 0 = v at hq ⊢
    refine xG.go [1, 10, 14, 19, 23, 28, 32, 37] 60 ?_
    show xG tb_P_least Q (23, [some (.ref 1), some (.int v)], [], (HX I A B), 0)
    exact p_P_least_4 h8 e0 hm hq
  · rw [show ∀ b, orE r b = r from fun b => if_neg z] at hq
    refine p_P_least_4 h8 e0 hm ?_
    rw [show ∀ b, orE r b = r from fun b => if_neg z]
    exact hq
theorem p_P_least {I : Nat → Int32} {A : Nat → Nat → Int32} {B : Nat → Nat → Int64} {Q : xQ} {n : Nat} {mc : Nat → Nat} (h8 : n ≤ 8) (e0 : I 0 = nI n) (hm : ∀ c, c < n → mc c ≤ 6 ∧ A 6 c = nI (mc c)) (hq : Q (.inl (some (.int (lea A B mc n)))) (HX I A B) 0) : xRun tb_P_least 2 [.ref 1] (HX I A B) Q := by
  refine ⟨Nat.le_of_ble_eq_true rfl, ?_⟩
  unfold lea at hq
  refine xG.go [1, 10, 14, 19, 23, 28, 32, 37] 60 ?_
  show xG tb_P_least Q (1, [some (.ref 1), none], [.ref 1], (HX I A B), 0)
  refine xG.call (F := xRun tb_P_libraryClass 2) rfl rfl (p_P_libraryClass h8 e0 ?_)
  generalize sc (g1 A B) n 0 = v at hq ⊢
  refine xG.go [1, 10, 14, 19, 23, 28, 32, 37] 60 ?_
  show ((v = 0 → xG tb_P_least Q (10, [some (.ref 1), some (.int v)], [.ref 1], (HX I A B), 0)) ∧ (¬ v = 0 → xG tb_P_least Q (14, [some (.ref 1), some (.int v)], [], (HX I A B), 0)))
  refine ⟨fun z => ?_, fun z => ?_⟩
  · rw [show ∀ b, orE v b = b from fun b => if_pos z] at hq
    refine xG.call (F := xRun tb_P_libraryMember 2) rfl rfl (p_P_libraryMember h8 e0 hm ?_)
    generalize sc (g2 A B mc n) (8 * n) 0 = u at hq ⊢
    refine xG.go [1, 10, 14, 19, 23, 28, 32, 37] 60 ?_
    show xG tb_P_least Q (14, [some (.ref 1), some (.int u)], [], (HX I A B), 0)
    exact p_P_least_3 h8 e0 hm hq
  · rw [show ∀ b, orE v b = v from fun b => if_neg z] at hq
    refine p_P_least_3 h8 e0 hm ?_
    rw [show ∀ b, orE v b = v from fun b => if_neg z]
    exact hq
