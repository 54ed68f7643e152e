-- families, the class's side
theorem p_S_canOverride {I : Nat → Int32} {A : Nat → Nat → Int32} {B : Nat → Nat → Int64} {Q : xQ} {m : Nat} (hm : m < 64) (hq : Q (.inl (some (.int (bI (canO A B m))))) (HX I A B) 0) : xRun tb_S_canOverride 2 [.ref 1, .int (nI m)] (HX I A B) Q := by
  refine ⟨Nat.le_of_ble_eq_true rfl, ?_⟩
  refine xG.go [15] 60 ?_
  show (vp_in (nI m) 64 ∧ ((((A 11) (nI m).toNatClampNeg) = 0 → (vp_in (nI m) 64 ∧ xG tb_S_canOverride Q (15, [some (.ref 1), some (.int (nI m))], [.long ((B 10) (nI m).toNatClampNeg)], (HX I A B), 0))) ∧ (¬ ((A 11) (nI m).toNatClampNeg) = 0 → (((0 : Int32) = (0 : Int32) ∨ (0 : Int32) = 1) ∧ Q (.inl (some (.int (0 : Int32)))) (HX I A B) 0))))
  rw [nI_clamp (by omega)]
  have hin : vp_in (nI m) 64 := vp_in_nI hm (by omega)
  unfold canO at hq
  refine ⟨hin, fun z => ⟨hin, ?_⟩, fun z => ?_⟩
  · refine xG.call (F := xRun tb_D_isMethod 2) rfl rfl (p_D_isMethod ?_)
    refine xG.go [15] 60 ?_
    show (((bI (decide (tch (B 10 m) (nI 0) = 40))) = 0 → (((0 : Int32) = (0 : Int32) ∨ (0 : Int32) = 1) ∧ Q (.inl (some (.int (0 : Int32)))) (HX I A B) 0)) ∧ (¬ (bI (decide (tch (B 10 m) (nI 0) = 40))) = 0 → (((1 : Int32) = (0 : Int32) ∨ (1 : Int32) = 1) ∧ Q (.inl (some (.int (1 : Int32)))) (HX I A B) 0)))
    by_cases w : tch (B 10 m) (nI 0) = 40
    · rw [decide_eq_true w]
      rw [decide_eq_true ⟨z, w⟩] at hq
      exact br_n (by decide) ⟨Or.inr rfl, hq⟩
    · rw [decide_eq_false w]
      rw [decide_eq_false (fun q => w q.2)] at hq
      exact br_y rfl ⟨Or.inl rfl, hq⟩
  · rw [decide_eq_false (fun q => z q.1)] at hq
    exact ⟨Or.inl rfl, hq⟩
theorem own_lt {f g : Nat → Int64} {t d : Int64} {a : Nat} : ∀ (k i : Nat), ¬ owN f g t d a k i = -1 → ∃ j, i ≤ j ∧ j < i + k ∧ owN f g t d a k i = nI (8 * a + j)
  | 0, i, h => absurd rfl h
  | k + 1, i, h => by
    unfold owN at h ⊢
    by_cases w : f (8 * a + i) = t ∧ g (8 * a + i) = d
    · rw [if_pos w]
      exact ⟨i, Nat.le_refl i, by omega, rfl⟩
    · rw [if_neg w] at h ⊢
      obtain ⟨j, h1, h2, h3⟩ := own_lt k (i + 1) h
      exact ⟨j, by omega, by omega, h3⟩
theorem p_S_familyTop_l {I : Nat → Int32} {A : Nat → Nat → Int32} {B : Nat → Nat → Int64} {Q : xQ} {n m c : Nat} {mc : Nat → Nat} (h8 : n ≤ 8) (hm : ∀ c, c < n → mc c ≤ 6 ∧ A 6 c = nI (mc c)) (hm64 : m < 64) (hc : c < n) : ∀ (k a : Nat) (w : Option Value), a + k = c → Q (.inl (some (.int (nI (topF A B mc (B 8 m) (B 10 m) c k a))))) (HX I A B) 0 → xG tb_S_familyTop Q (7, [some (.ref 1), some (.int (nI m)), some (.int (nI c)), some (.int (nI a)), w], [], (HX I A B), 0)
  | 0, a, w, e, hq => by
    refine xG.go [1, 7, 15, 35, 53] 60 ?_
    show (((nI c) ≤ (nI a) → Q (.inl (some (.int (nI c)))) (HX I A B) 0) ∧ (¬ (nI c) ≤ (nI a) → xG tb_S_familyTop Q (15, [some (.ref 1), some (.int (nI m)), some (.int (nI c)), some (.int (nI a)), w], [.int (nI c), .int (nI a), .ref 1], (HX I A B), 0)))
    have : a = c := by omega
    subst this
    exact br_y (nI_le (by omega) (by omega)) hq
  | k + 1, a, w, e, hq => by
    refine xG.go [1, 7, 15, 35, 53] 60 ?_
    show (((nI c) ≤ (nI a) → Q (.inl (some (.int (nI c)))) (HX I A B) 0) ∧ (¬ (nI c) ≤ (nI a) → xG tb_S_familyTop Q (15, [some (.ref 1), some (.int (nI m)), some (.int (nI c)), some (.int (nI a)), w], [.int (nI c), .int (nI a), .ref 1], (HX I A B), 0)))
    refine br_n (nI_ge (by omega) (by omega)) ?_
    refine xG.callV (F := xRun tb_S_isSameOrAncestor 3) (a := 1) rfl rfl rfl rfl (p_S_isSameOrAncestor (a := a) (c := c) (by omega) (by omega) ?_)
    refine xG.go [1, 7, 15, 35, 53] 60 ?_
    show (((bI (sAn A a c)) = 0 → (((-1 : Int32) = (-1 : Int32) → xG tb_S_familyTop Q (7, [some (.ref 1), some (.int (nI m)), some (.int (nI c)), some (.int ((nI a) + (1 : Int32))), some (.int (-1 : Int32))], [], (HX I A B), 0)) ∧ (¬ (-1 : Int32) = (-1 : Int32) → xG tb_S_familyTop Q (53, [some (.ref 1), some (.int (nI m)), some (.int (nI c)), some (.int (nI a)), some (.int (-1 : Int32))], [.int (-1 : Int32), .ref 1], (HX I A B), 0)))) ∧ (¬ (bI (sAn A a c)) = 0 → (vp_in (nI m) 64 ∧ (vp_in (nI m) 64 ∧ xG tb_S_familyTop Q (35, [some (.ref 1), some (.int (nI m)), some (.int (nI c)), some (.int (nI a)), w], [.long ((B 10) (nI m).toNatClampNeg), .long ((B 8) (nI m).toNatClampNeg), .int (nI a), .ref 1], (HX I A B), 0)))))
    rw [nI_1, nI_clamp (by omega)]
    have hin : vp_in (nI m) 64 := vp_in_nI hm64 (by omega)
    unfold topF at hq
    cases hs : sAn A a c with
    | false =>
      rw [hs, if_neg (fun q => by cases q.1)] at hq
      exact br_y rfl (br_y rfl (p_S_familyTop_l h8 hm hm64 hc k (a + 1) _ (by omega) hq))
    | true =>
      rw [hs] at hq
      have h6 := (hm a (by omega)).1
      refine br_n (by decide) ⟨hin, hin, ?_⟩
      refine xG.callV (F := xRun tb_S_ownMember 8) (a := 1) rfl rfl rfl rfl (p_S_ownMember (by omega) (hm a (by omega)).1 (hm a (by omega)).2 ?_)
      unfold oq at hq
      by_cases w1 : owN (B 8) (B 10) (B 8 m) (B 10 m) a (mc a) 0 = -1
      · rw [w1]
        rw [if_neg (fun q => by rw [decide_eq_true w1] at q; cases q.2)] at hq
        refine xG.go [1, 7, 15, 35, 53] 60 ?_
        show (((-1 : Int32) = (-1 : Int32) → xG tb_S_familyTop Q (7, [some (.ref 1), some (.int (nI m)), some (.int (nI c)), some (.int ((nI a) + (1 : Int32))), some (.int (-1 : Int32))], [], (HX I A B), 0)) ∧ (¬ (-1 : Int32) = (-1 : Int32) → xG tb_S_familyTop Q (53, [some (.ref 1), some (.int (nI m)), some (.int (nI c)), some (.int (nI a)), some (.int (-1 : Int32))], [.int (-1 : Int32), .ref 1], (HX I A B), 0)))
        rw [nI_1]
        exact br_y rfl (p_S_familyTop_l h8 hm hm64 hc k (a + 1) _ (by omega) hq)
      · obtain ⟨j, -, hj, ej⟩ := own_lt _ _ w1
        rw [decide_eq_false w1, ej, nI_clamp (by omega)] at hq
        rw [ej]
        refine xG.go [1, 7, 15, 35, 53] 60 ?_
        show (((nI (8 * a + j)) = (-1 : Int32) → xG tb_S_familyTop Q (7, [some (.ref 1), some (.int (nI m)), some (.int (nI c)), some (.int ((nI a) + (1 : Int32))), some (.int (nI (8 * a + j)))], [], (HX I A B), 0)) ∧ (¬ (nI (8 * a + j)) = (-1 : Int32) → xG tb_S_familyTop Q (53, [some (.ref 1), some (.int (nI m)), some (.int (nI c)), some (.int (nI a)), some (.int (nI (8 * a + j)))], [.int (nI (8 * a + j)), .ref 1], (HX I A B), 0)))
        rw [nI_1]
        refine br_n (fun z => m1_nI (by omega) z.symm) ?_
        refine xG.callV (F := xRun tb_S_canOverride 2) (a := 1) rfl rfl rfl rfl (p_S_canOverride (by omega) ?_)
        refine xG.go [1, 7, 15, 35, 53] 60 ?_
        show (((bI (canO A B (8 * a + j))) = 0 → xG tb_S_familyTop Q (7, [some (.ref 1), some (.int (nI m)), some (.int (nI c)), some (.int ((nI a) + (1 : Int32))), some (.int (nI (8 * a + j)))], [], (HX I A B), 0)) ∧ (¬ (bI (canO A B (8 * a + j))) = 0 → Q (.inl (some (.int (nI a)))) (HX I A B) 0))
        rw [nI_1]
        cases hcn : canO A B (8 * a + j) with
        | true =>
          rw [hcn, if_pos ⟨rfl, rfl⟩] at hq
          exact br_n (by decide) hq
        | false =>
          rw [hcn, if_neg (fun q => by cases q.2)] at hq
          exact br_y rfl (p_S_familyTop_l h8 hm hm64 hc k (a + 1) _ (by omega) hq)
theorem p_S_familyTop {I : Nat → Int32} {A : Nat → Nat → Int32} {B : Nat → Nat → Int64} {Q : xQ} {n m : Nat} {mc : Nat → Nat} (h8 : n ≤ 8) (hm : ∀ c, c < n → mc c ≤ 6 ∧ A 6 c = nI (mc c)) (hc : m / 8 < n) (hq : Q (.inl (some (.int (nI (top A B mc m))))) (HX I A B) 0) : xRun tb_S_familyTop 5 [.ref 1, .int (nI m)] (HX I A B) Q := by
  refine ⟨Nat.le_of_ble_eq_true rfl, ?_⟩
  refine xG.go [1, 7, 15, 35, 53] 60 ?_
  show xG tb_S_familyTop Q (1, [some (.ref 1), some (.int (nI m)), none, none, none], [.int (nI m)], (HX I A B), 0)
  refine xG.call (F := xRun tb_S_classOf 1) rfl rfl (p_S_classOf (by omega) ?_)
  refine xG.go [1, 7, 15, 35, 53] 20 ?_
  show xG tb_S_familyTop Q (7, [some (.ref 1), some (.int (nI m)), some (.int (nI (m / 8))), some (.int (nI 0)), none], [], (HX I A B), 0)
  exact p_S_familyTop_l h8 hm (by omega) hc (m / 8) 0 none (Nat.zero_add _) hq
theorem top_le (A : Nat → Nat → Int32) (B : Nat → Nat → Int64) (mc : Nat → Nat) (m : Nat) : top A B mc m ≤ m / 8 := (topF_spec (A := A) (B := B) (mc := mc) (t := B 8 m) (d := B 10 m) (c := m / 8) (m / 8) 0 (Nat.zero_add _)).2.1
theorem p_S_inOneFamily {I : Nat → Int32} {A : Nat → Nat → Int32} {B : Nat → Nat → Int64} {Q : xQ} {n x y : Nat} {mc : Nat → Nat} (h8 : n ≤ 8) (hm : ∀ c, c < n → mc c ≤ 6 ∧ A 6 c = nI (mc c)) (hx : x / 8 < n) (hy : y / 8 < n) (hq : Q (.inl (some (.int (bI (decide (famP A B mc x y)))))) (HX I A B) 0) : xRun tb_S_inOneFamily 3 [.ref 1, .int (nI x), .int (nI y)] (HX I A B) Q := by
  refine ⟨Nat.le_of_ble_eq_true rfl, ?_⟩
  refine xG.go [9, 17, 57, 62] 60 ?_
  show (((nI x) = (nI y) → (((1 : Int32) = (0 : Int32) ∨ (1 : Int32) = 1) ∧ Q (.inl (some (.int (1 : Int32)))) (HX I A B) 0)) ∧ (¬ (nI x) = (nI y) → xG tb_S_inOneFamily Q (9, [some (.ref 1), some (.int (nI x)), some (.int (nI y))], [.int (nI x), .ref 1], (HX I A B), 0)))
  refine ⟨fun z => ?_, fun z => ?_⟩
  · rw [decide_eq_true (Or.inl ((nI_eq (by omega) (by omega)).mp z))] at hq
    exact ⟨Or.inr rfl, hq⟩
  have ne : ¬ x = y := fun q => z (by rw [q])
  have no : ¬ (canO A B x = true ∧ canO A B y = true ∧ B 8 x = B 8 y ∧ B 10 x = B 10 y ∧ top A B mc x = top A B mc y) → ((0 : Int32) = (0 : Int32) ∨ (0 : Int32) = 1) ∧ Q (.inl (some (.int 0))) (HX I A B) 0 := fun q => by
    rw [decide_eq_false (fun p => p.elim ne q)] at hq
    exact ⟨Or.inl rfl, hq⟩
  have hi : vp_in (nI x) 64 := vp_in_nI (by omega) (by omega)
  have hj : vp_in (nI y) 64 := vp_in_nI (by omega) (by omega)
  refine xG.callV (F := xRun tb_S_canOverride 2) (a := 1) rfl rfl rfl rfl (p_S_canOverride (by omega) ?_)
  refine xG.go [9, 17, 57, 62] 60 ?_
  show (((bI (canO A B x)) = 0 → (((0 : Int32) = (0 : Int32) ∨ (0 : Int32) = 1) ∧ Q (.inl (some (.int (0 : Int32)))) (HX I A B) 0)) ∧ (¬ (bI (canO A B x)) = 0 → xG tb_S_inOneFamily Q (17, [some (.ref 1), some (.int (nI x)), some (.int (nI y))], [.int (nI y), .ref 1], (HX I A B), 0)))
  cases hcx : canO A B x with
  | false => exact br_y rfl (no (fun q => by rw [hcx] at q; cases q.1))
  | true =>
    refine br_n (by decide) ?_
    refine xG.callV (F := xRun tb_S_canOverride 2) (a := 1) rfl rfl rfl rfl (p_S_canOverride (by omega) ?_)
    refine xG.go [9, 17, 57, 62] 60 ?_
    show (((bI (canO A B y)) = 0 → (((0 : Int32) = (0 : Int32) ∨ (0 : Int32) = 1) ∧ Q (.inl (some (.int (0 : Int32)))) (HX I A B) 0)) ∧ (¬ (bI (canO A B y)) = 0 → (vp_in (nI x) 64 ∧ (vp_in (nI y) 64 ∧ (((lg_cmp ((B 8) (nI x).toNatClampNeg) ((B 8) (nI y).toNatClampNeg)) = 0 → (vp_in (nI x) 64 ∧ (vp_in (nI y) 64 ∧ (((lg_cmp ((B 10) (nI x).toNatClampNeg) ((B 10) (nI y).toNatClampNeg)) = 0 → xG tb_S_inOneFamily Q (57, [some (.ref 1), some (.int (nI x)), some (.int (nI y))], [.int (nI x), .ref 1], (HX I A B), 0)) ∧ (¬ (lg_cmp ((B 10) (nI x).toNatClampNeg) ((B 10) (nI y).toNatClampNeg)) = 0 → (((0 : Int32) = (0 : Int32) ∨ (0 : Int32) = 1) ∧ Q (.inl (some (.int (0 : Int32)))) (HX I A B) 0)))))) ∧ (¬ (lg_cmp ((B 8) (nI x).toNatClampNeg) ((B 8) (nI y).toNatClampNeg)) = 0 → (((0 : Int32) = (0 : Int32) ∨ (0 : Int32) = 1) ∧ Q (.inl (some (.int (0 : Int32)))) (HX I A B) 0)))))))
    rw [nI_clamp (by omega), nI_clamp (by omega)]
    cases hcy : canO A B y with
    | false => exact br_y rfl (no (fun q => by rw [hcy] at q; cases q.2.1))
    | true =>
      refine br_n (by decide) ⟨hi, hj, fun z1 => ⟨hi, hj, fun z2 => ?_, fun z2 => no (fun q => z2 ((lg_cmp_eq _ _).mpr q.2.2.2.1))⟩, fun z1 => no (fun q => z1 ((lg_cmp_eq _ _).mpr q.2.2.1))⟩
      refine xG.callV (F := xRun tb_S_familyTop 5) (a := 1) rfl rfl rfl rfl (p_S_familyTop h8 hm hx ?_)
      refine xG.go [9, 17, 57, 62] 60 ?_
      show xG tb_S_inOneFamily Q (62, [some (.ref 1), some (.int (nI x)), some (.int (nI y))], [.int (nI y), .ref 1, .int (nI (top A B mc x))], (HX I A B), 0)
      refine xG.callV (F := xRun tb_S_familyTop 5) (a := 1) rfl rfl rfl rfl (p_S_familyTop h8 hm hy ?_)
      have t1 := top_le A B mc x
      have t2 := top_le A B mc y
      refine xG.go [9, 17, 57, 62] 60 ?_
      show (((nI (top A B mc x)) = (nI (top A B mc y)) → (((1 : Int32) = (0 : Int32) ∨ (1 : Int32) = 1) ∧ Q (.inl (some (.int (1 : Int32)))) (HX I A B) 0)) ∧ (¬ (nI (top A B mc x)) = (nI (top A B mc y)) → (((0 : Int32) = (0 : Int32) ∨ (0 : Int32) = 1) ∧ Q (.inl (some (.int (0 : Int32)))) (HX I A B) 0)))
      refine ⟨fun z3 => ?_, fun z3 => no (fun q => z3 (by rw [q.2.2.2.2]))⟩
      rw [decide_eq_true (Or.inr ⟨hcx, hcy, (lg_cmp_eq _ _).mp z1, (lg_cmp_eq _ _).mp z2, (nI_eq (by omega) (by omega)).mp z3⟩)] at hq
      exact ⟨Or.inr rfl, hq⟩
theorem topF_9 {A : Nat → Nat → Int32} {B : Nat → Nat → Int64} {mc : Nat → Nat} {t d : Int64} {c : Nat} {f : Nat → Int64} : ∀ (k a : Nat), topF A (va_up B 9 f) mc t d c k a = topF A B mc t d c k a
  | 0, a => rfl
  | k + 1, a => by
    unfold topF
    rw [topF_9 k (a + 1)]
    rfl
theorem fam_9 {A : Nat → Nat → Int32} {B : Nat → Nat → Int64} {mc : Nat → Nat} {x y : Nat} {f : Nat → Int64} : decide (famP A (va_up B 9 f) mc x y) = decide (famP A B mc x y) := by
  have e : ∀ m, top A (va_up B 9 f) mc m = top A B mc m := fun m => topF_9 _ _
  refine decide_eq_decide.mpr ?_
  unfold famP
  rw [e, e]
  exact Iff.rfl
def fmB (A : Nat → Nat → Int32) (B : Nat → Nat → Int64) (mc : Nat → Nat) (n m y : Nat) : Bool := numB mc n y && decide (famP A B mc m y)
theorem p_S_renameFamily_l {I : Nat → Int32} {A : Nat → Nat → Int32} {B : Nat → Nat → Int64} {Q : xQ} {n m : Nat} {mc : Nat → Nat} {t : Int64} (h8 : n ≤ 8) (e0 : I 0 = nI n) (hm : ∀ c, c < n → mc c ≤ 6 ∧ A 6 c = nI (mc c)) (hx : m / 8 < n) : ∀ (k y r : Nat) (f : Nat → Int64), y + k = 8 * n → Q (.inl (some (.int (nI (r + cgo (fmB A B mc n m) k y))))) (HX I A (va_up B 9 (rnM (fmB A B mc n m) (fun _ => t) f y k))) 0 → xG tb_S_renameFamily Q (6, [some (.ref 1), some (.int (nI m)), some (.long t), none, some (.int (nI r)), some (.int (nI y))], [], HX I A (va_up B 9 f), 0)
  | 0, y, r, f, e, hq => by
    refine xG.go [6, 9, 18, 28] 60 ?_
    show xG tb_S_renameFamily Q (9, [some (.ref 1), some (.int (nI m)), some (.long t), none, some (.int (nI r)), some (.int (nI y))], [.ref 1, .int (nI y)], (HX I A (va_up B 9 f)), 0)
    rw [rnM_0] at hq
    refine xG.callV (F := xRun tb_S_numbersEnd 1) (a := 1) rfl rfl rfl rfl (p_S_numbersEnd (B := va_up B 9 f) e0 ?_)
    refine xG.go [6, 9, 18, 28] 60 ?_
    show (((nI (8 * n)) ≤ (nI y) → Q (.inl (some (.int (nI r)))) (HX I A (va_up B 9 f)) 0) ∧ (¬ (nI (8 * n)) ≤ (nI y) → xG tb_S_renameFamily Q (18, [some (.ref 1), some (.int (nI m)), some (.long t), none, some (.int (nI r)), some (.int (nI y))], [.int (nI y), .ref 1], (HX I A (va_up B 9 f)), 0)))
    exact br_y (nI_le (by omega) (by omega)) hq
  | k + 1, y, r, f, e, hq => by
    refine xG.go [6, 9, 18, 28] 60 ?_
    show xG tb_S_renameFamily Q (9, [some (.ref 1), some (.int (nI m)), some (.long t), none, some (.int (nI r)), some (.int (nI y))], [.ref 1, .int (nI y)], (HX I A (va_up B 9 f)), 0)
    refine xG.callV (F := xRun tb_S_numbersEnd 1) (a := 1) rfl rfl rfl rfl (p_S_numbersEnd (B := va_up B 9 f) e0 ?_)
    refine xG.go [6, 9, 18, 28] 60 ?_
    show (((nI (8 * n)) ≤ (nI y) → Q (.inl (some (.int (nI r)))) (HX I A (va_up B 9 f)) 0) ∧ (¬ (nI (8 * n)) ≤ (nI y) → xG tb_S_renameFamily Q (18, [some (.ref 1), some (.int (nI m)), some (.long t), none, some (.int (nI r)), some (.int (nI y))], [.int (nI y), .ref 1], (HX I A (va_up B 9 f)), 0)))
    refine br_n (nI_ge (by omega) (by omega)) ?_
    refine xG.callV (F := xRun tb_S_isMemberNumber 2) (a := 1) rfl rfl rfl rfl (p_S_isMemberNumber (B := va_up B 9 f) h8 e0 hm (by omega) ?_)
    refine xG.go [6, 9, 18, 28] 60 ?_
    show (((bI (numB mc n y)) = 0 → xG tb_S_renameFamily Q (6, [some (.ref 1), some (.int (nI m)), some (.long t), none, some (.int (nI r)), some (.int ((nI y) + (1 : Int32)))], [], (HX I A (va_up B 9 f)), 0)) ∧ (¬ (bI (numB mc n y)) = 0 → xG tb_S_renameFamily Q (28, [some (.ref 1), some (.int (nI m)), some (.long t), none, some (.int (nI r)), some (.int (nI y))], [.int (nI y), .int (nI m), .ref 1], (HX I A (va_up B 9 f)), 0)))
    rw [nI_1]
    rw [← rnM_s] at hq
    unfold cgo at hq
    have no : fmB A B mc n m y = false → xG tb_S_renameFamily Q (6, [some (.ref 1), some (.int (nI m)), some (.long t), none, some (.int (nI r)), some (.int (nI (y + 1)))], [], HX I A (va_up B 9 f), 0) := fun w => by
      rw [w, if_neg (by decide), if_neg (by decide), Nat.zero_add] at hq
      exact p_S_renameFamily_l h8 e0 hm hx k (y + 1) r f (by omega) hq
    cases hn : numB mc n y with
    | false => exact br_y rfl (no (by unfold fmB; rw [hn, Bool.false_and]))
    | true =>
      refine br_n (by decide) ?_
      refine xG.callV (F := xRun tb_S_inOneFamily 3) (a := 1) rfl rfl rfl rfl (p_S_inOneFamily (B := va_up B 9 f) h8 hm hx (by omega) ?_)
      rw [fam_9]
      refine xG.go [6, 9, 18, 28] 60 ?_
      show (((bI (decide (famP A B mc m y))) = 0 → xG tb_S_renameFamily Q (6, [some (.ref 1), some (.int (nI m)), some (.long t), none, some (.int (nI r)), some (.int ((nI y) + (1 : Int32)))], [], (HX I A (va_up B 9 f)), 0)) ∧ (¬ (bI (decide (famP A B mc m y))) = 0 → (vp_in (nI y) 64 ∧ xG tb_S_renameFamily Q (6, [some (.ref 1), some (.int (nI m)), some (.long t), none, some (.int ((nI r) + (1 : Int32))), some (.int ((nI y) + (1 : Int32)))], [], (HX I A (va_up B 9 (vp_updL f (nI y).toNatClampNeg t))), 0))))
      rw [nI_1, nI_1, nI_clamp (by omega)]
      by_cases w : famP A B mc m y
      · have hg : fmB A B mc n m y = true := by unfold fmB; rw [hn, decide_eq_true w]; rfl
        rw [hg, if_pos rfl, if_pos rfl, ← Nat.add_assoc] at hq
        rw [decide_eq_true w]
        exact br_n (by decide) ⟨vp_in_nI (by omega) (by omega), p_S_renameFamily_l h8 e0 hm hx k (y + 1) (r + 1) _ (by omega) hq⟩
      · rw [decide_eq_false w]
        exact br_y rfl (no (by unfold fmB; rw [decide_eq_false w, Bool.and_false]))
theorem p_S_renameFamily {I : Nat → Int32} {A : Nat → Nat → Int32} {B : Nat → Nat → Int64} {Q : xQ} {n m : Nat} {mc : Nat → Nat} {t : Int64} (h8 : n ≤ 8) (e0 : I 0 = nI n) (hm : ∀ c, c < n → mc c ≤ 6 ∧ A 6 c = nI (mc c)) (hx : m / 8 < n) (hq : Q (.inl (some (.int (nI (cgo (fmB A B mc n m) (8 * n) 0))))) (HX I A (va_up B 9 (rnM (fmB A B mc n m) (fun _ => t) (B 9) 0 (8 * n)))) 0) : xRun tb_S_renameFamily 6 [.ref 1, .int (nI m), .long t] (HX I A B) Q := by
  refine ⟨Nat.le_of_ble_eq_true rfl, ?_⟩
  refine xG.go [6, 9, 18, 28] 20 ?_
  show xG tb_S_renameFamily Q (6, [some (.ref 1), some (.int (nI m)), some (.long t), none, some (.int (nI 0)), some (.int (nI 0))], [], (HX I A B), 0)
  have := p_S_renameFamily_l (Q := Q) (t := t) h8 e0 hm hx (8 * n) 0 0 (B 9) (Nat.zero_add _) (by rw [Nat.zero_add]; exact hq)
  rw [up_same] at this
  exact this
theorem p_N_moveMember {I : Nat → Int32} {A : Nat → Nat → Int32} {B : Nat → Nat → Int64} {Q : xQ} {n : Nat} {c k : Int32} {mc : Nat → Nat} {t : Int64} (h8 : n ≤ 8) (e0 : I 0 = nI n) (hm : ∀ c, c < n → mc c ≤ 6 ∧ A 6 c = nI (mc c)) (h1 : isMb (I 0) (A 6) c k = false → Q (.inr 1) (HX I A B) 1) (h2 : isMb (I 0) (A 6) c k = true → isId t = false → Q (.inr 0) (HX I A B) 1) (h0 : ∀ i j, i < n → j < mc i → c = nI i → k = nI j → isId t = true → Q (.inl (some (.int (nI (cgo (fmB A B mc n (8 * i + j)) (8 * n) 0))))) (HX I A (va_up B 9 (rnM (fmB A B mc n (8 * i + j)) (fun _ => t) (B 9) 0 (8 * n)))) 0) : xRun tb_N_moveMember 5 [.ref 0, .int c, .int k, .long t] (HX I A B) Q := by
  refine ⟨Nat.le_of_ble_eq_true rfl, ?_⟩
  refine xG.go [3, 7, 29, 33] 60 ?_
  show xG tb_N_moveMember Q (3, [some (.ref 0), some (.int c), some (.int k), some (.long t), none], [.int k, .int c, .ref 0], (HX I A B), 0)
  refine xG.callV (F := xRun tb_N_requireMember 3) (a := 0) rfl rfl rfl rfl (p_N_requireMember h8 e0 (fun w => ?_) (fun w => h1 w))
  refine xG.go [3, 7, 29, 33] 60 ?_
  show xG tb_N_moveMember Q (7, [some (.ref 0), some (.int c), some (.int k), some (.long t), none], [.long t], (HX I A B), 0)
  refine xG.call (F := xRun tb_T_isIdentifier 2) rfl rfl (p_T_isIdentifier ?_)
  refine xG.go [3, 7, 29, 33] 60 ?_
  show (((bI (isId t)) = 0 → Q (.inr 0) (HX I A B) 1) ∧ (¬ (bI (isId t)) = 0 → xG tb_N_moveMember Q (29, [some (.ref 0), some (.int c), some (.int k), some (.long t), none], [.int k, .int c, .ref 1], (HX I A B), 0)))
  cases ht : isId t with
  | false => exact br_y rfl (h2 w ht)
  | true =>
    obtain ⟨i, j, hi, hj, rfl, rfl⟩ := isMb_ix h8 e0 hm w
    have hy := h0 i j hi hj rfl rfl ht
    have h6 := (hm i hi).1
    refine br_n (by decide) ?_
    refine xG.call (F := xRun tb_S_number 2) rfl rfl (p_S_number ?_)
    rw [nI_num]
    refine xG.go [3, 7, 29, 33] 60 ?_
    show xG tb_N_moveMember Q (33, [some (.ref 0), some (.int (nI i)), some (.int (nI j)), some (.long t), none], [.long t, .int (nI (8 * i + j)), .ref 1], (HX I A B), 0)
    refine xG.callV (F := xRun tb_S_renameFamily 6) (a := 1) rfl rfl rfl rfl (p_S_renameFamily h8 e0 hm (by omega) ?_)
    refine xG.go [3, 7, 29, 33] 30 ?_
    exact hy
theorem p_L_moveMember {I : Nat → Int32} {A : Nat → Nat → Int32} {B : Nat → Nat → Int64} {Q : xQ} {n : Nat} {c k : Int32} {mc : Nat → Nat} {t : Int64} (h8 : n ≤ 8) (e0 : I 0 = nI n) (hm : ∀ c, c < n → mc c ≤ 6 ∧ A 6 c = nI (mc c)) (h1 : isMb (I 0) (A 6) c k = false → Q (.inl (some (.int 1))) (HX I A B) 1) (h2 : isMb (I 0) (A 6) c k = true → isId t = false → Q (.inl (some (.int 2))) (HX I A B) 1) (h0 : ∀ i j, i < n → j < mc i → c = nI i → k = nI j → isId t = true → Q (.inl (some (.int 0))) (HX I A (va_up (va_up B 9 (rnM (fmB A B mc n (8 * i + j)) (fun _ => t) (B 9) 0 (8 * n))) 41 (vp_updL (B 41) 0 (nI (cgo (fmB A B mc n (8 * i + j)) (8 * n) 0)).toInt64))) 0) : xRun tb_L_moveMember 7 [.ref 0, .int c, .int k, .long t, .ref 41] (HX I A B) Q := by
  refine ⟨Nat.le_of_ble_eq_true rfl, ?_⟩
  refine xG.go [7] 60 ?_
  show xG tb_L_moveMember Q (7, [some (.ref 0), some (.int c), some (.int k), some (.long t), none, some (.ref 41), none], [.long t, .int k, .int c, .ref 0, .int (0 : Int32), .ref 41], (HX I A B), 0)
  refine xG.callH (F := xRun tb_N_moveMember 5) (a := 0) rfl rfl rfl rfl (p_N_moveMember h8 e0 hm (fun w => h1 w) (fun w z => h2 w z) (fun i j hi hj ei ej w => ?_))
  have hy := h0 i j hi hj ei ej w
  generalize nI (cgo (fmB A B mc n (8 * i + j)) (8 * n) 0) = v at hy ⊢
  refine xG.go [7] 30 ?_
  exact ⟨vp_in_nI (n := 0) (by omega) (by omega), hy⟩
