-- ancestors: the class's bits, the reference's walk
theorem bit_eq (x : Int32) (a : Nat) (h : a < 8) : (((x >>> (nI a &&& 31)) &&& 1 = 1) ↔ x.toBitVec.getLsbD a = true) := by
  have e : ((x >>> (nI a &&& 31)) &&& 1 = 1) ↔ ((x >>> (nI a &&& 31)) &&& 1).toBitVec = 1#32 := by
    rw [← Int32.toBitVec_inj]; exact Iff.rfl
  rw [e, Int32.toBitVec_and]
  have e2 : (x >>> (nI a &&& 31)).toBitVec = x.toBitVec.sshiftRight a := by
    rw [Int32.toBitVec_shiftRight]
    have : a = 0 ∨ a = 1 ∨ a = 2 ∨ a = 3 ∨ a = 4 ∨ a = 5 ∨ a = 6 ∨ a = 7 := by omega
    rcases this with rfl | rfl | rfl | rfl | rfl | rfl | rfl | rfl <;> rfl
  rw [e2]
  have k0 : (x.toBitVec.sshiftRight a).getLsbD 0 = x.toBitVec.getLsbD a := by
    rw [BitVec.getLsbD_sshiftRight, Nat.add_zero, if_pos (by omega : a < 32)]
    simp
  constructor
  · intro h2
    have := congrArg (fun z => z.getLsbD 0) h2
    have k1 : ((x.toBitVec.sshiftRight a) &&& (1 : Int32).toBitVec).getLsbD 0 = (1#32).getLsbD 0 := this
    rw [BitVec.getLsbD_and, k0] at k1
    have k2 : (1 : Int32).toBitVec.getLsbD 0 = true := by decide
    rw [k2, Bool.and_true] at k1
    rw [k1]; decide
  · intro h2
    apply BitVec.eq_of_getLsbD_eq
    intro i hi
    rw [BitVec.getLsbD_and]
    by_cases hz : i = 0
    · subst hz
      rw [k0, h2]; decide
    · have : (1#32).getLsbD i = false := by simp [BitVec.getLsbD_one, hz]
      show (_ && (1#32).getLsbD i) = _
      rw [this]; simp
theorem bit_or (x : Int32) (p a : Nat) (hp : p < 8) (ha : a < 8) : ((((x ||| ((1 : Int32) <<< (nI p &&& 31))) >>> (nI a &&& 31)) &&& 1 = 1) ↔ (a = p ∨ ((x >>> (nI a &&& 31)) &&& 1 = 1))) := by
  rw [bit_eq _ _ ha, bit_eq _ _ ha, Int32.toBitVec_or, BitVec.getLsbD_or]
  have : ((1 : Int32) <<< (nI p &&& 31)).toBitVec.getLsbD a = decide (a = p) := by
    have h1 : p = 0 ∨ p = 1 ∨ p = 2 ∨ p = 3 ∨ p = 4 ∨ p = 5 ∨ p = 6 ∨ p = 7 := by omega
    have h2 : a = 0 ∨ a = 1 ∨ a = 2 ∨ a = 3 ∨ a = 4 ∨ a = 5 ∨ a = 6 ∨ a = 7 := by omega
    rcases h1 with rfl | rfl | rfl | rfl | rfl | rfl | rfl | rfl <;> rcases h2 with rfl | rfl | rfl | rfl | rfl | rfl | rfl | rfl <;> decide
  rw [this]
  simp [or_comm]
theorem bit_0 (a : Nat) (ha : a < 8) : ¬ (((0 : Int32) >>> (nI a &&& 31)) &&& 1 = 1) := by
  rw [bit_eq _ _ ha]
  simp
/-- a is c or an ancestor of c, by the bits -/
def sAn (A : Nat → Nat → Int32) (a c : Nat) : Bool := decide (a = c) || decide ((A 7 c >>> (nI a &&& 31)) &&& 1 = 1)
theorem sAn_self (A : Nat → Nat → Int32) (c : Nat) : sAn A c c = true := by
  unfold sAn
  rw [decide_eq_true rfl, Bool.true_or]
theorem sAn_root {A : Nat → Nat → Int32} {a c : Nat} (h7 : A 7 c = 0) (ha : a < 8) : sAn A a c = decide (a = c) := by
  unfold sAn
  rw [h7, decide_eq_false (bit_0 a ha), Bool.or_false]
theorem sAn_up {A : Nat → Nat → Int32} {a c p : Nat} (h7 : A 7 c = A 7 p ||| ((1 : Int32) <<< (nI p &&& 31))) (hp : p < 8) (ha : a < 8) : sAn A a c = (decide (a = c) || sAn A a p) := by
  unfold sAn
  rw [h7]
  congr 1
  rw [Bool.eq_iff_iff, Bool.or_eq_true, decide_eq_true_eq, decide_eq_true_eq, decide_eq_true_eq]
  exact bit_or _ _ _ hp ha
theorem sAn_le {A : Nat → Nat → Int32} {n : Nat} (h8 : n ≤ 8) (hA : ∀ c, c < n → vAnc A c) : ∀ (c a : Nat), c < n → a < 8 → sAn A a c = true → a ≤ c := by
  intro c
  induction c using Nat.strongRecOn with
  | _ c ih =>
    intro a hc ha h
    rcases hA c hc with ⟨_, h7⟩ | ⟨p, hp, _, h7⟩
    · rw [sAn_root h7 ha, decide_eq_true_eq] at h
      omega
    · rw [sAn_up h7 (by omega) ha, Bool.or_eq_true, decide_eq_true_eq] at h
      rcases h with h | h
      · omega
      · have := ih p hp a (by omega) ha h
        omega
theorem p_S_isSameOrAncestor {I : Nat → Int32} {A : Nat → Nat → Int32} {B : Nat → Nat → Int64} {Q : xQ} {a c : Nat} (ha : a < 8) (hc : c < 8) (hq : Q (.inl (some (.int (bI (sAn A a c))))) (HX I A B) 0) : xRun tb_S_isSameOrAncestor 3 [.ref 1, .int (nI a), .int (nI c)] (HX I A B) Q := by
  refine ⟨Nat.le_of_ble_eq_true rfl, ?_⟩
  refine xG.go [] 60 ?_
  show (((nI a) = (nI c) → (((1 : Int32) = (0 : Int32) ∨ (1 : Int32) = 1) ∧ Q (.inl (some (.int (1 : Int32)))) (HX I A B) 0)) ∧ (¬ (nI a) = (nI c) → (vp_in (nI c) 8 ∧ ((((((A 7) (nI c).toNatClampNeg) >>> ((nI a) &&& 31)) &&& (1 : Int32)) = (1 : Int32) → (((1 : Int32) = (0 : Int32) ∨ (1 : Int32) = 1) ∧ Q (.inl (some (.int (1 : Int32)))) (HX I A B) 0)) ∧ (¬ ((((A 7) (nI c).toNatClampNeg) >>> ((nI a) &&& 31)) &&& (1 : Int32)) = (1 : Int32) → (((0 : Int32) = (0 : Int32) ∨ (0 : Int32) = 1) ∧ Q (.inl (some (.int (0 : Int32)))) (HX I A B) 0))))))
  rw [nI_clamp (by omega)]
  unfold sAn at hq
  by_cases w : a = c
  · rw [decide_eq_true w, Bool.true_or] at hq
    exact br_y ((nI_eq (by omega) (by omega)).mpr w) ⟨Or.inr rfl, hq⟩
  · rw [decide_eq_false w, Bool.false_or] at hq
    refine br_n (fun z => w ((nI_eq (by omega) (by omega)).mp z)) ⟨vp_in_nI hc (by omega), fun z => ?_, fun z => ?_⟩
    · rw [decide_eq_true z] at hq
      exact ⟨Or.inr rfl, hq⟩
    · rw [decide_eq_false z] at hq
      exact ⟨Or.inl rfl, hq⟩
theorem m1_nI {a : Nat} (ha : a < 2 ^ 31) : ¬ (-1 : Int32) = nI a := fun z => nI_pos ha (by rw [← z]; decide)
theorem p_M_isAbove_e {I : Nat → Int32} {A : Nat → Nat → Int32} {B : Nat → Nat → Int64} {Q : xQ} {a : Nat} {y : Int32} (ha : a < 8) (hq : Q (.inl (some (.int (bI false)))) (HX I A B) 0) : xG tb_M_isAbove Q (2, [some (.ref 24), some (.int (nI a)), some (.int y), some (.int (-1))], [], (HX I A B), 0) := by
  refine xG.go [2] 60 ?_
  show (((-1 : Int32) < 0 → (((-1 : Int32) = (nI a) → (((1 : Int32) = (0 : Int32) ∨ (1 : Int32) = 1) ∧ Q (.inl (some (.int (1 : Int32)))) (HX I A B) 0)) ∧ (¬ (-1 : Int32) = (nI a) → (((0 : Int32) = (0 : Int32) ∨ (0 : Int32) = 1) ∧ Q (.inl (some (.int (0 : Int32)))) (HX I A B) 0)))) ∧ (¬ (-1 : Int32) < 0 → (((-1 : Int32) = (nI a) → (((-1 : Int32) = (nI a) → (((1 : Int32) = (0 : Int32) ∨ (1 : Int32) = 1) ∧ Q (.inl (some (.int (1 : Int32)))) (HX I A B) 0)) ∧ (¬ (-1 : Int32) = (nI a) → (((0 : Int32) = (0 : Int32) ∨ (0 : Int32) = 1) ∧ Q (.inl (some (.int (0 : Int32)))) (HX I A B) 0)))) ∧ (¬ (-1 : Int32) = (nI a) → (vp_in (-1 : Int32) 8 ∧ xG tb_M_isAbove Q (2, [some (.ref 24), some (.int (nI a)), some (.int y), some (.int ((A 27) (-1 : Int32).toNatClampNeg))], [], (HX I A B), 0))))))
  exact br_y (by decide) (br_n (m1_nI (by omega)) ⟨Or.inl rfl, hq⟩)
theorem p_M_isAbove_l {I : Nat → Int32} {A : Nat → Nat → Int32} {B : Nat → Nat → Int64} {Q : xQ} {n a : Nat} {y : Int32} (h8 : n ≤ 8) (ha : a < 8) (hA : ∀ c, c < n → vAnc A c ∧ A 27 c = A 4 c) : ∀ (b : Nat), b < n → Q (.inl (some (.int (bI (sAn A a b))))) (HX I A B) 0 → xG tb_M_isAbove Q (2, [some (.ref 24), some (.int (nI a)), some (.int y), some (.int (nI b))], [], (HX I A B), 0) := by
  intro b
  induction b using Nat.strongRecOn with
  | _ b ih =>
    intro hb hq
    refine xG.go [2] 60 ?_
    show (((nI b) < 0 → (((nI b) = (nI a) → (((1 : Int32) = (0 : Int32) ∨ (1 : Int32) = 1) ∧ Q (.inl (some (.int (1 : Int32)))) (HX I A B) 0)) ∧ (¬ (nI b) = (nI a) → (((0 : Int32) = (0 : Int32) ∨ (0 : Int32) = 1) ∧ Q (.inl (some (.int (0 : Int32)))) (HX I A B) 0)))) ∧ (¬ (nI b) < 0 → (((nI b) = (nI a) → (((nI b) = (nI a) → (((1 : Int32) = (0 : Int32) ∨ (1 : Int32) = 1) ∧ Q (.inl (some (.int (1 : Int32)))) (HX I A B) 0)) ∧ (¬ (nI b) = (nI a) → (((0 : Int32) = (0 : Int32) ∨ (0 : Int32) = 1) ∧ Q (.inl (some (.int (0 : Int32)))) (HX I A B) 0)))) ∧ (¬ (nI b) = (nI a) → (vp_in (nI b) 8 ∧ xG tb_M_isAbove Q (2, [some (.ref 24), some (.int (nI a)), some (.int y), some (.int ((A 27) (nI b).toNatClampNeg))], [], (HX I A B), 0))))))
    rw [nI_clamp (by omega), (hA b hb).2]
    refine br_n (nI_pos (by omega)) ⟨fun z => br_y z ⟨Or.inr rfl, ?_⟩, fun z => ⟨vp_in_nI (by omega) (by omega), ?_⟩⟩
    · obtain rfl : b = a := (nI_eq (by omega) (by omega)).mp z
      rw [sAn_self] at hq
      exact hq
    · have w : a ≠ b := fun w => z (by rw [w])
      rcases (hA b hb).1 with ⟨e4, h7⟩ | ⟨p, hp, e4, h7⟩
      · rw [e4]
        rw [sAn_root h7 ha, decide_eq_false w] at hq
        exact p_M_isAbove_e ha hq
      · rw [e4]
        rw [sAn_up h7 (by omega) ha, decide_eq_false w, Bool.false_or] at hq
        exact ih p hp (by omega) hq
theorem p_M_isAbove {I : Nat → Int32} {A : Nat → Nat → Int32} {B : Nat → Nat → Int64} {Q : xQ} {n a b : Nat} (h8 : n ≤ 8) (ha : a < 8) (hb : b < n) (hA : ∀ c, c < n → vAnc A c ∧ A 27 c = A 4 c) (hq : Q (.inl (some (.int (bI (sAn A a b))))) (HX I A B) 0) : xRun tb_M_isAbove 4 [.ref 24, .int (nI a), .int (nI b)] (HX I A B) Q := by
  refine ⟨Nat.le_of_ble_eq_true rfl, ?_⟩
  refine xG.go [2] 20 ?_
  show xG tb_M_isAbove Q (2, [some (.ref 24), some (.int (nI a)), some (.int (nI b)), some (.int (nI b))], [], (HX I A B), 0)
  exact p_M_isAbove_l h8 ha hA b hb hq
theorem p_M_areRelated {I : Nat → Int32} {A : Nat → Nat → Int32} {B : Nat → Nat → Int64} {Q : xQ} {n a b : Nat} (h8 : n ≤ 8) (ha : a < n) (hb : b < n) (hA : ∀ c, c < n → vAnc A c ∧ A 27 c = A 4 c) (hq : Q (.inl (some (.int (bI (sAn A a b || sAn A b a))))) (HX I A B) 0) : xRun tb_M_areRelated 3 [.ref 24, .int (nI a), .int (nI b)] (HX I A B) Q := by
  refine ⟨Nat.le_of_ble_eq_true rfl, ?_⟩
  refine xG.go [3, 12] 60 ?_
  show xG tb_M_areRelated Q (3, [some (.ref 24), some (.int (nI a)), some (.int (nI b))], [.int (nI b), .int (nI a), .ref 24], (HX I A B), 0)
  refine xG.callV (F := xRun tb_M_isAbove 4) (a := 24) rfl rfl rfl rfl (p_M_isAbove h8 (by omega) hb hA ?_)
  refine xG.go [3, 12] 60 ?_
  show (((bI (sAn A a b)) = 0 → xG tb_M_areRelated Q (12, [some (.ref 24), some (.int (nI a)), some (.int (nI b))], [.int (nI a), .int (nI b), .ref 24], (HX I A B), 0)) ∧ (¬ (bI (sAn A a b)) = 0 → (((1 : Int32) = (0 : Int32) ∨ (1 : Int32) = 1) ∧ Q (.inl (some (.int (1 : Int32)))) (HX I A B) 0)))
  cases h1 : sAn A a b with
  | true =>
    rw [h1, Bool.true_or] at hq
    exact br_n (by decide) ⟨Or.inr rfl, hq⟩
  | false =>
    rw [h1, Bool.false_or] at hq
    refine br_y rfl ?_
    refine xG.callV (F := xRun tb_M_isAbove 4) (a := 24) rfl rfl rfl rfl (p_M_isAbove h8 (by omega) ha hA ?_)
    refine xG.go [3, 12] 60 ?_
    show (((bI (sAn A b a)) = 0 → (((0 : Int32) = (0 : Int32) ∨ (0 : Int32) = 1) ∧ Q (.inl (some (.int (0 : Int32)))) (HX I A B) 0)) ∧ (¬ (bI (sAn A b a)) = 0 → (((1 : Int32) = (0 : Int32) ∨ (1 : Int32) = 1) ∧ Q (.inl (some (.int (1 : Int32)))) (HX I A B) 0)))
    cases h2 : sAn A b a with
    | true => rw [h2] at hq; exact br_n (by decide) ⟨Or.inr rfl, hq⟩
    | false => rw [h2] at hq; exact br_y rfl ⟨Or.inl rfl, hq⟩
