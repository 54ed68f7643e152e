-- descriptors, the two sides
def rI (p : Nat) : Int32 := if p = 0 then -1 else nI p
theorem p_D_isMethod {h : xH} {Q : xQ} {t : Int64} (hq : Q (.inl (some (.int (bI (decide (tch t (nI 0) = 40)))))) h 0) : xRun tb_D_isMethod 2 [.long t] h Q := by
  refine ⟨Nat.le_of_ble_eq_true rfl, ?_⟩
  refine xG.go [2] 60 ?_
  show xG tb_D_isMethod Q (2, [some (.long t), none], [.int (0 : Int32), .long t], h, 0)
  refine xG.call (F := xRun tb_T_charAt 3) rfl rfl (p_T_charAt ?_)
  refine xG.go [2] 60 ?_
  show (((tch t (nI 0)) = (40 : Int32) → (((1 : Int32) = (0 : Int32) ∨ (1 : Int32) = 1) ∧ Q (.inl (some (.int (1 : Int32)))) h 0)) ∧ (¬ (tch t (nI 0)) = (40 : Int32) → (((0 : Int32) = (0 : Int32) ∨ (0 : Int32) = 1) ∧ Q (.inl (some (.int (0 : Int32)))) h 0)))
  refine ⟨fun z => ?_, fun z => ?_⟩
  · rw [decide_eq_true z] at hq
    exact ⟨Or.inr rfl, hq⟩
  · rw [decide_eq_false z] at hq
    exact ⟨Or.inl rfl, hq⟩
theorem p_D_isClassDigit {h : xH} {Q : xQ} {c : Int32} {l : Nat} (hq : Q (.inl (some (.int (bI (cdg c l))))) h 0) : xRun tb_D_isClassDigit 2 [.int c, .int (nI l)] h Q := by
  refine ⟨Nat.le_of_ble_eq_true rfl, ?_⟩
  refine xG.go [] 60 ?_
  show ((c < (48 : Int32) → (((0 : Int32) = (0 : Int32) ∨ (0 : Int32) = 1) ∧ Q (.inl (some (.int (0 : Int32)))) h 0)) ∧ (¬ c < (48 : Int32) → ((((48 : Int32) + (nI l)) ≤ c → (((0 : Int32) = (0 : Int32) ∨ (0 : Int32) = 1) ∧ Q (.inl (some (.int (0 : Int32)))) h 0)) ∧ (¬ ((48 : Int32) + (nI l)) ≤ c → (((1 : Int32) = (0 : Int32) ∨ (1 : Int32) = 1) ∧ Q (.inl (some (.int (1 : Int32)))) h 0)))))
  unfold cdg at hq
  refine ⟨fun z => ?_, fun z => ⟨fun z1 => ?_, fun z1 => ?_⟩⟩
  · rw [if_pos z] at hq
    exact ⟨Or.inl rfl, hq⟩
  · rw [if_neg z, if_pos z1] at hq
    exact ⟨Or.inl rfl, hq⟩
  · rw [if_neg z, if_neg z1] at hq
    exact ⟨Or.inr rfl, hq⟩
theorem p_D_behindType_e {h : xH} {Q : xQ} {t : Int64} {s : Int32} {l i : Nat} {w5 w6 : Option Value} (hi : i ≤ 8) (hq : Q (.inl (some (.int (if tyc (tch t (nI i)) l = true then nI (i + 1) else -1)))) h 0) : xG tb_D_behindType Q (27, [some (.long t), none, some (.int s), some (.int (nI l)), some (.int (nI i)), w5, w6], [], h, 0) := by
  refine xG.go [13, 30, 59] 60 ?_
  show xG tb_D_behindType Q (30, [some (.long t), none, some (.int s), some (.int (nI l)), some (.int (nI i)), w5, w6], [.int (nI i), .long t], h, 0)
  refine xG.call (F := xRun tb_T_charAt 3) rfl rfl (p_T_charAt ?_)
  generalize tch t (nI i) = c at hq ⊢
  refine xG.go [13, 30, 59] 60 ?_
  show ((c = (73 : Int32) → (((1 : Int32) = 0 → Q (.inl (some (.int (-1 : Int32)))) h 0) ∧ (¬ (1 : Int32) = 0 → Q (.inl (some (.int ((nI i) + (1 : Int32))))) h 0))) ∧ (¬ c = (73 : Int32) → ((c = (74 : Int32) → (((1 : Int32) = 0 → Q (.inl (some (.int (-1 : Int32)))) h 0) ∧ (¬ (1 : Int32) = 0 → Q (.inl (some (.int ((nI i) + (1 : Int32))))) h 0))) ∧ (¬ c = (74 : Int32) → ((c = (90 : Int32) → (((1 : Int32) = 0 → Q (.inl (some (.int (-1 : Int32)))) h 0) ∧ (¬ (1 : Int32) = 0 → Q (.inl (some (.int ((nI i) + (1 : Int32))))) h 0))) ∧ (¬ c = (90 : Int32) → xG tb_D_behindType Q (59, [some (.long t), none, some (.int s), some (.int (nI l)), some (.int (nI i)), some (.int c), w6], [.int (nI l), .int c], h, 0)))))))
  rw [nI_1]
  unfold tyc at hq
  refine ⟨fun z => ?_, fun z => ⟨fun z1 => ?_, fun z1 => ⟨fun z2 => ?_, fun z2 => ?_⟩⟩⟩
  · rw [if_pos z, if_pos rfl] at hq
    exact br_n (by decide) hq
  · rw [if_neg z, if_pos z1, if_pos rfl] at hq
    exact br_n (by decide) hq
  · rw [if_neg z, if_neg z1, if_pos z2, if_pos rfl] at hq
    exact br_n (by decide) hq
  · rw [if_neg z, if_neg z1, if_neg z2] at hq
    refine xG.call (F := xRun tb_D_isClassDigit 2) rfl rfl (p_D_isClassDigit ?_)
    refine xG.go [13, 30, 59] 60 ?_
    show (((bI (cdg c l)) = 0 → (((0 : Int32) = 0 → Q (.inl (some (.int (-1 : Int32)))) h 0) ∧ (¬ (0 : Int32) = 0 → Q (.inl (some (.int ((nI i) + (1 : Int32))))) h 0))) ∧ (¬ (bI (cdg c l)) = 0 → (((1 : Int32) = 0 → Q (.inl (some (.int (-1 : Int32)))) h 0) ∧ (¬ (1 : Int32) = 0 → Q (.inl (some (.int ((nI i) + (1 : Int32))))) h 0))))
    rw [nI_1]
    cases hd : cdg c l with
    | true =>
      rw [hd, if_pos rfl] at hq
      exact br_n (by decide) (br_n (by decide) hq)
    | false =>
      rw [hd, if_neg (by decide)] at hq
      exact br_y rfl (br_y rfl hq)
theorem p_D_behindType_l {h : xH} {Q : xQ} {t : Int64} {s : Int32} {l : Nat} : ∀ (k i : Nat), i + k = 8 → Q (.inl (some (.int (if tyc (tch t (nI (bkF t k i))) l = true then nI (bkF t k i + 1) else -1)))) h 0 → xG tb_D_behindType Q (3, [some (.long t), none, some (.int s), some (.int (nI l)), some (.int (nI i)), none, none], [], h, 0)
  | 0, i, e, hq => by
    refine xG.go [3, 13, 27, 30, 59] 60 ?_
    show (((8 : Int32) ≤ (nI i) → xG tb_D_behindType Q (27, [some (.long t), none, some (.int s), some (.int (nI l)), some (.int (nI i)), none, none], [], h, 0)) ∧ (¬ (8 : Int32) ≤ (nI i) → xG tb_D_behindType Q (13, [some (.long t), none, some (.int s), some (.int (nI l)), some (.int (nI i)), none, none], [.int (nI i), .long t], h, 0)))
    exact br_y (nI_le (a := 8) (by omega) (by omega)) (p_D_behindType_e (by omega) hq)
  | k + 1, i, e, hq => by
    refine xG.go [3, 13, 27, 30, 59] 60 ?_
    show (((8 : Int32) ≤ (nI i) → xG tb_D_behindType Q (27, [some (.long t), none, some (.int s), some (.int (nI l)), some (.int (nI i)), none, none], [], h, 0)) ∧ (¬ (8 : Int32) ≤ (nI i) → xG tb_D_behindType Q (13, [some (.long t), none, some (.int s), some (.int (nI l)), some (.int (nI i)), none, none], [.int (nI i), .long t], h, 0)))
    refine br_n (nI_ge (b := 8) (by omega) (by omega)) ?_
    refine xG.call (F := xRun tb_T_charAt 3) rfl rfl (p_T_charAt ?_)
    refine xG.go [3, 13, 27, 30, 59] 60 ?_
    show (((tch t (nI i)) = (91 : Int32) → xG tb_D_behindType Q (3, [some (.long t), none, some (.int s), some (.int (nI l)), some (.int ((nI i) + (1 : Int32))), none, none], [], h, 0)) ∧ (¬ (tch t (nI i)) = (91 : Int32) → xG tb_D_behindType Q (27, [some (.long t), none, some (.int s), some (.int (nI l)), some (.int (nI i)), none, none], [], h, 0)))
    rw [nI_1]
    unfold bkF at hq
    refine ⟨fun z => ?_, fun z => ?_⟩
    · rw [if_pos z] at hq
      exact p_D_behindType_l k (i + 1) (by omega) hq
    · rw [if_neg z] at hq
      exact p_D_behindType_e (by omega) hq
theorem pT_rI {t : Int64} {l i : Nat} : (if tyc (tch t (nI (bkF t (8 - i) i))) l = true then nI (bkF t (8 - i) i + 1) else -1) = rI (pT t l i) := by
  unfold rI pT
  by_cases w : tyc (tch t (nI (bkF t (8 - i) i))) l = true
  · rw [if_pos w, if_pos w, if_neg (by omega)]
  · rw [if_neg w, if_neg w, if_pos rfl]
theorem p_D_behindType {h : xH} {Q : xQ} {t : Int64} {l i : Nat} (hi : i ≤ 8) (hq : Q (.inl (some (.int (rI (pT t l i))))) h 0) : xRun tb_D_behindType 7 [.long t, .int (nI i), .int (nI l)] h Q := by
  refine ⟨Nat.le_of_ble_eq_true rfl, ?_⟩
  refine xG.go [3, 13, 30, 59] 20 ?_
  show xG tb_D_behindType Q (3, [some (.long t), none, some (.int (nI i)), some (.int (nI l)), some (.int (nI i)), none, none], [], h, 0)
  exact p_D_behindType_l (8 - i) i (by omega) (by rw [pT_rI]; exact hq)
theorem p_D_params_l {h : xH} {Q : xQ} {t : Int64} {l : Nat} : ∀ (k j i : Nat), j + k = 8 → i ≤ 8 → Q (.inl (some (.int (rI (pP t l k i))))) h 0 → xG tb_D_behindParameters Q (5, [some (.long t), none, some (.int (nI l)), some (.int (nI i)), some (.int (nI j))], [], h, 0)
  | 0, j, i, e, hi, hq => by
    refine xG.go [5, 21, 36] 60 ?_
    show (((8 : Int32) ≤ (nI j) → Q (.inl (some (.int (-1 : Int32)))) h 0) ∧ (¬ (8 : Int32) ≤ (nI j) → (((nI i) = (-1 : Int32) → Q (.inl (some (.int (-1 : Int32)))) h 0) ∧ (¬ (nI i) = (-1 : Int32) → xG tb_D_behindParameters Q (21, [some (.long t), none, some (.int (nI l)), some (.int (nI i)), some (.int (nI j))], [.int (nI i), .long t], h, 0)))))
    exact br_y (nI_le (a := 8) (by omega) (by omega)) hq
  | k + 1, j, i, e, hi, hq => by
    refine xG.go [5, 21, 36] 60 ?_
    show (((8 : Int32) ≤ (nI j) → Q (.inl (some (.int (-1 : Int32)))) h 0) ∧ (¬ (8 : Int32) ≤ (nI j) → (((nI i) = (-1 : Int32) → Q (.inl (some (.int (-1 : Int32)))) h 0) ∧ (¬ (nI i) = (-1 : Int32) → xG tb_D_behindParameters Q (21, [some (.long t), none, some (.int (nI l)), some (.int (nI i)), some (.int (nI j))], [.int (nI i), .long t], h, 0)))))
    refine br_n (nI_ge (b := 8) (by omega) (by omega)) (br_n (fun z => m1_nI (by omega) z.symm) ?_)
    refine xG.call (F := xRun tb_T_charAt 3) rfl rfl (p_T_charAt ?_)
    refine xG.go [5, 21, 36] 60 ?_
    show (((tch t (nI i)) = (41 : Int32) → Q (.inl (some (.int ((nI i) + (1 : Int32))))) h 0) ∧ (¬ (tch t (nI i)) = (41 : Int32) → xG tb_D_behindParameters Q (36, [some (.long t), none, some (.int (nI l)), some (.int (nI i)), some (.int (nI j))], [.int (nI l), .int (nI i), .long t], h, 0)))
    rw [nI_1]
    unfold pP at hq
    refine ⟨fun z => ?_, fun z => ?_⟩
    · rw [if_pos z] at hq
      have e1 : rI (i + 1) = nI (i + 1) := if_neg (by omega)
      rw [e1] at hq
      exact hq
    · rw [if_neg z] at hq
      refine xG.call (F := xRun tb_D_behindType 7) rfl rfl (p_D_behindType hi ?_)
      by_cases w : pT t l i = 0
      · rw [if_pos w] at hq
        have e1 : rI (pT t l i) = (-1 : Int32) := if_pos w
        rw [e1]
        refine xG.go [5, 21, 36] 60 ?_
        show xG tb_D_behindParameters Q (5, [some (.long t), none, some (.int (nI l)), some (.int (-1 : Int32)), some (.int ((nI j) + (1 : Int32)))], [], h, 0)
        refine xG.go [19, 21, 36] 60 ?_
        show (((8 : Int32) ≤ (nI j + 1) → Q (.inl (some (.int (-1 : Int32)))) h 0) ∧ (¬ (8 : Int32) ≤ (nI j + 1) → (((-1 : Int32) = (-1 : Int32) → Q (.inl (some (.int (-1 : Int32)))) h 0) ∧ (¬ (-1 : Int32) = (-1 : Int32) → xG tb_D_behindParameters Q (19, [some (.long t), none, some (.int (nI l)), some (.int (-1 : Int32)), some (.int (nI j + 1))], [], h, 0)))))
        exact ⟨fun _ => hq, fun _ => br_y rfl hq⟩
      · rw [if_neg w] at hq
        have e1 : rI (pT t l i) = nI (pT t l i) := if_neg w
        rw [e1]
        refine xG.go [5, 21, 36] 60 ?_
        show xG tb_D_behindParameters Q (5, [some (.long t), none, some (.int (nI l)), some (.int (nI (pT t l i))), some (.int ((nI j) + (1 : Int32)))], [], h, 0)
        rw [nI_1]
        exact p_D_params_l k (j + 1) (pT t l i) (by omega) (pT_spec hi w).2.1 hq
theorem p_D_behindParameters {h : xH} {Q : xQ} {t : Int64} {l : Nat} (hq : Q (.inl (some (.int (rI (pP t l 8 1))))) h 0) : xRun tb_D_behindParameters 5 [.long t, .int (nI l)] h Q := by
  refine ⟨Nat.le_of_ble_eq_true rfl, ?_⟩
  refine xG.go [5, 21, 36] 20 ?_
  show xG tb_D_behindParameters Q (5, [some (.long t), none, some (.int (nI l)), some (.int (nI 1)), some (.int (nI 0))], [], h, 0)
  exact p_D_params_l 8 0 1 rfl (by omega) hq
theorem rI_eq {p m : Nat} (hp : p ≤ 8) (hm : m ≤ 8) : rI p = nI m ↔ (¬ p = 0 ∧ p = m) := by
  unfold rI
  by_cases w : p = 0
  · rw [if_pos w]
    exact ⟨fun z => absurd z (m1_nI (by omega)), fun z => absurd w z.1⟩
  · rw [if_neg w, nI_eq (by omega) (by omega)]
    exact ⟨fun z => ⟨w, z⟩, fun z => z.2⟩
theorem pT_le {t : Int64} {l i : Nat} (hi : i ≤ 8) : pT t l i ≤ 8 := by
  by_cases w : pT t l i = 0
  · omega
  · exact (pT_spec hi w).2.1
theorem p_D_isOne {h : xH} {Q : xQ} {t : Int64} {l : Nat} (hq : Q (.inl (some (.int (bI (dOne t l))))) h 0) : xRun tb_D_isOne 5 [.long t, .int (nI l)] h Q := by
  have h8 := tlen_le t
  refine ⟨Nat.le_of_ble_eq_true rfl, ?_⟩
  refine xG.go [1, 6, 15, 30, 46, 72] 60 ?_
  show xG tb_D_isOne Q (1, [some (.long t), none, some (.int (nI l)), none, none], [.long t], h, 0)
  refine xG.call (F := xRun tb_T_length 3) rfl rfl (p_T_length ?_)
  refine xG.go [1, 6, 15, 30, 46, 72] 60 ?_
  show xG tb_D_isOne Q (6, [some (.long t), none, some (.int (nI l)), some (.int (nI (tlen t))), none], [.long t], h, 0)
  refine xG.call (F := xRun tb_D_isMethod 2) rfl rfl (p_D_isMethod ?_)
  refine xG.go [1, 6, 15, 30, 46, 72] 60 ?_
  show (((bI (decide (tch t (nI 0) = 40))) = 0 → xG tb_D_isOne Q (15, [some (.long t), none, some (.int (nI l)), some (.int (nI (tlen t))), none], [.int (nI l), .int (0 : Int32), .long t], h, 0)) ∧ (¬ (bI (decide (tch t (nI 0) = 40))) = 0 → xG tb_D_isOne Q (30, [some (.long t), none, some (.int (nI l)), some (.int (nI (tlen t))), none], [.int (nI l), .long t], h, 0)))
  unfold dOne at hq
  by_cases w : tch t (nI 0) = 40
  · rw [if_pos w] at hq
    rw [decide_eq_true w]
    refine br_n (by decide) ?_
    refine xG.call (F := xRun tb_D_behindParameters 5) rfl rfl (p_D_behindParameters ?_)
    by_cases z : pP t l 8 1 = 0
    · rw [if_pos z] at hq
      rw [show rI (pP t l 8 1) = (-1 : Int32) from if_pos z]
      refine xG.go [1, 6, 15, 30, 46, 72] 60 ?_
      show (((-1 : Int32) = (-1 : Int32) → (((0 : Int32) = (0 : Int32) ∨ (0 : Int32) = 1) ∧ Q (.inl (some (.int (0 : Int32)))) h 0)) ∧ (¬ (-1 : Int32) = (-1 : Int32) → xG tb_D_isOne Q (46, [some (.long t), none, some (.int (nI l)), some (.int (nI (tlen t))), some (.int (-1 : Int32))], [.int (-1 : Int32), .long t], h, 0)))
      exact br_y rfl ⟨Or.inl rfl, hq⟩
    · rw [if_neg z] at hq
      obtain ⟨b1, b2, b3, b4⟩ := pP_spec 8 1 (by omega) z
      rw [show rI (pP t l 8 1) = nI (pP t l 8 1) from if_neg z]
      generalize pP t l 8 1 = r at *
      refine xG.go [1, 6, 15, 30, 46, 72] 60 ?_
      show (((nI r) = (-1 : Int32) → (((0 : Int32) = (0 : Int32) ∨ (0 : Int32) = 1) ∧ Q (.inl (some (.int (0 : Int32)))) h 0)) ∧ (¬ (nI r) = (-1 : Int32) → xG tb_D_isOne Q (46, [some (.long t), none, some (.int (nI l)), some (.int (nI (tlen t))), some (.int (nI r))], [.int (nI r), .long t], h, 0)))
      refine br_n (fun z => m1_nI (by omega) z.symm) ?_
      refine xG.call (F := xRun tb_T_charAt 3) rfl rfl (p_T_charAt ?_)
      refine xG.go [1, 6, 15, 30, 46, 72] 60 ?_
      show (((tch t (nI r)) = (86 : Int32) → ((((nI r) + (1 : Int32)) = (nI (tlen t)) → (((1 : Int32) = (0 : Int32) ∨ (1 : Int32) = 1) ∧ Q (.inl (some (.int (1 : Int32)))) h 0)) ∧ (¬ ((nI r) + (1 : Int32)) = (nI (tlen t)) → (((0 : Int32) = (0 : Int32) ∨ (0 : Int32) = 1) ∧ Q (.inl (some (.int (0 : Int32)))) h 0)))) ∧ (¬ (tch t (nI r)) = (86 : Int32) → xG tb_D_isOne Q (72, [some (.long t), none, some (.int (nI l)), some (.int (nI (tlen t))), some (.int (nI r))], [.int (nI l), .int (nI r), .long t], h, 0)))
      rw [nI_1]
      refine ⟨fun v => ?_, fun v => ?_⟩
      · rw [if_pos v] at hq
        refine ⟨fun q => ?_, fun q => ?_⟩
        · rw [decide_eq_true ((nI_eq (by omega) (by omega)).mp q)] at hq
          exact ⟨Or.inr rfl, hq⟩
        · rw [decide_eq_false (fun p => q ((nI_eq (by omega) (by omega)).mpr p))] at hq
          exact ⟨Or.inl rfl, hq⟩
      · rw [if_neg v] at hq
        refine xG.call (F := xRun tb_D_behindType 7) rfl rfl (p_D_behindType b2 ?_)
        have hp := pT_le (t := t) (l := l) b2
        generalize pT t l r = p at *
        refine xG.go [1, 6, 15, 30, 46, 72] 60 ?_
        show (((rI p) = (nI (tlen t)) → (((1 : Int32) = (0 : Int32) ∨ (1 : Int32) = 1) ∧ Q (.inl (some (.int (1 : Int32)))) h 0)) ∧ (¬ (rI p) = (nI (tlen t)) → (((0 : Int32) = (0 : Int32) ∨ (0 : Int32) = 1) ∧ Q (.inl (some (.int (0 : Int32)))) h 0)))
        refine ⟨fun q => ?_, fun q => ?_⟩
        · rw [decide_eq_true ((rI_eq hp h8).mp q)] at hq
          exact ⟨Or.inr rfl, hq⟩
        · rw [decide_eq_false (fun p => q ((rI_eq hp h8).mpr p))] at hq
          exact ⟨Or.inl rfl, hq⟩
  · rw [if_neg w] at hq
    rw [decide_eq_false w]
    refine br_y rfl ?_
    refine xG.call (F := xRun tb_D_behindType 7) rfl rfl (p_D_behindType (i := 0) (by omega) ?_)
    have hp := pT_le (t := t) (l := l) (i := 0) (by omega)
    generalize pT t l 0 = p at *
    refine xG.go [1, 6, 15, 30, 46, 72] 60 ?_
    show (((rI p) = (nI (tlen t)) → (((1 : Int32) = (0 : Int32) ∨ (1 : Int32) = 1) ∧ Q (.inl (some (.int (1 : Int32)))) h 0)) ∧ (¬ (rI p) = (nI (tlen t)) → (((0 : Int32) = (0 : Int32) ∨ (0 : Int32) = 1) ∧ Q (.inl (some (.int (0 : Int32)))) h 0)))
    refine ⟨fun q => ?_, fun q => ?_⟩
    · rw [decide_eq_true ((rI_eq hp h8).mp q)] at hq
      exact ⟨Or.inr rfl, hq⟩
    · rw [decide_eq_false (fun p => q ((rI_eq hp h8).mpr p))] at hq
      exact ⟨Or.inl rfl, hq⟩
-- the reference's
theorem up_same {α : Type} {I : Nat → α} {k : Nat} : va_up I k (I k) = I := by
  funext j
  unfold va_up
  split
  · rename_i z; rw [z]
  · rfl
theorem up_up {α : Type} {I : Nat → α} {k : Nat} {x y : α} : va_up (va_up I k x) k y = va_up I k y := by
  funext j
  unfold va_up
  split <;> rfl
theorem p_M_type_e {I : Nat → Int32} {A : Nat → Nat → Int32} {B : Nat → Nat → Int64} {Q : xQ} {t : Int64} {l i : Nat} {w4 : Option Value} (e : I 15 = nI i) (hi : i ≤ 8) (hy : tyc (tch t (nI i)) l = true → Q (.inl (some (.int 1))) (HX (va_up I 15 (nI (i + 1))) A B) 0) (hn : ¬ tyc (tch t (nI i)) l = true → ∀ x, Q (.inl (some (.int 0))) (HX (va_up I 15 x) A B) 0) : xG tb_M_type Q (35, [some (.ref 24), some (.long t), none, some (.int (nI l)), w4], [], (HX I A B), 0) := by
  refine xG.go [14, 35, 51] 60 ?_
  show (((I 15) < (8 : Int32) → xG tb_M_type Q (51, [some (.ref 24), some (.long t), none, some (.int (nI l)), w4], [.int (I 15), .long t], (HX I A B), 0)) ∧ (¬ (I 15) < (8 : Int32) → (((0 : Int32) = (0 : Int32) ∨ (0 : Int32) = 1) ∧ Q (.inl (some (.int (0 : Int32)))) (HX I A B) 0)))
  rw [e]
  rcases Nat.lt_or_ge i 8 with q | q
  · refine br_y (nI_lt (b := 8) q (by omega)) ?_
    refine xG.call (F := xRun tb_M_charAt 3) rfl rfl (p_M_charAt q ?_)
    generalize tch t (nI i) = c at hy hn ⊢
    refine xG.go [14, 35, 51] 60 ?_
    show ((c = (73 : Int32) → (((1 : Int32) = (0 : Int32) ∨ (1 : Int32) = 1) ∧ Q (.inl (some (.int (1 : Int32)))) (HX (va_up I 15 ((I 15) + (1 : Int32))) A B) 0)) ∧ (¬ c = (73 : Int32) → ((c = (74 : Int32) → (((1 : Int32) = (0 : Int32) ∨ (1 : Int32) = 1) ∧ Q (.inl (some (.int (1 : Int32)))) (HX (va_up I 15 ((I 15) + (1 : Int32))) A B) 0)) ∧ (¬ c = (74 : Int32) → ((c = (90 : Int32) → (((1 : Int32) = (0 : Int32) ∨ (1 : Int32) = 1) ∧ Q (.inl (some (.int (1 : Int32)))) (HX (va_up I 15 ((I 15) + (1 : Int32))) A B) 0)) ∧ (¬ c = (90 : Int32) → ((c < (48 : Int32) → (((0 : Int32) = (0 : Int32) ∨ (0 : Int32) = 1) ∧ Q (.inl (some (.int (0 : Int32)))) (HX (va_up I 15 ((I 15) + (1 : Int32))) A B) 0)) ∧ (¬ c < (48 : Int32) → ((((48 : Int32) + (nI l)) ≤ c → (((0 : Int32) = (0 : Int32) ∨ (0 : Int32) = 1) ∧ Q (.inl (some (.int (0 : Int32)))) (HX (va_up I 15 ((I 15) + (1 : Int32))) A B) 0)) ∧ (¬ ((48 : Int32) + (nI l)) ≤ c → (((1 : Int32) = (0 : Int32) ∨ (1 : Int32) = 1) ∧ Q (.inl (some (.int (1 : Int32)))) (HX (va_up I 15 ((I 15) + (1 : Int32))) A B) 0)))))))))))
    rw [e, nI_1]
    unfold tyc cdg at hy hn
    refine ⟨fun z => ?_, fun z => ⟨fun z1 => ?_, fun z1 => ⟨fun z2 => ?_, fun z2 => ⟨fun z3 => ?_, fun z3 => ⟨fun z4 => ?_, fun z4 => ?_⟩⟩⟩⟩⟩
    · rw [if_pos z] at hy
      exact ⟨Or.inr rfl, hy rfl⟩
    · rw [if_neg z, if_pos z1] at hy
      exact ⟨Or.inr rfl, hy rfl⟩
    · rw [if_neg z, if_neg z1, if_pos z2] at hy
      exact ⟨Or.inr rfl, hy rfl⟩
    · rw [if_neg z, if_neg z1, if_neg z2, if_pos z3] at hn
      exact ⟨Or.inl rfl, hn (by decide) _⟩
    · rw [if_neg z, if_neg z1, if_neg z2, if_neg z3, if_pos z4] at hn
      exact ⟨Or.inl rfl, hn (by decide) _⟩
    · rw [if_neg z, if_neg z1, if_neg z2, if_neg z3, if_neg z4] at hy
      exact ⟨Or.inr rfl, hy rfl⟩
  · rw [tch_8 q (by omega)] at hn
    have := hn (by rw [tyc_0]; decide) (I 15)
    rw [up_same] at this
    exact br_n (nI_nlt (b := 8) q (by omega)) ⟨Or.inl rfl, this⟩
theorem p_M_type_l {A : Nat → Nat → Int32} {B : Nat → Nat → Int64} {Q : xQ} {t : Int64} {l : Nat} : ∀ (k i : Nat) (I : Nat → Int32), i + k = 8 → I 15 = nI i → (tyc (tch t (nI (bkF t k i))) l = true → Q (.inl (some (.int 1))) (HX (va_up I 15 (nI (bkF t k i + 1))) A B) 0) → (¬ tyc (tch t (nI (bkF t k i))) l = true → ∀ x, Q (.inl (some (.int 0))) (HX (va_up I 15 x) A B) 0) → xG tb_M_type Q (0, [some (.ref 24), some (.long t), none, some (.int (nI l)), none], [], (HX I A B), 0)
  | 0, i, I, e, e15, hy, hn => by
    refine xG.go [0, 14, 35, 51] 60 ?_
    show (((8 : Int32) ≤ (I 15) → xG tb_M_type Q (35, [some (.ref 24), some (.long t), none, some (.int (nI l)), none], [], (HX I A B), 0)) ∧ (¬ (8 : Int32) ≤ (I 15) → xG tb_M_type Q (14, [some (.ref 24), some (.long t), none, some (.int (nI l)), none], [.int (I 15), .long t], (HX I A B), 0)))
    rw [e15]
    exact br_y (nI_le (a := 8) (by omega) (by omega)) (p_M_type_e e15 (by omega) hy hn)
  | k + 1, i, I, e, e15, hy, hn => by
    refine xG.go [0, 14, 35, 51] 60 ?_
    show (((8 : Int32) ≤ (I 15) → xG tb_M_type Q (35, [some (.ref 24), some (.long t), none, some (.int (nI l)), none], [], (HX I A B), 0)) ∧ (¬ (8 : Int32) ≤ (I 15) → xG tb_M_type Q (14, [some (.ref 24), some (.long t), none, some (.int (nI l)), none], [.int (I 15), .long t], (HX I A B), 0)))
    rw [e15]
    refine br_n (nI_ge (b := 8) (by omega) (by omega)) ?_
    refine xG.call (F := xRun tb_M_charAt 3) rfl rfl (p_M_charAt (by omega) ?_)
    refine xG.go [0, 14, 35, 51] 60 ?_
    show (((tch t (nI i)) = (91 : Int32) → xG tb_M_type Q (0, [some (.ref 24), some (.long t), none, some (.int (nI l)), none], [], (HX (va_up I 15 ((I 15) + (1 : Int32))) A B), 0)) ∧ (¬ (tch t (nI i)) = (91 : Int32) → xG tb_M_type Q (35, [some (.ref 24), some (.long t), none, some (.int (nI l)), none], [], (HX I A B), 0)))
    rw [e15, nI_1]
    unfold bkF at hy hn
    refine ⟨fun z => ?_, fun z => ?_⟩
    · rw [if_pos z] at hy hn
      exact p_M_type_l k (i + 1) (va_up I 15 (nI (i + 1))) (by omega) rfl (by rw [up_up]; exact hy) (fun q x => by rw [up_up]; exact hn q x)
    · rw [if_neg z] at hy hn
      exact p_M_type_e e15 (by omega) hy hn
theorem p_M_type {I : Nat → Int32} {A : Nat → Nat → Int32} {B : Nat → Nat → Int64} {Q : xQ} {t : Int64} {l i : Nat} (e : I 15 = nI i) (hi : i ≤ 8) (hy : ¬ pT t l i = 0 → Q (.inl (some (.int 1))) (HX (va_up I 15 (nI (pT t l i))) A B) 0) (hn : pT t l i = 0 → ∀ x, Q (.inl (some (.int 0))) (HX (va_up I 15 x) A B) 0) : xRun tb_M_type 5 [.ref 24, .long t, .int (nI l)] (HX I A B) Q := by
  refine ⟨Nat.le_of_ble_eq_true rfl, p_M_type_l (8 - i) i I (by omega) e (fun z => ?_) (fun z => hn (if_neg z))⟩
  have e2 : pT t l i = bkF t (8 - i) i + 1 := if_pos z
  rw [e2] at hy
  exact hy (by omega)
