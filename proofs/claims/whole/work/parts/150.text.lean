-- THE PURE PART, Text: what each method of the tables answers
theorem xG.call {tb : xT} {Q : xQ} {pc np rc rk n : Nat} {l : xL} {st : List Value} {h : xH} {F : xP} (ht : xlk tb pc = some (o_call F np rc rk)) (hb : (Nat.ble np st.length && (Nat.ble (xcs (st.drop np)) 8 && Nat.ble (n + rk) rc)) = true)
    (hF : F (st.take np).reverse h (fun r h' n' => match r with
      | .inl none => xG tb Q (pc + 3, l, st.drop np, h', n + n')
      | .inl (some v) => xG tb Q (pc + 3, l, v :: st.drop np, h', n + n')
      | .inr X => Q (.inr X) h' (n + n'))) : xG tb Q (pc, l, st, h, n) := by
  refine xG.step ?_
  unfold xStep
  rw [ht]
  show o_call F np rc rk (pc, l, st, h, n) (xG tb Q) Q
  unfold o_call
  show (bif (Nat.ble np st.length && (Nat.ble (xcs (st.drop np)) 8 && Nat.ble (n + rk) rc)) then _ else False)
  rw [hb]
  exact hF
theorem xG.callV {tb : xT} {Q : xQ} {pc ci np rc rk n a : Nat} {l : xL} {st r : List Value} {h : xH} {F : xP} {fs : List Value} (ht : xlk tb pc = some (o_callV F ci np rc rk)) (hd : st.drop np = .ref a :: r) (ha : h[a]? = some (.inr (ci, fs))) (hb : (Nat.ble (np + 1) st.length && (Nat.ble (xcs (st.drop (np + 1))) 8 && Nat.ble (n + rk) rc)) = true)
    (hF : F (st.take (np + 1)).reverse h (fun r h' n' => match r with
      | .inl none => xG tb Q (pc + 3, l, st.drop (np + 1), h', n + n')
      | .inl (some v) => xG tb Q (pc + 3, l, v :: st.drop (np + 1), h', n + n')
      | .inr X => Q (.inr X) h' (n + n'))) : xG tb Q (pc, l, st, h, n) := by
  refine xG.step ?_
  unfold xStep
  rw [ht]
  show o_callV F ci np rc rk (pc, l, st, h, n) (xG tb Q) Q
  unfold o_callV
  show (match st.drop np with | .ref a :: _ => (match h[a]? with | some (.inr (cj, _)) => bif Nat.beq cj ci then o_call F (np + 1) rc rk (pc, l, st, h, n) (xG tb Q) Q else False | _ => False) | _ => False)
  rw [hd]
  show (match h[a]? with | some (.inr (cj, _)) => bif Nat.beq cj ci then o_call F (np + 1) rc rk (pc, l, st, h, n) (xG tb Q) Q else False | _ => False)
  rw [ha]
  show (bif Nat.beq ci ci then o_call F (np + 1) rc rk (pc, l, st, h, n) (xG tb Q) Q else False)
  rw [Nat.beq_refl]
  show o_call F (np + 1) rc rk (pc, l, st, h, n) (xG tb Q) Q
  unfold o_call
  show (bif (Nat.ble (np + 1) st.length && (Nat.ble (xcs (st.drop (np + 1))) 8 && Nat.ble (n + rk) rc)) then _ else False)
  rw [hb]
  exact hF
/-- a truth as the machine has it -/
def bI (b : Bool) : Int32 := if b then 1 else 0
theorem bI01 (b : Bool) : bI b = 0 ∨ bI b = 1 := by cases b <;> simp [bI]
theorem bI0 (b : Bool) : bI b = 0 ↔ b = false := by cases b <;> simp [bI]
/-- character i of a text, 0 where there is none -/
def tch (t : Int64) (i : Int32) : Int32 := if i < 0 then 0 else if i < 8 then (xushr t (8 * i)).toInt32 &&& 255 else 0
theorem p_T_charAt {t : Int64} {i : Int32} {h : xH} {Q : xQ} (hq : Q (.inl (some (.int (tch t i)))) h 0) : xRun tb_T_charAt 3 [.long t, .int i] h Q := by
  refine ⟨Nat.le_of_ble_eq_true rfl, xG.go [] 30 ?_⟩
  show ((i < 0 → Q (.inl (some (.int (0 : Int32)))) h 0) ∧ (¬ i < 0 → ((i < (8 : Int32) → Q (.inl (some (.int ((xushr t ((8 : Int32) * i)).toInt32 &&& (255 : Int32))))) h 0) ∧ (¬ i < (8 : Int32) → Q (.inl (some (.int (0 : Int32)))) h 0))))
  unfold tch at hq
  refine ⟨fun h1 => ?_, fun h1 => ⟨fun h2 => ?_, fun h2 => ?_⟩⟩
  · rw [if_pos h1] at hq; exact hq
  · rw [if_neg h1, if_pos h2] at hq; exact hq
  · rw [if_neg h1, if_neg h2] at hq; exact hq
def isLet (c : Int32) : Bool := if c < 97 then (if c < 65 then false else if 90 < c then false else true) else if c ≤ 122 then true else (if c < 65 then false else if 90 < c then false else true)
def isDig (c : Int32) : Bool := if c < 48 then false else if 57 < c then false else true
theorem p_T_isLetter {c : Int32} {h : xH} {Q : xQ} (hq : Q (.inl (some (.int (bI (isLet c))))) h 0) : xRun tb_T_isLetter 1 [.int c] h Q := by
  refine ⟨Nat.le_of_ble_eq_true rfl, xG.go [] 30 ?_⟩
  show ((c < (97 : Int32) → ((c < (65 : Int32) → (((0 : Int32) = (0 : Int32) ∨ (0 : Int32) = 1) ∧ Q (.inl (some (.int (0 : Int32)))) h 0)) ∧ (¬ c < (65 : Int32) → (((90 : Int32) < c → (((0 : Int32) = (0 : Int32) ∨ (0 : Int32) = 1) ∧ Q (.inl (some (.int (0 : Int32)))) h 0)) ∧ (¬ (90 : Int32) < c → (((1 : Int32) = (0 : Int32) ∨ (1 : Int32) = 1) ∧ Q (.inl (some (.int (1 : Int32)))) h 0)))))) ∧ (¬ c < (97 : Int32) → ((c ≤ (122 : Int32) → (((1 : Int32) = (0 : Int32) ∨ (1 : Int32) = 1) ∧ Q (.inl (some (.int (1 : Int32)))) h 0)) ∧ (¬ c ≤ (122 : Int32) → ((c < (65 : Int32) → (((0 : Int32) = (0 : Int32) ∨ (0 : Int32) = 1) ∧ Q (.inl (some (.int (0 : Int32)))) h 0)) ∧ (¬ c < (65 : Int32) → (((90 : Int32) < c → (((0 : Int32) = (0 : Int32) ∨ (0 : Int32) = 1) ∧ Q (.inl (some (.int (0 : Int32)))) h 0)) ∧ (¬ (90 : Int32) < c → (((1 : Int32) = (0 : Int32) ∨ (1 : Int32) = 1) ∧ Q (.inl (some (.int (1 : Int32)))) h 0)))))))))
  unfold isLet at hq
  refine ⟨fun h1 => ⟨fun h2 => ?_, fun h2 => ⟨fun h3 => ?_, fun h3 => ?_⟩⟩, fun h1 => ⟨fun h2 => ?_, fun h2 => ⟨fun h3 => ?_, fun h3 => ⟨fun h4 => ?_, fun h4 => ?_⟩⟩⟩⟩
  · rw [if_pos h1, if_pos h2] at hq; exact ⟨Or.inl rfl, hq⟩
  · rw [if_pos h1, if_neg h2, if_pos h3] at hq; exact ⟨Or.inl rfl, hq⟩
  · rw [if_pos h1, if_neg h2, if_neg h3] at hq; exact ⟨Or.inr rfl, hq⟩
  · rw [if_neg h1, if_pos h2] at hq; exact ⟨Or.inr rfl, hq⟩
  · rw [if_neg h1, if_neg h2, if_pos h3] at hq; exact ⟨Or.inl rfl, hq⟩
  · rw [if_neg h1, if_neg h2, if_neg h3, if_pos h4] at hq; exact ⟨Or.inl rfl, hq⟩
  · rw [if_neg h1, if_neg h2, if_neg h3, if_neg h4] at hq; exact ⟨Or.inr rfl, hq⟩
theorem p_T_isDigit {c : Int32} {h : xH} {Q : xQ} (hq : Q (.inl (some (.int (bI (isDig c))))) h 0) : xRun tb_T_isDigit 1 [.int c] h Q := by
  refine ⟨Nat.le_of_ble_eq_true rfl, xG.go [] 30 ?_⟩
  show ((c < (48 : Int32) → (((0 : Int32) = (0 : Int32) ∨ (0 : Int32) = 1) ∧ Q (.inl (some (.int (0 : Int32)))) h 0)) ∧ (¬ c < (48 : Int32) → (((57 : Int32) < c → (((0 : Int32) = (0 : Int32) ∨ (0 : Int32) = 1) ∧ Q (.inl (some (.int (0 : Int32)))) h 0)) ∧ (¬ (57 : Int32) < c → (((1 : Int32) = (0 : Int32) ∨ (1 : Int32) = 1) ∧ Q (.inl (some (.int (1 : Int32)))) h 0)))))
  unfold isDig at hq
  refine ⟨fun h1 => ?_, fun h1 => ⟨fun h2 => ?_, fun h2 => ?_⟩⟩
  · rw [if_pos h1] at hq; exact ⟨Or.inl rfl, hq⟩
  · rw [if_neg h1, if_pos h2] at hq; exact ⟨Or.inl rfl, hq⟩
  · rw [if_neg h1, if_neg h2] at hq; exact ⟨Or.inr rfl, hq⟩
/-- the length counted from behind -/
def tlenF (t : Int64) : Nat → Nat
  | 0 => 0
  | k + 1 => if tch t (nI k) = 0 then tlenF t k else k + 1
theorem p_T_length_l {t : Int64} {h : xH} {Q : xQ} : ∀ (k : Nat), k ≤ 8 → Q (.inl (some (.int (nI (tlenF t k))))) h 0 → xG tb_T_length Q (3, [some (.long t), none, some (.int (nI k))], [], h, 0)
  | 0, _, hq => by
    refine xG.go [3, 11] 30 ?_
    show (((nI 0) ≤ 0 → Q (.inl (some (.int (nI 0)))) h 0) ∧ (¬ (nI 0) ≤ 0 → xG tb_T_length Q (11, [some (.long t), none, some (.int (nI 0))], [.int ((nI 0) - (1 : Int32)), .long t], h, 0)))
    exact ⟨fun _ => hq, fun h1 => absurd (by decide : nI 0 ≤ 0) h1⟩
  | k + 1, hk, hq => by
    refine xG.go [3, 11] 30 ?_
    show (((nI (k + 1)) ≤ 0 → Q (.inl (some (.int (nI (k + 1))))) h 0) ∧ (¬ (nI (k + 1)) ≤ 0 → xG tb_T_length Q (11, [some (.long t), none, some (.int (nI (k + 1)))], [.int ((nI (k + 1)) - (1 : Int32)), .long t], h, 0)))
    refine ⟨fun h1 => absurd h1 (nI_nle (by omega) (by omega)), fun _ => ?_⟩
    refine xG.call (F := xRun tb_T_charAt 3) rfl rfl ?_
    refine p_T_charAt (t := t) (i := nI (k + 1) - 1) ?_
    refine xG.go [3, 11] 30 ?_
    rw [nI_pred]
    show (((tch t (nI k)) = 0 → xG tb_T_length Q (3, [some (.long t), none, some (.int ((nI (k + 1)) + (-1 : Int32)))], [], h, 0)) ∧ (¬ (tch t (nI k)) = 0 → Q (.inl (some (.int (nI (k + 1))))) h 0))
    unfold tlenF at hq
    refine ⟨fun h1 => ?_, fun h1 => ?_⟩
    · rw [if_pos h1] at hq
      have e : nI (k + 1) + (-1) = nI k := pk_m1 k
      rw [e]
      exact p_T_length_l k (by omega) hq
    · rw [if_neg h1] at hq; exact hq
def tlen (t : Int64) : Nat := tlenF t 8
theorem p_T_length {t : Int64} {h : xH} {Q : xQ} (hq : Q (.inl (some (.int (nI (tlen t))))) h 0) : xRun tb_T_length 3 [.long t] h Q := by
  refine ⟨Nat.le_of_ble_eq_true rfl, xG.go [3, 11] 30 ?_⟩
  show xG tb_T_length Q (3, [some (.long t), none, some (.int 8)], [], h, 0)
  exact p_T_length_l 8 (Nat.le_refl 8) hq
