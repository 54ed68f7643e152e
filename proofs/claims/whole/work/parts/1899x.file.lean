-- what a class's file is
theorem cgo_split {P : Nat → Bool} : ∀ (k l c : Nat), cgo P (k + l) c = cgo P k c + cgo P l (c + k)
  | 0, l, c => by rw [Nat.zero_add]; show _ = 0 + cgo P l c; omega
  | k + 1, l, c => by
    rw [show k + 1 + l = (k + l) + 1 by omega]
    show (if P c = true then 1 else 0) + cgo P (k + l) (c + 1) = (if P c = true then 1 else 0) + cgo P k (c + 1) + cgo P l (c + (k + 1))
    rw [cgo_split k l (c + 1), show c + 1 + k = c + (k + 1) by omega]
    omega
theorem cgo_two {P : Nat → Bool} {a b : Nat} (hab : a < b) (hb : b < 8) (h1 : P a = false) (h2 : P b = false) : cgo P 8 0 ≤ 6 := by
  have e : cgo P 8 0 = cgo P (a + (1 + ((b - a - 1) + (1 + (7 - b))))) 0 := by congr 1; omega
  have f1 : cgo P 1 a = 0 := by show (if P a = true then 1 else 0) + 0 = 0; rw [h1]; rfl
  have f2 : cgo P 1 b = 0 := by show (if P b = true then 1 else 0) + 0 = 0; rw [h2]; rfl
  rw [e, cgo_split, cgo_split, cgo_split, cgo_split, Nat.zero_add, show a + 1 + (b - a - 1) = b by omega, f1, f2]
  have q1 := cgo_le (P := P) a 0
  have q2 := cgo_le (P := P) (b - a - 1) (a + 1)
  have q3 := cgo_le (P := P) (7 - b) (b + 1)
  omega
theorem dxF_len {N : Nat → Int64} {d : Int64} : ∀ (k i : Nat), (dxF N d i k).length ≤ k + 9 * cgo (fun i => cdg (tch d (nI i)) 8) k i
  | 0, i => Nat.zero_le _
  | k + 1, i => by
    have ih := dxF_len (N := N) (d := d) k (i + 1)
    unfold dxF cgo
    rw [List.length_append]
    by_cases w : cdg (tch d (nI i)) 8 = true
    · have := tlen_le (N (tch d (nI i) - 48).toNatClampNeg)
      rw [if_pos w, if_pos w, List.length_append, List.length_cons, tx_len, List.length_singleton]
      omega
    · rw [if_neg w, if_neg w, List.length_singleton]
      omega
theorem cdg_dig {c : Int32} (h : isDig c = false) : cdg c 8 = false := by
  unfold isDig at h
  unfold cdg
  by_cases w : c < 48
  · rw [if_pos w]
  · rw [if_neg w] at h ⊢
    by_cases z : 57 < c
    · have e : (48 : Int32) + nI 8 = 56 := by decide
      rw [e, if_pos (Int32.le_of_lt (Int32.lt_trans (by decide : (56 : Int32) < 57) z))]
    · rw [if_neg z] at h; cases h
theorem dx_len {N : Nat → Int64} {d : Int64} {n : Nat} (h : okD n d) : (dx N d).length ≤ 62 := by
  obtain ⟨l, h1, h2, h3, h4, i, j, hij, hj, z1, z2⟩ := h
  have e : tlen d = l := tlen_is h2 (Or.inr (h3 (l - 1) (by omega)).1) h4
  unfold dx
  rw [e]
  have q1 := dxF_len (N := N) (d := d) l 0
  have q2 := cgo_split (P := fun i => cdg (tch d (nI i)) 8) l (8 - l) 0
  rw [show l + (8 - l) = 8 by omega] at q2
  have q3 := cgo_two (P := fun i => cdg (tch d (nI i)) 8) hij hj (cdg_dig z1) (cdg_dig z2)
  omega
abbrev fst_ : Type := List (List Int32) × List Int32
def opT (s : fst_) (x : List Int32) : fst_ := (addP s.1 x, s.2 ++ [nI (kn x s.1 + 1)])
def opN (s : fst_) (b : Int32) : fst_ := (s.1, s.2 ++ [b])
def n01 (x : Int32) : Int32 := if x = 0 then 0 else 1
/-- name and superclass -/
def cl1 (A : Nat → Nat → Int32) (B : Nat → Nat → Int64) (c : Nat) : fst_ := if A 4 c = -1 then opN (opT ([], []) (tx (B 2 c))) 0 else opT (opT ([], []) (tx (B 2 c))) (tx (B 2 (A 4 c).toNatClampNeg))
def cl0 (A : Nat → Nat → Int32) (B : Nat → Nat → Int64) (c : Nat) : fst_ := opN (opN (cl1 A B c) (n01 (A 5 c))) (A 6 c)
def clM (A : Nat → Nat → Int32) (B : Nat → Nat → Int64) (c : Nat) : Nat → Nat → fst_ → fst_
  | 0, _, s => s
  | k + 1, j, s => clM A B c k (j + 1) (opN (opT (opT s (tx (B 8 (8 * c + j)))) (dx (B 2) (B 10 (8 * c + j)))) (n01 (A 11 (8 * c + j))))
def clF (A : Nat → Nat → Int32) (B : Nat → Nat → Int64) (c k : Nat) : fst_ := clM A B c k 0 (cl0 A B c)
def fileL (s : fst_) : List Int32 := (202 :: nI s.1.length :: fl s.1) ++ s.2
theorem addP_len (p : List (List Int32)) (x : List Int32) : (addP p x).length ≤ p.length + 1 := by
  unfold addP
  split
  · omega
  · rw [List.length_append, List.length_singleton]; omega
theorem opT_len (s : fst_) (x : List Int32) : (opT s x).1.length ≤ s.1.length + 1 ∧ (opT s x).2.length = s.2.length + 1 := ⟨addP_len _ _, by show (s.2 ++ [_]).length = _; rw [List.length_append, List.length_singleton]⟩
theorem opN_len (s : fst_) (b : Int32) : (opN s b).1.length = s.1.length ∧ (opN s b).2.length = s.2.length + 1 := ⟨rfl, by show (s.2 ++ [_]).length = _; rw [List.length_append, List.length_singleton]⟩
/-- what a file may be made of -/
abbrev fOk (A : Nat → Nat → Int32) (B : Nat → Nat → Int64) (c k : Nat) : Prop :=
  c < 8 ∧ (A 4 c = -1 ∨ ∃ p, p < 8 ∧ A 4 c = nI p) ∧ k ≤ 6 ∧ A 6 c = nI k ∧ (∀ j, j < k → (dx (B 2) (B 10 (8 * c + j))).length ≤ 62)
